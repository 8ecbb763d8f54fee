/-- what the reference's check leaves -/
def m_f (M M2 : g_M) : Prop := ∀ k b : Nat, k < 59 ∨ 67 < k → ¬ (k = 45 ∧ (b = 17 ∨ b = 18 ∨ b = 22 ∨ b = 44)) → M2 k b = M k b
theorem g_up_at (M : g_M) (k i : Nat) (z : Int) : g_up M k i z k i = z := by simp [g_up]
theorem g_up_nj {M : g_M} {k i j : Nat} {z : Int} (h : j ≠ i) : g_up M k i z k j = M k j := by simp [g_up, h]
theorem m_f.rf (M : g_M) : m_f M M := fun _ _ _ _ => rfl
theorem m_f.tr {M M1 M2 : g_M} (h : m_f M M1) (h2 : m_f M1 M2) : m_f M M2 := fun k b h3 h4 => (h2 k b h3 h4).trans (h k b h3 h4)
theorem m_f.fn {M M1 : g_M} (h : m_f M M1) {k : Nat} (hk : k < 59 ∨ 67 < k) (h45 : k ≠ 45) : M1 k = M k := funext fun b => h k b hk (fun h9 => h45 h9.1)
theorem m_f.f0 {M M1 : g_M} (h : m_f M M1) : r_f0 M M1 := ⟨fun k hk => h.fn (by omega) (by omega), h 45 0 (by decide) (by decide), h 45 4 (by decide) (by decide), h 45 8 (by decide) (by decide), h 45 13 (by decide) (by decide)⟩
theorem m_f_up (M : g_M) {i : Nat} (hi : i = 17 ∨ i = 18 ∨ i = 22 ∨ i = 44) (z : Int) : m_f M (g_up M 45 i z) := fun k b h1 h2 => by simp only [g_up]; rw [if_neg (by omega)]
theorem e66.m_f {M M1 : g_M} (h : e66 M M1) : m_f M M1 := fun k b h1 _ => h k b (by omega)
theorem e65.m_f {M M1 : g_M} (h : e65 M M1) : m_f M M1 := fun k b h1 h2 => h k b (by omega) (by omega) (by omega) (by omega)
theorem e67.m_f {M M1 : g_M} (h : e67 M M1) : m_f M M1 := fun k b h1 _ => h k b (by omega)
theorem f61.m_f {M M1 : g_M} (h : f61 M M1) : m_f M M1 := fun k b h1 h2 => h k b (by omega) (by omega)
theorem c_Mo_check (d : Nat) (M : g_M) (m m2 mm : Nat) (hP : r_P M) (hm0b : M 45 0 = m) (hm4b : M 45 4 = m2) (hmm : M 45 13 = mm) : ConR y_Mo_check w_Mo_check (g_rm (d + 8)) LX M [g_r 45] LX (fun M2 v2 => ∃ v g : Int, v2 = some (g_i v) ∧ m_f M M2 ∧ M2 45 18 = g ∧ M2 45 17 = (if v = 0 then 1 else 0) ∧ w_X M v g) := by
  refine con_ofR (av := [g_r 45]) (ls0 := [some (g_r 45), none, none]) (by decide) rfl (Nat.le_of_ble_eq_true rfl) (g_hls (av := [g_r 45]) (k := 2)) (fun _ h9 => List.mem_cons_of_mem _ h9) ?_
  have hfa : m_f M (g_up (g_up M 45 44 0) 45 18 0) := (m_f_up M (Or.inr (Or.inr (Or.inr rfl))) 0).tr (m_f_up _ (Or.inr (Or.inl rfl)) 0)
  have hm0 : (g_up (g_up M 45 44 0) 45 18 0) 45 0 = m := hm0b
  have hm4 : (g_up (g_up M 45 44 0) 45 18 0) 45 4 = m2 := hm4b
  have hm8 : m ≤ 8 := by have := hP.1.2.2.2.1; omega
  have hm6 : m2 ≤ 6 := by have := hP.2.1.2.2.2.1; omega
  have hs46 : ∀ c : Nat, c < m → (0 ≤ M 46 c ∧ M 46 c < 3) ∧ (0 ≤ M 47 c ∧ M 47 c ≤ 3) ∧ (∀ i : Nat, (i : Int) < M 47 c → 0 ≤ M 48 (3 * c + i) ∧ M 48 (3 * c + i) < 3) ∧ True := fun c hc => by
    obtain ⟨-, a2, -, a4, a5⟩ := hP.1.2.2.2.2 c (by omega)
    exact ⟨a2, a4, fun i hi => (a5 i hi).2, trivial⟩
  have hs49 : ∀ c : Nat, c < m2 → (0 ≤ M 49 c ∧ M 49 c < 3) ∧ (0 ≤ M 50 c ∧ M 50 c ≤ 3) ∧ (∀ i : Nat, (i : Int) < M 50 c → 0 ≤ M 51 (3 * c + i) ∧ M 51 (3 * c + i) < 3) ∧ True := fun c hc => by
    obtain ⟨-, a2, -, a4, a5⟩ := hP.2.1.2.2.2.2 c (by omega)
    exact ⟨a2, a4, fun i hi => (a5 i hi).2, trivial⟩
  refine ev_aload_n (i := 0) d_Mo_check_0 rfl rfl rfl ?_
  refine ev_iconst d_Mo_check_1 rfl ⟨by decide, by decide⟩ ?_
  refine ev_putI d_Mo_check_2 rfl lk_Mo_104 fp_Mo_44 (Or.inl rfl) lx_45 rfl ?_
  refine ev_aload_n (i := 0) d_Mo_check_5 rfl rfl rfl ?_
  refine ev_iconst d_Mo_check_6 rfl ⟨by decide, by decide⟩ ?_
  refine ev_putI d_Mo_check_7 rfl lk_Mo_192 fp_Mo_18 (Or.inl rfl) lx_45 rfl ?_
  refine ev_aload_n (i := 0) d_Mo_check_10 rfl rfl rfl ?_
  refine ev_callVR (As := []) d_Mo_check_11 rfl cl_Mo_215 (c_Mo_allInhabited (d + 7) (g_up (g_up M 45 44 0) 45 18 0) m m2 hm0 hm8 hm4 hm6 hs46 hs49) (g_hR (by decide)) g_h0 lx_45 rfl rfl (Nat.le_of_ble_eq_true rfl) rfl rfl (fun Mb v9 g9 => ?_)
  obtain ⟨⟨r1, rfl, hr1, hi1⟩, he1⟩ := g9
  have hfb : m_f M Mb := hfa.tr he1.m_f
  have hPb := r_P_f0 hP hfb.f0
  have hi1 : r1 = 1 ↔ h_inh M = true := by
    rw [hi1, ← h_inh_f0 hfa.f0]
    unfold h_inh
    rw [hm0, hm4, Int.toNat_natCast, Int.toNat_natCast]
  have hb18 : Mb 45 18 = 0 := by rw [he1 45 18 (by decide)]; simp [g_up]
  refine ev_if_ne (tgt := 21) d_Mo_check_14 (by decide) rfl (fun c1 => ?_) (fun c1 => ?_)
  · refine ev_aload_n (i := 0) d_Mo_check_21 rfl rfl rfl ?_
    refine ev_callVR (As := []) d_Mo_check_22 rfl cl_Mo_219 (c_Mo_allTyped (d + 4) Mb mm hPb (by rw [hfb.f0.2.2.2.2]; exact hmm)) (g_hR (by decide)) g_h0 lx_45 rfl rfl (Nat.le_of_ble_eq_true rfl) rfl rfl (fun Mc v9 g9 => ?_)
    obtain ⟨r2, rfl, hr2, he2, hi2⟩ := g9
    have hfc : m_f M Mc := hfb.tr he2.m_f
    have hPc := r_P_f0 hP hfc.f0
    have hi2 : r2 = 1 ↔ w_T M := by
      rw [hi2, ← w_T_f0 hP hfb.f0]
      unfold w_T
      rw [hfb.f0.2.2.2.2, hmm]
      exact ⟨fun h c hc => h c (by omega), fun h c hc => h c (by omega)⟩
    have hc18 : Mc 45 18 = 0 := by rw [he2 45 18 (by decide) (by decide) (by decide) (by decide)]; exact hb18
    refine ev_if_ne (tgt := 32) d_Mo_check_25 (by decide) rfl (fun c2 => ?_) (fun c2 => ?_)
    · refine ev_iconst d_Mo_check_32 rfl ⟨by decide, by decide⟩ ?_
      refine ev_istore_n (i := 1) d_Mo_check_33 rfl rfl (by decide) rfl ?_
      refine ev_iconst d_Mo_check_34 rfl ⟨by decide, by decide⟩ ?_
      refine ev_istore_n (i := 2) d_Mo_check_35 rfl rfl (by decide) rfl ?_
      refine ev_wh (fun n ls1 M1 => ∃ (f : Nat) (w : Int), f ≤ m2 ∧ n = m2 - f ∧ ls1 = [some (g_r 45), some (g_i w), some (g_i (f : Int))] ∧ e67 Mc M1 ∧ ((w = 0 ∧ ∀ q : Nat, q < f → y_cov M q y_e) ∨ (w = 3 ∧ ¬ w_C M))) ?_ (n := m2) (⟨0, 0, Nat.zero_le _, rfl, rfl, e67.rf Mc, Or.inl ⟨rfl, fun q hq => by omega⟩⟩)
      intro n ls1 M1 hP0 ih
      obtain ⟨f, w, hf, hn, rfl, he3, hv⟩ := hP0
      refine ev_iload_n (i := 2) d_Mo_check_36 rfl rfl rfl ?_
      refine ev_aload_n (i := 0) d_Mo_check_37 rfl rfl rfl ?_
      refine ev_getI (z := (m2 : Int)) d_Mo_check_38 rfl lk_Mo_127 lx_45 rfl (by rw [(hfc.tr he3.m_f).f0.2.2.1]; exact hm4b) ?_
      refine ev_icmp_ge (tgt := 68) d_Mo_check_41 (by decide) rfl (fun c3 => ?_) (fun c3 => ?_)
      · refine ev_iload_n (i := 1) d_Mo_check_68 rfl rfl rfl ?_
        refine ev_if_ne (tgt := 83) d_Mo_check_69 (by decide) rfl (fun c5 => ?_) (fun c5 => ?_)
        · refine ev_iload_n (i := 1) d_Mo_check_83 rfl rfl rfl ?_
          refine ev_istore_n (i := 1) d_Mo_check_84 rfl rfl (by decide) rfl ?_
          refine ev_aload_n (i := 0) d_Mo_check_85 rfl rfl rfl ?_
          refine ev_iload_n (i := 1) d_Mo_check_86 rfl rfl rfl ?_
          refine ev_if_ne (tgt := 94) d_Mo_check_87 (by decide) rfl (fun c7 => ?_) (fun c7 => ?_)
          · refine ev_iconst d_Mo_check_94 rfl ⟨by decide, by decide⟩ ?_
            refine ev_putI d_Mo_check_95 rfl lk_Mo_123 fp_Mo_17 (Or.inr ⟨rfl, by decide⟩) lx_45 rfl ?_
            refine ev_iload_n (i := 1) d_Mo_check_98 rfl rfl rfl ?_
            exact ev_retIR d_Mo_check_99 (⟨w, 0, rfl, (hfc.tr he3.m_f).tr (m_f_up _ (Or.inl rfl) _), by rw [g_up_nj (by decide)]; exact ((he3 45 18 (by decide)).trans hc18), by rw [g_up_at]; first | rfl | exact (if_pos (by omega)).symm | exact (if_neg (by omega)).symm, Or.inr ⟨hi1.mp (by omega), Or.inr ⟨hi2.mp (by omega), Or.inl ⟨(hv.resolve_left (fun h9 => by omega)).2, (hv.resolve_left (fun h9 => by omega)).1, rfl⟩⟩⟩⟩) (Or.inl rfl)
          · refine ev_iconst d_Mo_check_90 rfl ⟨by decide, by decide⟩ ?_
            refine ev_goto (tgt := 95) d_Mo_check_91 (by decide) ?_
            refine ev_putI d_Mo_check_95 rfl lk_Mo_123 fp_Mo_17 (Or.inr ⟨rfl, by decide⟩) lx_45 rfl ?_
            refine ev_iload_n (i := 1) d_Mo_check_98 rfl rfl rfl ?_
            exact ev_retIR d_Mo_check_99 (⟨w, 0, rfl, (hfc.tr he3.m_f).tr (m_f_up _ (Or.inl rfl) _), by rw [g_up_nj (by decide)]; exact ((he3 45 18 (by decide)).trans hc18), by rw [g_up_at]; first | rfl | exact (if_pos (by omega)).symm | exact (if_neg (by omega)).symm, Or.inr ⟨hi1.mp (by omega), Or.inr ⟨hi2.mp (by omega), Or.inl ⟨(hv.resolve_left (fun h9 => by omega)).2, (hv.resolve_left (fun h9 => by omega)).1, rfl⟩⟩⟩⟩) (Or.inl rfl)
        · refine ev_aload_n (i := 0) d_Mo_check_72 rfl rfl rfl ?_
          refine ev_callVR (As := []) d_Mo_check_73 rfl cl_Mo_225 (c_Mo_isEnding (d + 0) M1 M1 mm (r_P_f0 hP (hfc.tr he3.m_f).f0) (f61.rf M1) (by rw [(hfc.tr he3.m_f).f0.2.2.2.2]; exact hmm)) (g_hR (by decide)) g_h0 lx_45 rfl rfl (Nat.le_of_ble_eq_true rfl) rfl rfl (fun M5 v9 g9 => ?_)
          obtain ⟨r5, rfl, hr5, hf5, L, hM5, hall5, hi5⟩ := g9
          have hfe : m_f M M5 := (hfc.tr he3.m_f).tr hf5.m_f
          have hC : w_C M := by
            rcases hv with h9 | h9
            · intro q hq
              exact h9.2 q (by rw [hm4b] at hq; omega)
            · omega
          have hR : ∀ x, o_R M1 x ↔ o_R M x := o_R_f0 hP (hfc.tr he3.m_f).f0
          have hQ : o_Q M (L.length : Int) := ⟨L, hM5.2.1, fun x hx => (hR x).mp (hM5.2.2.1 x hx), rfl, hM5.1, fun h9 x hx => hall5 (by omega) x ((hR x).mpr hx)⟩
          have hE : r5 = 1 ↔ ((L.length : Int) ≤ 200 ∧ o_E M) := by
            rw [hi5]
            constructor
            · intro h
              exact ⟨by omega, fun x hx => h.2 x (hall5 h.1 x ((hR x).mpr hx))⟩
            · intro h
              exact ⟨by omega, fun x hx => h.2 x ((hR x).mp (hM5.2.2.1 x hx))⟩
          refine ev_if_ne (tgt := 83) d_Mo_check_76 (by decide) rfl (fun c8 => ?_) (fun c8 => ?_)
          · refine ev_iload_n (i := 1) d_Mo_check_83 rfl rfl rfl ?_
            refine ev_istore_n (i := 1) d_Mo_check_84 rfl rfl (by decide) rfl ?_
            refine ev_aload_n (i := 0) d_Mo_check_85 rfl rfl rfl ?_
            refine ev_iload_n (i := 1) d_Mo_check_86 rfl rfl rfl ?_
            refine ev_if_ne (tgt := 94) d_Mo_check_87 (by decide) rfl (fun c7 => ?_) (fun c7 => ?_)
            · refine ev_iconst d_Mo_check_94 rfl ⟨by decide, by decide⟩ ?_
              refine ev_putI d_Mo_check_95 rfl lk_Mo_123 fp_Mo_17 (Or.inr ⟨rfl, by decide⟩) lx_45 rfl ?_
              refine ev_iload_n (i := 1) d_Mo_check_98 rfl rfl rfl ?_
              exact ev_retIR d_Mo_check_99 (⟨w, (L.length : Int), rfl, hfe.tr (m_f_up _ (Or.inl rfl) _), by rw [g_up_nj (by decide)]; exact hM5.2.2.2.1, by rw [g_up_at]; first | rfl | exact (if_pos (by omega)).symm | exact (if_neg (by omega)).symm, Or.inr ⟨hi1.mp (by omega), Or.inr ⟨hi2.mp (by omega), Or.inr ⟨hC, hQ, Or.inl ⟨(hE.mp (by omega)).1, (hE.mp (by omega)).2, by omega⟩⟩⟩⟩⟩) (Or.inl rfl)
            · refine ev_iconst d_Mo_check_90 rfl ⟨by decide, by decide⟩ ?_
              refine ev_goto (tgt := 95) d_Mo_check_91 (by decide) ?_
              refine ev_putI d_Mo_check_95 rfl lk_Mo_123 fp_Mo_17 (Or.inr ⟨rfl, by decide⟩) lx_45 rfl ?_
              refine ev_iload_n (i := 1) d_Mo_check_98 rfl rfl rfl ?_
              exact ev_retIR d_Mo_check_99 (⟨w, (L.length : Int), rfl, hfe.tr (m_f_up _ (Or.inl rfl) _), by rw [g_up_nj (by decide)]; exact hM5.2.2.2.1, by rw [g_up_at]; first | rfl | exact (if_pos (by omega)).symm | exact (if_neg (by omega)).symm, Or.inr ⟨hi1.mp (by omega), Or.inr ⟨hi2.mp (by omega), Or.inr ⟨hC, hQ, Or.inl ⟨(hE.mp (by omega)).1, (hE.mp (by omega)).2, by omega⟩⟩⟩⟩⟩) (Or.inl rfl)
          · refine ev_iconst d_Mo_check_79 rfl ⟨by decide, by decide⟩ ?_
            refine ev_goto (tgt := 84) d_Mo_check_80 (by decide) ?_
            refine ev_istore_n (i := 1) d_Mo_check_84 rfl rfl (by decide) rfl ?_
            refine ev_aload_n (i := 0) d_Mo_check_85 rfl rfl rfl ?_
            refine ev_iload_n (i := 1) d_Mo_check_86 rfl rfl rfl ?_
            refine ev_if_ne_t (tgt := 94) d_Mo_check_87 (by decide) (by decide) ?_
            refine ev_iconst d_Mo_check_94 rfl ⟨by decide, by decide⟩ ?_
            refine ev_putI d_Mo_check_95 rfl lk_Mo_123 fp_Mo_17 (Or.inr ⟨rfl, by decide⟩) lx_45 rfl ?_
            refine ev_iload_n (i := 1) d_Mo_check_98 rfl rfl rfl ?_
            exact ev_retIR d_Mo_check_99 (⟨4, (L.length : Int), rfl, hfe.tr (m_f_up _ (Or.inl rfl) _), by rw [g_up_nj (by decide)]; exact hM5.2.2.2.1, by rw [g_up_at]; first | rfl | exact (if_pos (by omega)).symm | exact (if_neg (by omega)).symm, Or.inr ⟨hi1.mp (by omega), Or.inr ⟨hi2.mp (by omega), Or.inr ⟨hC, hQ, Or.inr ⟨fun h9 => absurd (hE.mpr h9) (by omega), rfl⟩⟩⟩⟩⟩) (Or.inl rfl)
      · refine ev_iload_n (i := 1) d_Mo_check_44 rfl rfl rfl ?_
        refine ev_if_ne (tgt := 68) d_Mo_check_45 (by decide) rfl (fun c4 => ?_) (fun c4 => ?_)
        · refine ev_iload_n (i := 1) d_Mo_check_68 rfl rfl rfl ?_
          refine ev_if_ne (tgt := 83) d_Mo_check_69 (by decide) rfl (fun c5 => ?_) (fun c5 => ?_)
          · refine ev_iload_n (i := 1) d_Mo_check_83 rfl rfl rfl ?_
            refine ev_istore_n (i := 1) d_Mo_check_84 rfl rfl (by decide) rfl ?_
            refine ev_aload_n (i := 0) d_Mo_check_85 rfl rfl rfl ?_
            refine ev_iload_n (i := 1) d_Mo_check_86 rfl rfl rfl ?_
            refine ev_if_ne (tgt := 94) d_Mo_check_87 (by decide) rfl (fun c7 => ?_) (fun c7 => ?_)
            · refine ev_iconst d_Mo_check_94 rfl ⟨by decide, by decide⟩ ?_
              refine ev_putI d_Mo_check_95 rfl lk_Mo_123 fp_Mo_17 (Or.inr ⟨rfl, by decide⟩) lx_45 rfl ?_
              refine ev_iload_n (i := 1) d_Mo_check_98 rfl rfl rfl ?_
              exact ev_retIR d_Mo_check_99 (⟨w, 0, rfl, (hfc.tr he3.m_f).tr (m_f_up _ (Or.inl rfl) _), by rw [g_up_nj (by decide)]; exact ((he3 45 18 (by decide)).trans hc18), by rw [g_up_at]; first | rfl | exact (if_pos (by omega)).symm | exact (if_neg (by omega)).symm, Or.inr ⟨hi1.mp (by omega), Or.inr ⟨hi2.mp (by omega), Or.inl ⟨(hv.resolve_left (fun h9 => by omega)).2, (hv.resolve_left (fun h9 => by omega)).1, rfl⟩⟩⟩⟩) (Or.inl rfl)
            · refine ev_iconst d_Mo_check_90 rfl ⟨by decide, by decide⟩ ?_
              refine ev_goto (tgt := 95) d_Mo_check_91 (by decide) ?_
              refine ev_putI d_Mo_check_95 rfl lk_Mo_123 fp_Mo_17 (Or.inr ⟨rfl, by decide⟩) lx_45 rfl ?_
              refine ev_iload_n (i := 1) d_Mo_check_98 rfl rfl rfl ?_
              exact ev_retIR d_Mo_check_99 (⟨w, 0, rfl, (hfc.tr he3.m_f).tr (m_f_up _ (Or.inl rfl) _), by rw [g_up_nj (by decide)]; exact ((he3 45 18 (by decide)).trans hc18), by rw [g_up_at]; first | rfl | exact (if_pos (by omega)).symm | exact (if_neg (by omega)).symm, Or.inr ⟨hi1.mp (by omega), Or.inr ⟨hi2.mp (by omega), Or.inl ⟨(hv.resolve_left (fun h9 => by omega)).2, (hv.resolve_left (fun h9 => by omega)).1, rfl⟩⟩⟩⟩) (Or.inl rfl)
          · refine ev_aload_n (i := 0) d_Mo_check_72 rfl rfl rfl ?_
            refine ev_callVR (As := []) d_Mo_check_73 rfl cl_Mo_225 (c_Mo_isEnding (d + 0) M1 M1 mm (r_P_f0 hP (hfc.tr he3.m_f).f0) (f61.rf M1) (by rw [(hfc.tr he3.m_f).f0.2.2.2.2]; exact hmm)) (g_hR (by decide)) g_h0 lx_45 rfl rfl (Nat.le_of_ble_eq_true rfl) rfl rfl (fun M5 v9 g9 => ?_)
            obtain ⟨r5, rfl, hr5, hf5, L, hM5, hall5, hi5⟩ := g9
            have hfe : m_f M M5 := (hfc.tr he3.m_f).tr hf5.m_f
            have hC : w_C M := by
              rcases hv with h9 | h9
              · intro q hq
                exact h9.2 q (by rw [hm4b] at hq; omega)
              · omega
            have hR : ∀ x, o_R M1 x ↔ o_R M x := o_R_f0 hP (hfc.tr he3.m_f).f0
            have hQ : o_Q M (L.length : Int) := ⟨L, hM5.2.1, fun x hx => (hR x).mp (hM5.2.2.1 x hx), rfl, hM5.1, fun h9 x hx => hall5 (by omega) x ((hR x).mpr hx)⟩
            have hE : r5 = 1 ↔ ((L.length : Int) ≤ 200 ∧ o_E M) := by
              rw [hi5]
              constructor
              · intro h
                exact ⟨by omega, fun x hx => h.2 x (hall5 h.1 x ((hR x).mpr hx))⟩
              · intro h
                exact ⟨by omega, fun x hx => h.2 x ((hR x).mp (hM5.2.2.1 x hx))⟩
            refine ev_if_ne (tgt := 83) d_Mo_check_76 (by decide) rfl (fun c8 => ?_) (fun c8 => ?_)
            · refine ev_iload_n (i := 1) d_Mo_check_83 rfl rfl rfl ?_
              refine ev_istore_n (i := 1) d_Mo_check_84 rfl rfl (by decide) rfl ?_
              refine ev_aload_n (i := 0) d_Mo_check_85 rfl rfl rfl ?_
              refine ev_iload_n (i := 1) d_Mo_check_86 rfl rfl rfl ?_
              refine ev_if_ne (tgt := 94) d_Mo_check_87 (by decide) rfl (fun c7 => ?_) (fun c7 => ?_)
              · refine ev_iconst d_Mo_check_94 rfl ⟨by decide, by decide⟩ ?_
                refine ev_putI d_Mo_check_95 rfl lk_Mo_123 fp_Mo_17 (Or.inr ⟨rfl, by decide⟩) lx_45 rfl ?_
                refine ev_iload_n (i := 1) d_Mo_check_98 rfl rfl rfl ?_
                exact ev_retIR d_Mo_check_99 (⟨w, (L.length : Int), rfl, hfe.tr (m_f_up _ (Or.inl rfl) _), by rw [g_up_nj (by decide)]; exact hM5.2.2.2.1, by rw [g_up_at]; first | rfl | exact (if_pos (by omega)).symm | exact (if_neg (by omega)).symm, Or.inr ⟨hi1.mp (by omega), Or.inr ⟨hi2.mp (by omega), Or.inr ⟨hC, hQ, Or.inl ⟨(hE.mp (by omega)).1, (hE.mp (by omega)).2, by omega⟩⟩⟩⟩⟩) (Or.inl rfl)
              · refine ev_iconst d_Mo_check_90 rfl ⟨by decide, by decide⟩ ?_
                refine ev_goto (tgt := 95) d_Mo_check_91 (by decide) ?_
                refine ev_putI d_Mo_check_95 rfl lk_Mo_123 fp_Mo_17 (Or.inr ⟨rfl, by decide⟩) lx_45 rfl ?_
                refine ev_iload_n (i := 1) d_Mo_check_98 rfl rfl rfl ?_
                exact ev_retIR d_Mo_check_99 (⟨w, (L.length : Int), rfl, hfe.tr (m_f_up _ (Or.inl rfl) _), by rw [g_up_nj (by decide)]; exact hM5.2.2.2.1, by rw [g_up_at]; first | rfl | exact (if_pos (by omega)).symm | exact (if_neg (by omega)).symm, Or.inr ⟨hi1.mp (by omega), Or.inr ⟨hi2.mp (by omega), Or.inr ⟨hC, hQ, Or.inl ⟨(hE.mp (by omega)).1, (hE.mp (by omega)).2, by omega⟩⟩⟩⟩⟩) (Or.inl rfl)
            · refine ev_iconst d_Mo_check_79 rfl ⟨by decide, by decide⟩ ?_
              refine ev_goto (tgt := 84) d_Mo_check_80 (by decide) ?_
              refine ev_istore_n (i := 1) d_Mo_check_84 rfl rfl (by decide) rfl ?_
              refine ev_aload_n (i := 0) d_Mo_check_85 rfl rfl rfl ?_
              refine ev_iload_n (i := 1) d_Mo_check_86 rfl rfl rfl ?_
              refine ev_if_ne_t (tgt := 94) d_Mo_check_87 (by decide) (by decide) ?_
              refine ev_iconst d_Mo_check_94 rfl ⟨by decide, by decide⟩ ?_
              refine ev_putI d_Mo_check_95 rfl lk_Mo_123 fp_Mo_17 (Or.inr ⟨rfl, by decide⟩) lx_45 rfl ?_
              refine ev_iload_n (i := 1) d_Mo_check_98 rfl rfl rfl ?_
              exact ev_retIR d_Mo_check_99 (⟨4, (L.length : Int), rfl, hfe.tr (m_f_up _ (Or.inl rfl) _), by rw [g_up_nj (by decide)]; exact hM5.2.2.2.1, by rw [g_up_at]; first | rfl | exact (if_pos (by omega)).symm | exact (if_neg (by omega)).symm, Or.inr ⟨hi1.mp (by omega), Or.inr ⟨hi2.mp (by omega), Or.inr ⟨hC, hQ, Or.inr ⟨fun h9 => absurd (hE.mpr h9) (by omega), rfl⟩⟩⟩⟩⟩) (Or.inl rfl)
        · have hv2 := (hv.resolve_right (fun h9 => by omega)).2
          refine ev_aload_n (i := 0) d_Mo_check_48 rfl rfl rfl ?_
          refine ev_iload_n (i := 2) d_Mo_check_49 rfl rfl rfl ?_
          refine ev_callVR (As := [g_i (f : Int)]) d_Mo_check_50 rfl cl_Mo_222 (c_Mo_isCovered (d + 4) Mc M1 f mm m hPc (y_i_of hPc (by rw [h_inh_f0 hfc.f0]; exact hi1.mp (by omega))) he3 (by rw [hfc.f0.2.2.1, hm4b]; omega) (by rw [hfc.f0.2.2.2.2]; exact hmm) (by rw [hfc.f0.2.1]; exact hm0b)) (g_hR (by decide)) g_h0 lx_45 rfl rfl (Nat.le_of_ble_eq_true rfl) rfl rfl (fun M3 v9 g9 => ?_)
          obtain ⟨r3, rfl, hr3, he4, hi3⟩ := g9
          have hi3 : r3 = 1 ↔ y_cov M f y_e := by rw [hi3, y_cov_cg hfc.f0.e46 hfc.f0.2.1 hfc.f0.2.2.2.2]
          refine ev_if_eq (tgt := 60) d_Mo_check_53 (by decide) rfl (fun c6 => ?_) (fun c6 => ?_)
          · refine ev_iconst d_Mo_check_60 rfl ⟨by decide, by decide⟩ ?_
            refine ev_istore_n (i := 1) d_Mo_check_61 rfl rfl (by decide) rfl ?_
            refine ev_iinc (z := (f : Int) + 1) d_Mo_check_62 rfl rfl (by decide) (g_w_id (by unfold g_rg; omega)) rfl ?_
            refine ev_goto (tgt := 36) d_Mo_check_65 (by decide) ?_
            exact ev_le (ih (m2 - (f + 1)) [some (g_r 45), some (g_i 3), some (g_i ((f + 1 : Nat) : Int))] M3 (by omega) ⟨f + 1, 3, by omega, rfl, rfl, he4, Or.inr ⟨rfl, fun h9 => absurd (hi3.mpr (h9 f (by rw [hm4b]; omega))) (by omega)⟩⟩) rfl ⟨rfl, rfl, rfl, trivial⟩
          · refine ev_iconst d_Mo_check_56 rfl ⟨by decide, by decide⟩ ?_
            refine ev_goto (tgt := 61) d_Mo_check_57 (by decide) ?_
            refine ev_istore_n (i := 1) d_Mo_check_61 rfl rfl (by decide) rfl ?_
            refine ev_iinc (z := (f : Int) + 1) d_Mo_check_62 rfl rfl (by decide) (g_w_id (by unfold g_rg; omega)) rfl ?_
            refine ev_goto (tgt := 36) d_Mo_check_65 (by decide) ?_
            exact ev_le (ih (m2 - (f + 1)) [some (g_r 45), some (g_i 0), some (g_i ((f + 1 : Nat) : Int))] M3 (by omega) ⟨f + 1, 0, by omega, rfl, rfl, he4, Or.inl ⟨rfl, fun q hq => by by_cases hqf : q = f; (subst hqf; exact hi3.mp (by omega)); exact hv2 q (by omega)⟩⟩) rfl ⟨rfl, rfl, rfl, trivial⟩
    · refine ev_iconst d_Mo_check_28 rfl ⟨by decide, by decide⟩ ?_
      refine ev_goto (tgt := 33) d_Mo_check_29 (by decide) ?_
      refine ev_istore_n (i := 1) d_Mo_check_33 rfl rfl (by decide) rfl ?_
      refine ev_iconst d_Mo_check_34 rfl ⟨by decide, by decide⟩ ?_
      refine ev_istore_n (i := 2) d_Mo_check_35 rfl rfl (by decide) rfl ?_
      refine ev_iload_n (i := 2) d_Mo_check_36 rfl rfl rfl ?_
      refine ev_aload_n (i := 0) d_Mo_check_37 rfl rfl rfl ?_
      refine ev_getI (z := (m2 : Int)) d_Mo_check_38 rfl lk_Mo_127 lx_45 rfl (by rw [hfc.f0.2.2.1]; exact hm4b) ?_
      refine ev_icmp_ge (tgt := 68) d_Mo_check_41 (by decide) rfl (fun c3 => ?_) (fun c3 => ?_)
      · refine ev_iload_n (i := 1) d_Mo_check_68 rfl rfl rfl ?_
        refine ev_if_ne_t (tgt := 83) d_Mo_check_69 (by decide) (by decide) ?_
        refine ev_iload_n (i := 1) d_Mo_check_83 rfl rfl rfl ?_
        refine ev_istore_n (i := 1) d_Mo_check_84 rfl rfl (by decide) rfl ?_
        refine ev_aload_n (i := 0) d_Mo_check_85 rfl rfl rfl ?_
        refine ev_iload_n (i := 1) d_Mo_check_86 rfl rfl rfl ?_
        refine ev_if_ne_t (tgt := 94) d_Mo_check_87 (by decide) (by decide) ?_
        refine ev_iconst d_Mo_check_94 rfl ⟨by decide, by decide⟩ ?_
        refine ev_putI d_Mo_check_95 rfl lk_Mo_123 fp_Mo_17 (Or.inr ⟨rfl, by decide⟩) lx_45 rfl ?_
        refine ev_iload_n (i := 1) d_Mo_check_98 rfl rfl rfl ?_
        exact ev_retIR d_Mo_check_99 (⟨2, 0, rfl, hfc.tr (m_f_up _ (Or.inl rfl) _), by rw [g_up_nj (by decide)]; exact hc18, by rw [g_up_at]; first | rfl | exact (if_pos (by omega)).symm | exact (if_neg (by omega)).symm, Or.inr ⟨hi1.mp (by omega), Or.inl ⟨fun h9 => absurd (hi2.mpr h9) (by omega), rfl, rfl⟩⟩⟩) (Or.inl rfl)
      · refine ev_iload_n (i := 1) d_Mo_check_44 rfl rfl rfl ?_
        refine ev_if_ne_t (tgt := 68) d_Mo_check_45 (by decide) (by decide) ?_
        refine ev_iload_n (i := 1) d_Mo_check_68 rfl rfl rfl ?_
        refine ev_if_ne_t (tgt := 83) d_Mo_check_69 (by decide) (by decide) ?_
        refine ev_iload_n (i := 1) d_Mo_check_83 rfl rfl rfl ?_
        refine ev_istore_n (i := 1) d_Mo_check_84 rfl rfl (by decide) rfl ?_
        refine ev_aload_n (i := 0) d_Mo_check_85 rfl rfl rfl ?_
        refine ev_iload_n (i := 1) d_Mo_check_86 rfl rfl rfl ?_
        refine ev_if_ne_t (tgt := 94) d_Mo_check_87 (by decide) (by decide) ?_
        refine ev_iconst d_Mo_check_94 rfl ⟨by decide, by decide⟩ ?_
        refine ev_putI d_Mo_check_95 rfl lk_Mo_123 fp_Mo_17 (Or.inr ⟨rfl, by decide⟩) lx_45 rfl ?_
        refine ev_iload_n (i := 1) d_Mo_check_98 rfl rfl rfl ?_
        exact ev_retIR d_Mo_check_99 (⟨2, 0, rfl, hfc.tr (m_f_up _ (Or.inl rfl) _), by rw [g_up_nj (by decide)]; exact hc18, by rw [g_up_at]; first | rfl | exact (if_pos (by omega)).symm | exact (if_neg (by omega)).symm, Or.inr ⟨hi1.mp (by omega), Or.inl ⟨fun h9 => absurd (hi2.mpr h9) (by omega), rfl, rfl⟩⟩⟩) (Or.inl rfl)
  · refine ev_iconst d_Mo_check_17 rfl ⟨by decide, by decide⟩ ?_
    refine ev_goto (tgt := 33) d_Mo_check_18 (by decide) ?_
    refine ev_istore_n (i := 1) d_Mo_check_33 rfl rfl (by decide) rfl ?_
    refine ev_iconst d_Mo_check_34 rfl ⟨by decide, by decide⟩ ?_
    refine ev_istore_n (i := 2) d_Mo_check_35 rfl rfl (by decide) rfl ?_
    refine ev_iload_n (i := 2) d_Mo_check_36 rfl rfl rfl ?_
    refine ev_aload_n (i := 0) d_Mo_check_37 rfl rfl rfl ?_
    refine ev_getI (z := (m2 : Int)) d_Mo_check_38 rfl lk_Mo_127 lx_45 rfl (by rw [hfb.f0.2.2.1]; exact hm4b) ?_
    refine ev_icmp_ge (tgt := 68) d_Mo_check_41 (by decide) rfl (fun c3 => ?_) (fun c3 => ?_)
    · refine ev_iload_n (i := 1) d_Mo_check_68 rfl rfl rfl ?_
      refine ev_if_ne_t (tgt := 83) d_Mo_check_69 (by decide) (by decide) ?_
      refine ev_iload_n (i := 1) d_Mo_check_83 rfl rfl rfl ?_
      refine ev_istore_n (i := 1) d_Mo_check_84 rfl rfl (by decide) rfl ?_
      refine ev_aload_n (i := 0) d_Mo_check_85 rfl rfl rfl ?_
      refine ev_iload_n (i := 1) d_Mo_check_86 rfl rfl rfl ?_
      refine ev_if_ne_t (tgt := 94) d_Mo_check_87 (by decide) (by decide) ?_
      refine ev_iconst d_Mo_check_94 rfl ⟨by decide, by decide⟩ ?_
      refine ev_putI d_Mo_check_95 rfl lk_Mo_123 fp_Mo_17 (Or.inr ⟨rfl, by decide⟩) lx_45 rfl ?_
      refine ev_iload_n (i := 1) d_Mo_check_98 rfl rfl rfl ?_
      exact ev_retIR d_Mo_check_99 (⟨1, 0, rfl, hfb.tr (m_f_up _ (Or.inl rfl) _), by rw [g_up_nj (by decide)]; exact hb18, by rw [g_up_at]; first | rfl | exact (if_pos (by omega)).symm | exact (if_neg (by omega)).symm, Or.inl ⟨Bool.eq_false_iff.mpr (fun h9 => absurd (hi1.mpr h9) (by omega)), rfl, rfl⟩⟩) (Or.inl rfl)
    · refine ev_iload_n (i := 1) d_Mo_check_44 rfl rfl rfl ?_
      refine ev_if_ne_t (tgt := 68) d_Mo_check_45 (by decide) (by decide) ?_
      refine ev_iload_n (i := 1) d_Mo_check_68 rfl rfl rfl ?_
      refine ev_if_ne_t (tgt := 83) d_Mo_check_69 (by decide) (by decide) ?_
      refine ev_iload_n (i := 1) d_Mo_check_83 rfl rfl rfl ?_
      refine ev_istore_n (i := 1) d_Mo_check_84 rfl rfl (by decide) rfl ?_
      refine ev_aload_n (i := 0) d_Mo_check_85 rfl rfl rfl ?_
      refine ev_iload_n (i := 1) d_Mo_check_86 rfl rfl rfl ?_
      refine ev_if_ne_t (tgt := 94) d_Mo_check_87 (by decide) (by decide) ?_
      refine ev_iconst d_Mo_check_94 rfl ⟨by decide, by decide⟩ ?_
      refine ev_putI d_Mo_check_95 rfl lk_Mo_123 fp_Mo_17 (Or.inr ⟨rfl, by decide⟩) lx_45 rfl ?_
      refine ev_iload_n (i := 1) d_Mo_check_98 rfl rfl rfl ?_
      exact ev_retIR d_Mo_check_99 (⟨1, 0, rfl, hfb.tr (m_f_up _ (Or.inl rfl) _), by rw [g_up_nj (by decide)]; exact hb18, by rw [g_up_at]; first | rfl | exact (if_pos (by omega)).symm | exact (if_neg (by omega)).symm, Or.inl ⟨Bool.eq_false_iff.mpr (fun h9 => absurd (hi1.mpr h9) (by omega)), rfl, rfl⟩⟩) (Or.inl rfl)
