/-- all that a program is told by -/
def r_f0 (M M2 : g_M) : Prop := (∀ k : Nat, 0 < k ∧ k < 25 ∨ 46 ≤ k ∧ k < 59 → M2 k = M k) ∧ M2 45 0 = M 45 0 ∧ M2 45 4 = M 45 4 ∧ M2 45 8 = M 45 8 ∧ M2 45 13 = M 45 13
theorem r_f0.rf (M : g_M) : r_f0 M M := ⟨fun _ _ => rfl, rfl, rfl, rfl, rfl⟩
theorem r_f0.tr {M M1 M2 : g_M} (h : r_f0 M M1) (h2 : r_f0 M1 M2) : r_f0 M M2 := ⟨fun k hk => (h2.1 k hk).trans (h.1 k hk), h2.2.1.trans h.2.1, h2.2.2.1.trans h.2.2.1, h2.2.2.2.1.trans h.2.2.2.1, h2.2.2.2.2.trans h.2.2.2.2⟩
theorem r_f0.e46 {M M2 : g_M} (h : r_f0 M M2) : ∀ k : Nat, 46 ≤ k ∧ k < 59 → M2 k = M k := fun k hk => h.1 k (Or.inr hk)
theorem r_f0.ex {M M2 : g_M} (h : r_f0 M M2) : p_ex M M2 := by
  obtain ⟨ho, g0, g4, g8, g13⟩ := h
  have hq : ∀ t : Nat, q_w M2 t = q_w M t := by
    intro t'
    unfold q_w
    rw [ho 52 (by decide), ho 47 (by decide), ho 50 (by decide)]
  refine ⟨⟨by rw [g8]; exact Int.le_refl _, fun t' ht' => ⟨?_, hq t', fun k _ => ?_, ?_, ?_⟩⟩, g0, g4, g13, fun k hk => ho k (by omega)⟩
  · rw [ho 52 (by decide)]
  · rw [ho 53 (by decide)]
  · rw [ho 54 (by decide)]
  · rw [ho 55 (by decide)]
theorem r_P_f0 {M M2 : g_M} (hP : r_P M) (h : r_f0 M M2) : r_P M2 := by
  have hple := h.ex.1
  obtain ⟨ho, g0, g4, g8, g13⟩ := h
  obtain ⟨hC, hF, hT, hL⟩ := hP
  have h0 : M2 45 0 = M 45 0 := g0
  have h4 : M2 45 4 = M 45 4 := g4
  have h8 : M2 45 8 = M 45 8 := g8
  have h13 : M2 45 13 = M 45 13 := g13
  have hq : ∀ t : Nat, q_w M2 t = q_w M t := by
    intro t'
    unfold q_w
    rw [ho 52 (by decide), ho 47 (by decide), ho 50 (by decide)]
  have hlc : p_lc M M2 := by
    intro t' ht'
    rw [ho 10 (by decide), ho 11 (by decide), ho 12 (by decide), ho 13 (by decide), ho 14 (by decide), ho 15 (by decide), ho 16 (by decide), ho 17 (by decide), ho 18 (by decide)]
    exact ⟨rfl, rfl, rfl, fun _ _ => rfl, rfl, rfl, rfl, rfl, rfl⟩
  refine ⟨?_, ?_, ⟨?_, ?_, fun t' ht' => ?_, fun t' ht' => ?_, fun t' => ?_⟩, ?_⟩
  · obtain ⟨f1, f2, f3⟩ := hC
    refine ⟨by rw [ho 1 (by decide), h0]; exact f1, by rw [ho 1 (by decide)]; exact f2, ?_⟩
    rw [h0, ho 2 (by decide), ho 3 (by decide), ho 4 (by decide), ho 46 (by decide), ho 47 (by decide), ho 48 (by decide)]
    exact f3
  · obtain ⟨f1, f2, f3⟩ := hF
    refine ⟨by rw [ho 5 (by decide), h4]; exact f1, by rw [ho 5 (by decide)]; exact f2, ?_⟩
    rw [h4, ho 6 (by decide), ho 7 (by decide), ho 8 (by decide), ho 49 (by decide), ho 50 (by decide), ho 51 (by decide)]
    exact f3
  · rw [ho 9 (by decide), h8]; exact hT.1
  · refine ⟨by rw [h8]; exact hT.2.1.1, by rw [h8]; exact hT.2.1.2.1, fun t' ht' => ?_⟩
    rw [h8] at ht'
    rw [hq t', q_kids_le hple ht', ho 52 (by decide), ho 53 (by decide), ho 55 (by decide)]
    exact hT.2.1.2.2 t' ht'
  · rw [h8] at ht'
    exact r_t_le hT.2.1 hple hlc (by omega) (by omega) ht' (hT.2.2.1 t' ht')
  · rw [h8] at ht'
    rw [ho 12 (by decide), ho 14 (by decide), ho 16 (by decide), ho 17 (by decide), ho 18 (by decide)]
    exact hT.2.2.2.1 t' ht'
  · rw [ho 17 (by decide)]
    exact hT.2.2.2.2 t'
  · obtain ⟨l1, l2, l3, l4, l5⟩ := hL
    have h56 := ho 56 (by decide)
    refine ⟨by rw [ho 19 (by decide), h13]; exact l1, by rw [h13]; exact l2, by rw [h13]; exact l3, fun x hx => ?_, fun f hf => ?_⟩
    · rw [h13] at hx
      exact r_c_le hT.2.1 hple (fun f hf => ⟨by rw [ho 50 (by decide)], (hF.2.2.2.2 f hf).2.2.2.1.2⟩) (by omega) (fun k h1 h2 => ho k (by omega)) (l4 x hx)
    · rw [ho 24 (by decide), ho 23 (by decide), h13, s_cn_eq h56, h56]
      obtain ⟨m1, m2, m3⟩ := l5 f hf
      refine ⟨m1, m2, fun x hx hxf => ?_⟩
      rw [s_cn_eq h56]
      exact m3 x hx hxf
theorem o_273 (x : Nat) : x / 512 % 512 &&& 273 = 0 ↔ ¬ ∃ i, i < 3 ∧ o_S x (4 * i) = true := by
  have hb : ∀ p, p < 9 → (x / 512 % 512).testBit p = o_S x p := by
    intro p hp
    unfold o_S
    rw [show (512 : Nat) = 2 ^ 9 by decide, Nat.testBit_mod_two_pow, Nat.testBit_div_two_pow, decide_eq_true hp, Bool.true_and, Nat.add_comm]
  have h273 : ∀ p, p < 9 → (273 : Nat).testBit p = true → p = 0 ∨ p = 4 ∨ p = 8 := by decide
  have h3 : ∀ i, i < 3 → (273 : Nat).testBit (4 * i) = true := by decide
  constructor
  · rintro h ⟨i, hi, h1⟩
    have h2 := congrArg (fun n => n.testBit (4 * i)) h
    simp only [Nat.testBit_and, Nat.zero_testBit] at h2
    rw [hb _ (by omega), h1, h3 i hi] at h2
    exact absurd h2 (by decide)
  · intro h
    refine Nat.eq_of_testBit_eq fun p => ?_
    rw [Nat.testBit_and, Nat.zero_testBit]
    by_cases hp : p < 9
    · rw [hb p hp]
      cases h1 : (273 : Nat).testBit p
      · rw [Bool.and_false]
      · rw [Bool.and_true]
        refine Bool.eq_false_iff.mpr fun h2 => h ?_
        rcases h273 p hp h1 with rfl | rfl | rfl
        · exact ⟨0, by decide, h2⟩
        · exact ⟨1, by decide, h2⟩
        · exact ⟨2, by decide, h2⟩
    · have : (273 : Nat).testBit p = false := Nat.testBit_lt_two_pow (Nat.lt_of_lt_of_le (by decide : 273 < 2 ^ 9) (Nat.pow_le_pow_right (by decide) (by omega)))
      rw [this, Bool.and_false]
/-- a graph that repeats has a strict arc to itself -/
def o_ee (x : Nat) : Prop := o_f x = o_t x → o_c x x = x → ∃ i, i < 3 ∧ o_S x (4 * i) = true
theorem c_En_allEnd (d : Nat) (M : g_M) (M1 : g_M) (l : List Nat) (hD : o_D M M1 l) : ConR y_En_allEnd w_En_allEnd (g_rm (d + 2)) LX M1 [g_r 30] LX (fun M2 v2 => M2 = M1 ∧ ∃ r : Int, v2 = some (g_i r) ∧ (r = 0 ∨ r = 1) ∧ (r = 1 ↔ M1 30 7 = 0 ∧ ∀ x ∈ l, o_ee x)) := by
  refine con_ofR (av := [g_r 30]) (ls0 := [some (g_r 30), none, none]) (by decide) rfl (Nat.le_of_ble_eq_true rfl) (g_hls (av := [g_r 30]) (k := 2)) (fun _ h9 => List.mem_cons_of_mem _ h9) ?_
  refine ev_aload_n (i := 0) d_En_allEnd_0 rfl rfl rfl ?_
  refine ev_getI (z := M1 30 7) d_En_allEnd_1 rfl lk_En_82 lx_30 rfl (rfl) ?_
  refine ev_if_eq (tgt := 9) d_En_allEnd_4 (by decide) rfl (fun c0 => ?_) (fun c0 => ?_)
  · refine ev_iconst d_En_allEnd_9 rfl ⟨by decide, by decide⟩ ?_
    refine ev_istore_n (i := 1) d_En_allEnd_10 rfl rfl (by decide) rfl ?_
    refine ev_wl (fun n ls1 => ∃ i : Nat, i ≤ l.length ∧ n = l.length - i ∧ ls1 = [some (g_r 30), some (g_i (i : Int)), none] ∧ ∀ q x : Nat, q < i → l[q]? = some x → o_ee x) ?_ (n := l.length) (⟨0, Nat.zero_le _, rfl, rfl, fun q x hq => by omega⟩)
    intro n ls1 hP0 ih
    obtain ⟨i, hi, hn, rfl, hv⟩ := hP0
    have hl200 := hD.1.1
    refine ev_iload_n (i := 1) d_En_allEnd_11 rfl rfl rfl ?_
    refine ev_aload_n (i := 0) d_En_allEnd_12 rfl rfl rfl ?_
    refine ev_getI (z := (l.length : Int)) d_En_allEnd_13 rfl lk_En_79 lx_30 rfl (o_D_n hD) ?_
    refine ev_icmp_ge (tgt := 98) d_En_allEnd_16 (by decide) rfl (fun hz => ?_) (fun hz => ?_)
    · refine ev_iconst d_En_allEnd_98 rfl ⟨by decide, by decide⟩ ?_
      exact ev_retIR d_En_allEnd_99 (⟨rfl, 1, rfl, Or.inr rfl, ⟨fun _ => ⟨by omega, fun x hx => by obtain ⟨q, hq⟩ := List.getElem?_of_mem hx; exact hv q x (by have := (List.getElem?_eq_some_iff.mp hq).1; omega) hq⟩, fun _ => rfl⟩⟩) (Or.inr ⟨rfl, by omega⟩)
    · obtain ⟨xi, hxi⟩ : ∃ xi, l[i]? = some xi := ⟨_, List.getElem?_eq_getElem (by omega)⟩
      have hxi24 := hD.1.2.2.1 xi (List.mem_of_getElem? hxi)
      refine ev_aload_n (i := 0) d_En_allEnd_19 rfl rfl rfl ?_
      refine ev_getR d_En_allEnd_20 rfl lk_En_27 lx_30 rfl ?_
      refine ev_iload_n (i := 1) d_En_allEnd_23 rfl rfl rfl ?_
      refine ev_iaload (z := (xi : Int)) d_En_allEnd_24 rfl lx_32 (by omega) (by omega) (o_D_at hD hxi) ?_
      refine ev_callS (As := [g_i ((xi : Int))]) d_En_allEnd_25 rfl cl_En_102 (c_En_from (d + 1) M1 xi hxi24) (g_hR (by decide)) g_h0 rfl rfl (Nat.le_of_ble_eq_true rfl) rfl rfl ?_
      refine ev_aload_n (i := 0) d_En_allEnd_28 rfl rfl rfl ?_
      refine ev_getR d_En_allEnd_29 rfl lk_En_27 lx_30 rfl ?_
      refine ev_iload_n (i := 1) d_En_allEnd_32 rfl rfl rfl ?_
      refine ev_iaload (z := (xi : Int)) d_En_allEnd_33 rfl lx_32 (by omega) (by omega) (o_D_at hD hxi) ?_
      refine ev_callS (As := [g_i ((xi : Int))]) d_En_allEnd_34 rfl cl_En_99 (c_En_to (d + 1) M1 xi hxi24) (g_hR (by decide)) g_h0 rfl rfl (Nat.le_of_ble_eq_true rfl) rfl rfl ?_
      refine ev_icmp_ne (tgt := 68) d_En_allEnd_37 (by decide) rfl (fun c1 => ?_) (fun c1 => ?_)
      · refine ev_iconst d_En_allEnd_68 rfl ⟨by decide, by decide⟩ ?_
        refine ev_istore_n (i := 2) d_En_allEnd_69 rfl rfl (by decide) rfl ?_
        refine ev_iload_n (i := 2) d_En_allEnd_70 rfl rfl rfl ?_
        refine ev_if_eq_t (tgt := 92) d_En_allEnd_71 (by decide) (by decide) ?_
        refine ev_iinc (z := (i : Int) + 1) d_En_allEnd_92 rfl rfl (by decide) (g_w_id (by unfold g_rg; omega)) rfl ?_
        refine ev_goto (tgt := 11) d_En_allEnd_95 (by decide) ?_
        refine ev_le (ih (l.length - (i + 1)) [some (g_r 30), some (g_i ((i + 1 : Nat) : Int)), none] (by omega) ⟨i + 1, by omega, rfl, rfl, fun q x hq hqx => ?_⟩) rfl ⟨rfl, rfl, trivial⟩
        by_cases hqi : q = i
        · subst hqi
          have ex : x = xi := by rw [hxi] at hqx; simpa using hqx.symm
          rw [ex]; exact fun h9 _ => absurd (by rw [h9]) c1
        · exact hv q x (by omega) hqx
      · refine ev_aload_n (i := 0) d_En_allEnd_40 rfl rfl rfl ?_
        refine ev_getR d_En_allEnd_41 rfl lk_En_27 lx_30 rfl ?_
        refine ev_iload_n (i := 1) d_En_allEnd_44 rfl rfl rfl ?_
        refine ev_iaload (z := (xi : Int)) d_En_allEnd_45 rfl lx_32 (by omega) (by omega) (o_D_at hD hxi) ?_
        refine ev_aload_n (i := 0) d_En_allEnd_46 rfl rfl rfl ?_
        refine ev_getR d_En_allEnd_47 rfl lk_En_27 lx_30 rfl ?_
        refine ev_iload_n (i := 1) d_En_allEnd_50 rfl rfl rfl ?_
        refine ev_iaload (z := (xi : Int)) d_En_allEnd_51 rfl lx_32 (by omega) (by omega) (o_D_at hD hxi) ?_
        refine ev_callS (As := [g_i ((xi : Int)), g_i ((xi : Int))]) d_En_allEnd_52 rfl cl_En_105 (c_En_compose (d + 0) M1 xi xi hxi24 hxi24) (g_hR (by decide)) g_h0 rfl rfl (Nat.le_of_ble_eq_true rfl) rfl rfl ?_
        refine ev_aload_n (i := 0) d_En_allEnd_55 rfl rfl rfl ?_
        refine ev_getR d_En_allEnd_56 rfl lk_En_27 lx_30 rfl ?_
        refine ev_iload_n (i := 1) d_En_allEnd_59 rfl rfl rfl ?_
        refine ev_iaload (z := (xi : Int)) d_En_allEnd_60 rfl lx_32 (by omega) (by omega) (o_D_at hD hxi) ?_
        refine ev_icmp_ne (tgt := 68) d_En_allEnd_61 (by decide) rfl (fun c2 => ?_) (fun c2 => ?_)
        · refine ev_iconst d_En_allEnd_68 rfl ⟨by decide, by decide⟩ ?_
          refine ev_istore_n (i := 2) d_En_allEnd_69 rfl rfl (by decide) rfl ?_
          refine ev_iload_n (i := 2) d_En_allEnd_70 rfl rfl rfl ?_
          refine ev_if_eq_t (tgt := 92) d_En_allEnd_71 (by decide) (by decide) ?_
          refine ev_iinc (z := (i : Int) + 1) d_En_allEnd_92 rfl rfl (by decide) (g_w_id (by unfold g_rg; omega)) rfl ?_
          refine ev_goto (tgt := 11) d_En_allEnd_95 (by decide) ?_
          refine ev_le (ih (l.length - (i + 1)) [some (g_r 30), some (g_i ((i + 1 : Nat) : Int)), none] (by omega) ⟨i + 1, by omega, rfl, rfl, fun q x hq hqx => ?_⟩) rfl ⟨rfl, rfl, trivial⟩
          by_cases hqi : q = i
          · subst hqi
            have ex : x = xi := by rw [hxi] at hqx; simpa using hqx.symm
            rw [ex]; exact fun _ h9 => absurd (by rw [h9]) c2
          · exact hv q x (by omega) hqx
        · refine ev_iconst d_En_allEnd_64 rfl ⟨by decide, by decide⟩ ?_
          refine ev_goto (tgt := 69) d_En_allEnd_65 (by decide) ?_
          refine ev_istore_n (i := 2) d_En_allEnd_69 rfl rfl (by decide) rfl ?_
          refine ev_iload_n (i := 2) d_En_allEnd_70 rfl rfl rfl ?_
          refine ev_if_eq_f (tgt := 92) d_En_allEnd_71 (by decide) rfl (by decide) ?_
          refine ev_aload_n (i := 0) d_En_allEnd_74 rfl rfl rfl ?_
          refine ev_getR d_En_allEnd_75 rfl lk_En_27 lx_30 rfl ?_
          refine ev_iload_n (i := 1) d_En_allEnd_78 rfl rfl rfl ?_
          refine ev_iaload (z := (xi : Int)) d_En_allEnd_79 rfl lx_32 (by omega) (by omega) (o_D_at hD hxi) ?_
          refine ev_callS (As := [g_i ((xi : Int))]) d_En_allEnd_80 rfl cl_En_128 (c_En_strict (d + 1) M1 xi hxi24) (g_hR (by decide)) g_h0 rfl rfl (Nat.le_of_ble_eq_true rfl) rfl rfl ?_
          refine ev_sipush d_En_allEnd_83 rfl (by decide +kernel) ⟨by decide, by decide⟩ ?_
          refine ev_iand (z := ((xi / 512 % 512 &&& 273 : Nat) : Int)) d_En_allEnd_86 rfl (by have h9 : xi / 512 % 512 < 512 := Nat.mod_lt _ (by decide); rw [show ((273 : Int)) = (((273 : Nat)) : Int) from rfl, g_b_and (by omega) (by omega)]) ?_
          refine ev_if_ne (tgt := 92) d_En_allEnd_87 (by decide) rfl (fun c5 => ?_) (fun c5 => ?_)
          · refine ev_iinc (z := (i : Int) + 1) d_En_allEnd_92 rfl rfl (by decide) (g_w_id (by unfold g_rg; omega)) rfl ?_
            refine ev_goto (tgt := 11) d_En_allEnd_95 (by decide) ?_
            refine ev_le (ih (l.length - (i + 1)) [some (g_r 30), some (g_i ((i + 1 : Nat) : Int)), none] (by omega) ⟨i + 1, by omega, rfl, rfl, fun q x hq hqx => ?_⟩) rfl ⟨rfl, rfl, trivial⟩
            by_cases hqi : q = i
            · subst hqi
              have ex : x = xi := by rw [hxi] at hqx; simpa using hqx.symm
              rw [ex]; exact fun _ _ => Classical.byContradiction fun h9 => c5 (by rw [(o_273 xi).mpr h9]; rfl)
            · exact hv q x (by omega) hqx
          · refine ev_iconst d_En_allEnd_90 rfl ⟨by decide, by decide⟩ ?_
            exact ev_retIR d_En_allEnd_91 (⟨rfl, 0, rfl, Or.inl rfl, ⟨fun h9 => absurd h9 (by decide), fun h9 => absurd (h9.2 xi (List.mem_of_getElem? hxi) (by omega) (by omega)) ((o_273 xi).mp (by omega))⟩⟩) (Or.inr ⟨rfl, by omega⟩)
  · refine ev_iconst d_En_allEnd_7 rfl ⟨by decide, by decide⟩ ?_
    exact ev_retIR d_En_allEnd_8 (⟨rfl, 0, rfl, Or.inl rfl, ⟨fun h9 => absurd h9 (by decide), fun h9 => absurd h9.1 c0⟩⟩) (Or.inr ⟨rfl, by omega⟩)
