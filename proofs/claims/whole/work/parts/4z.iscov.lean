/-- the class's look over the clauses of a function -/
def y_L (W : Nat → Nat → Int) (R : Nat → Int) (r : Nat) (x : Int) (o : Nat) : Prop := o < 64 ∧ (∀ q : Nat, q < 6 → (o.testBit q = true ↔ q < r ∧ ¬ y_df (W q) R)) ∧ ((o = 0 ∧ x = 12) ∨ ∃ k : Nat, k < 12 ∧ x = k ∧ R k = -1 ∧ ∃ q : Nat, q < r ∧ ¬ y_df (W q) R ∧ W q k ≠ -1 ∧ ∀ s : Nat, s < k → W q s = -1 ∨ R s ≠ -1)
theorem y_L_0 (W : Nat → Nat → Int) (R : Nat → Int) : y_L W R 0 12 0 := ⟨by decide, fun q _ => ⟨fun h => by simp at h, fun h => by omega⟩, Or.inl ⟨rfl, rfl⟩⟩
theorem y_L_d {W : Nat → Nat → Int} {R : Nat → Int} {r : Nat} {x : Int} {o : Nat} (h : y_L W R r x o) (hd : y_df (W r) R) : y_L W R (r + 1) x o := by
  obtain ⟨h1, h2, h3⟩ := h
  refine ⟨h1, fun q hq => ?_, ?_⟩
  · rw [h2 q hq]
    constructor
    · intro h; exact ⟨by omega, h.2⟩
    · intro h
      refine ⟨?_, h.2⟩
      by_cases hqr : q = r
      · subst hqr; exact absurd hd h.2
      · omega
  · rcases h3 with h | ⟨k, k1, k2, k3, q, q1, q2⟩
    · exact Or.inl h
    · exact Or.inr ⟨k, k1, k2, k3, q, by omega, q2⟩
theorem y_cm_nd {W R : Nat → Int} {x : Int} (h : y_cm W R 12 x) : ¬ y_df W R := fun ⟨s, s1, s2, s3, s4⟩ => by
  rcases h.1 s s1 with h9 | h9 | h9
  · exact s2 h9
  · exact s3 h9
  · exact s4 h9
theorem y_L_o {W : Nat → Nat → Int} {R : Nat → Int} {r : Nat} {x : Int} {o : Nat} (hr : r < 6) (h : y_L W R r x o) {x3 : Int} (hc : y_cm (W r) R 12 x3) (h12 : x3 ≠ 12) : y_L W R (r + 1) (if x3 < x then x3 else x) (o ||| 2 ^ r) := by
  obtain ⟨h1, h2, h3⟩ := h
  have hnd := y_cm_nd hc
  obtain ⟨k, k1, k2, k3, k4, k5⟩ := hc.2.resolve_left (fun h9 => h12 h9.1)
  refine ⟨Nat.or_lt_two_pow (n := 6) h1 (Nat.pow_lt_pow_right (by decide) hr), fun q hq => ?_, Or.inr ?_⟩
  · rw [Nat.testBit_or, Bool.or_eq_true, h2 q hq, Nat.testBit_two_pow, decide_eq_true_iff]
    constructor
    · rintro (h | h)
      · exact ⟨by omega, h.2⟩
      · subst h; exact ⟨by omega, hnd⟩
    · intro h
      by_cases hqr : q = r
      · exact Or.inr hqr.symm
      · exact Or.inl ⟨by omega, h.2⟩
  · rcases h3 with ⟨-, h4⟩ | ⟨k', l1, l2, l3, q, l4, l5⟩
    · rw [if_pos (by omega)]
      exact ⟨k, k1, k2, k4, r, by omega, hnd, k3, k5⟩
    · by_cases hx : x3 < x
      · rw [if_pos hx]
        exact ⟨k, k1, k2, k4, r, by omega, hnd, k3, k5⟩
      · rw [if_neg hx]
        exact ⟨k', l1, l2, l3, q, by omega, l5⟩
theorem c_Co_isCovered_s (d : Nat) (M : g_M) (Mc : g_M) (f nf lv : Nat) (Q : Prop) (he : e29 M Mc) (hf6 : f < 6) (hnf : M 24 f = nf) (hnf6 : nf ≤ 6) (hun : ∀ k : Nat, k < 12 → Mc 29 k = -1 → lv < 12) (ihs : ∀ k o : Nat, k < 12 → o < 64 → Mc 29 k = -1 → (∀ q : Nat, q < 6 → (o.testBit q = true ↔ q < nf ∧ ¬ y_df (fun s => M 28 (12 * q + s)) (Mc 29))) → (∃ q : Nat, q < nf ∧ ¬ y_df (fun s => M 28 (12 * q + s)) (Mc 29) ∧ M 28 (12 * q + k) ≠ -1 ∧ ∀ s : Nat, s < k → M 28 (12 * q + s) = -1 ∨ Mc 29 s ≠ -1) → ConR y_Co_isCoveredWhenSplit w_Co_isCoveredWhenSplit (g_rm (d + 1)) LX Mc [g_r 27, g_i (f : Int), g_i (k : Int), g_i (o : Int), g_i (lv : Int)] LX (fun M2 v2 => (∃ z : Int, M2 = g_up Mc 29 k z) ∧ ∃ r : Int, v2 = some (g_i r) ∧ (r = 0 ∨ r = 1) ∧ (r = 1 ↔ Q))) : ConR y_Co_isCovered w_Co_isCovered (g_rm (d + 2)) LX Mc [g_r 27, g_i (f : Int), g_i (lv : Int)] LX (fun M2 v2 => M2 = Mc ∧ ∃ r : Int, v2 = some (g_i r) ∧ (r = 0 ∨ r = 1) ∧ ((∃ q : Nat, q < nf ∧ (∀ s : Nat, s < 12 → M 28 (12 * q + s) = -1 ∨ (Mc 29 s ≠ -1 ∧ Mc 29 s = M 28 (12 * q + s))) ∧ r = 1) ∨ ((∀ q : Nat, q < nf → y_df (fun s => M 28 (12 * q + s)) (Mc 29)) ∧ r = 0) ∨ (r = 1 ↔ Q))) := by
  refine con_ofR (av := [g_r 27, g_i (f : Int), g_i (lv : Int)]) (ls0 := [some (g_r 27), some (g_i (f : Int)), some (g_i (lv : Int)), none, none, none, none]) (by decide) rfl (Nat.le_of_ble_eq_true rfl) (g_hls (av := [g_r 27, g_i (f : Int), g_i (lv : Int)]) (k := 4)) (fun _ h9 => List.mem_cons_of_mem _ h9) ?_
  refine ev_bipush d_Co_isCovered_0 rfl (by decide +kernel) ⟨by decide, by decide⟩ ?_
  refine ev_istore_n (i := 3) d_Co_isCovered_2 rfl rfl (by decide) rfl ?_
  refine ev_iconst d_Co_isCovered_3 rfl ⟨by decide, by decide⟩ ?_
  refine ev_istore (i := 4) d_Co_isCovered_4 rfl (by decide) rfl ?_
  refine ev_iconst d_Co_isCovered_6 rfl ⟨by decide, by decide⟩ ?_
  refine ev_istore (i := 5) d_Co_isCovered_7 rfl (by decide) rfl ?_
  refine ev_wl (fun n ls1 => ∃ (r : Nat) (x : Int) (o : Nat), r ≤ nf ∧ n = nf - r ∧ ls1 = [some (g_r 27), some (g_i (f : Int)), some (g_i (lv : Int)), some (g_i x), some (g_i (o : Int)), some (g_i (r : Int)), none] ∧ y_L (fun r s => M 28 (12 * r + s)) (Mc 29) r x o) ?_ (n := nf) (⟨0, 12, 0, Nat.zero_le _, rfl, rfl, y_L_0 _ _⟩)
  intro n ls1 hP ih
  obtain ⟨r, x, o, hr, hn, rfl, hL⟩ := hP
  have ho64 := hL.1
  refine ev_iload (i := 5) d_Co_isCovered_9 rfl rfl ?_
  refine ev_aload_n (i := 0) d_Co_isCovered_11 rfl rfl rfl ?_
  refine ev_getR d_Co_isCovered_12 rfl lk_Co_22 lx_27 rfl ?_
  refine ev_iload_n (i := 1) d_Co_isCovered_15 rfl rfl rfl ?_
  refine ev_callV (As := [g_i (f : Int)]) d_Co_isCovered_16 rfl cl_Co_47 ((c_Cl_howManyOf (d + 1) Mc f hf6).eqr (b := (nf : Int)) (by rw [he.fn (k := 24) (by decide)]; exact hnf)) (g_hR (by decide)) g_h0 lx_19 rfl rfl (Nat.le_of_ble_eq_true rfl) rfl rfl ?_
  refine ev_icmp_ge (tgt := 68) d_Co_isCovered_19 (by decide) rfl (fun hz => ?_) (fun hz => ?_)
  · refine ev_iload (i := 4) d_Co_isCovered_68 rfl rfl ?_
    refine ev_if_eq (tgt := 79) d_Co_isCovered_70 (by decide) rfl (fun c2 => ?_) (fun c2 => ?_)
    · refine ev_iconst d_Co_isCovered_79 rfl ⟨by decide, by decide⟩ ?_
      exact ev_retIR d_Co_isCovered_80 (⟨rfl, 0, rfl, Or.inl rfl, Or.inr (Or.inl ⟨fun q hq => Classical.byContradiction fun h9 => absurd ((hL.2.1 q (by omega)).mpr ⟨by omega, h9⟩) (by rw [show o = 0 by omega]; simp), rfl⟩)⟩) (Or.inr ⟨rfl, by omega⟩)
    · have erf : r = nf := by omega
      subst erf
      obtain ⟨k, hk12, hxk, hR1, q, hq1, hq2⟩ := hL.2.2.resolve_left (fun h9 => c2 (by rw [h9.1]; rfl))
      have hl12 := hun k hk12 hR1
      refine ev_iload_n (i := 2) d_Co_isCovered_73 rfl rfl rfl ?_
      refine ev_bipush d_Co_isCovered_74 rfl (by decide +kernel) ⟨by decide, by decide⟩ ?_
      refine ev_icmp_lt_t (tgt := 81) d_Co_isCovered_76 (by decide) (by omega) ?_
      refine ev_aload_n (i := 0) d_Co_isCovered_81 rfl rfl rfl ?_
      refine ev_iload_n (i := 1) d_Co_isCovered_82 rfl rfl rfl ?_
      refine ev_iload_n (i := 3) d_Co_isCovered_83 rfl rfl rfl ?_
      refine ev_iload (i := 4) d_Co_isCovered_84 rfl rfl ?_
      refine ev_iload_n (i := 2) d_Co_isCovered_86 rfl rfl rfl ?_
      refine ev_callVR (As := [g_i (f : Int), g_i x, g_i (o : Int), g_i (lv : Int)]) d_Co_isCovered_87 rfl cl_Co_88 (by rw [hxk]; exact ihs k o hk12 ho64 hR1 hL.2.1 ⟨q, by omega, hq2⟩) (g_hR (by decide)) g_h0 lx_27 rfl rfl (Nat.le_of_ble_eq_true rfl) rfl rfl (fun M9 v9 g9 => ?_)
      obtain ⟨⟨z9, e9⟩, r9, rfl, hr9, hr8⟩ := g9
      rw [e9]
      refine ev_istore (i := 5) d_Co_isCovered_90 rfl (by decide) rfl ?_
      refine ev_aload_n (i := 0) d_Co_isCovered_92 rfl rfl rfl ?_
      refine ev_getR d_Co_isCovered_93 rfl lk_Co_30 lx_27 rfl ?_
      refine ev_iload_n (i := 3) d_Co_isCovered_96 rfl rfl rfl ?_
      refine ev_iconst d_Co_isCovered_97 rfl ⟨by decide, by decide⟩ ?_
      refine ev_iastore d_Co_isCovered_98 rfl lx_29 (by omega) (by omega) ?_
      rw [show Int.toNat (x) = k by omega]
      rw [g_up_up, g_up_id hR1]
      refine ev_iload (i := 5) d_Co_isCovered_99 rfl rfl ?_
      exact ev_retIR d_Co_isCovered_101 (⟨rfl, r9, rfl, hr9, Or.inr (Or.inr hr8)⟩) (Or.inr ⟨rfl, by omega⟩)
  · refine ev_aload_n (i := 0) d_Co_isCovered_22 rfl rfl rfl ?_
    refine ev_iload (i := 5) d_Co_isCovered_23 rfl rfl ?_
    refine ev_callVR (As := [g_i (r : Int)]) d_Co_isCovered_25 rfl cl_Co_80 (c_Co_compare (d + 0) Mc r (by omega)) (g_hR (by decide)) g_h0 lx_27 rfl rfl (Nat.le_of_ble_eq_true rfl) rfl rfl (fun M9 v9 g9 => ?_)
    obtain ⟨e9, x3, rfl, hx3⟩ := g9
    rw [e9]
    rw [he.fn (k := 28) (by decide)] at hx3
    refine ev_istore (i := 6) d_Co_isCovered_28 rfl (by decide) rfl ?_
    refine ev_iload (i := 6) d_Co_isCovered_30 rfl rfl ?_
    refine ev_bipush d_Co_isCovered_32 rfl (by decide +kernel) ⟨by decide, by decide⟩ ?_
    refine ev_icmp_ne (tgt := 39) d_Co_isCovered_34 (by decide) rfl (fun c1 => ?_) (fun c1 => ?_)
    · refine ev_iload (i := 6) d_Co_isCovered_39 rfl rfl ?_
      refine ev_bipush d_Co_isCovered_41 rfl (by decide +kernel) ⟨by decide, by decide⟩ ?_
      refine ev_icmp_eq (tgt := 62) d_Co_isCovered_43 (by decide) rfl (fun c3 => ?_) (fun c3 => ?_)
      · refine ev_iinc (z := (r : Int) + 1) d_Co_isCovered_62 rfl rfl (by decide) (g_w_id (by unfold g_rg; omega)) rfl ?_
        refine ev_goto (tgt := 9) d_Co_isCovered_65 (by decide) ?_
        exact ev_le (ih (nf - (r + 1)) [some (g_r 27), some (g_i (f : Int)), some (g_i (lv : Int)), some (g_i x), some (g_i (o : Int)), some (g_i ((r + 1 : Nat) : Int)), none] (by omega) ⟨r + 1, _, _, by omega, rfl, rfl, y_L_d hL (hx3.elim (fun h9 => h9.2) (fun h9 => by have := y_cm_in (Nat.le_refl _) h9; omega))⟩) rfl ⟨rfl, rfl, rfl, rfl, rfl, rfl, trivial⟩
      · have hcm := hx3.resolve_left (fun h9 => c3 h9.1)
        refine ev_iload_n (i := 3) d_Co_isCovered_46 rfl rfl rfl ?_
        refine ev_iload (i := 6) d_Co_isCovered_47 rfl rfl ?_
        refine ev_min (z := if x3 < x then x3 else x) d_Co_isCovered_49 rfl gx_min1 ⟨by show 1 ≤ d + 2; omega, by show 0 + 13 ≤ 40 * (d + 2); omega⟩ ⟨Nat.zero_le _, Nat.zero_le _⟩ (rfl) ?_
        refine ev_istore_n (i := 3) d_Co_isCovered_52 rfl rfl (by decide) rfl ?_
        refine ev_iload (i := 4) d_Co_isCovered_53 rfl rfl ?_
        refine ev_iconst d_Co_isCovered_55 rfl ⟨by decide, by decide⟩ ?_
        refine ev_iload (i := 5) d_Co_isCovered_56 rfl rfl ?_
        refine ev_ishl (z := ((2 ^ r : Nat) : Int)) d_Co_isCovered_58 rfl (y_shl6 r (by omega)) ?_
        refine ev_ior (z := ((o ||| 2 ^ r : Nat) : Int)) d_Co_isCovered_59 rfl (by have hp : 2 ^ r < 2 ^ 6 := Nat.pow_lt_pow_right (by decide) (by omega); rw [g_b_or (by omega) (by omega)]) ?_
        refine ev_istore (i := 4) d_Co_isCovered_60 rfl (by decide) rfl ?_
        refine ev_iinc (z := (r : Int) + 1) d_Co_isCovered_62 rfl rfl (by decide) (g_w_id (by unfold g_rg; omega)) rfl ?_
        refine ev_goto (tgt := 9) d_Co_isCovered_65 (by decide) ?_
        exact ev_le (ih (nf - (r + 1)) [some (g_r 27), some (g_i (f : Int)), some (g_i (lv : Int)), some (g_i (if x3 < x then x3 else x)), some (g_i (((o ||| 2 ^ r : Nat) : Int))), some (g_i ((r + 1 : Nat) : Int)), none] (by omega) ⟨r + 1, _, _, by omega, rfl, rfl, y_L_o (by omega) hL hcm c1⟩) rfl ⟨rfl, rfl, rfl, rfl, rfl, rfl, trivial⟩
    · refine ev_iconst d_Co_isCovered_37 rfl ⟨by decide, by decide⟩ ?_
      exact ev_retIR d_Co_isCovered_38 (⟨rfl, 1, rfl, Or.inr rfl, Or.inl ⟨r, by omega, fun s hs => by rcases hx3 with h9 | h9; exact absurd h9.1 (by omega); (rcases h9.2 with h8 | ⟨k, k1, k2, -⟩; (rcases h9.1 s hs with g | g | g; exact Or.inl g; exact Or.inl ((h8.2 s hs).resolve_right (fun g2 => g2 g)); exact (h8.2 s hs).imp id (fun g2 => ⟨g2, g⟩)); omega), rfl⟩⟩) (Or.inr ⟨rfl, by omega⟩)
