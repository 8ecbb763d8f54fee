theorem y_div : ∀ s : Nat, s < 12 → g_b (fun a b => a / b) (s : Int) 4 = ((s / 4 : Nat) : Int) := by decide +kernel
theorem y_rem : ∀ s : Nat, s < 12 → g_b (fun a b => a - a / b * b) (s : Int) 4 = ((s % 4 : Nat) : Int) := by decide +kernel
theorem y_bit : ∀ o : Nat, o < 64 → ∀ r : Nat, r < 6 → g_b (fun a b => a &&& b) (g_b (fun a b => a >>> (b &&& 31)) (o : Int) (r : Int)) 1 = if o.testBit r = true then 1 else 0 := by decide +kernel
theorem y_shl6 : ∀ r : Nat, r < 6 → g_b (fun a b => a <<< (b &&& 31)) 1 (r : Int) = ((2 ^ r : Nat) : Int) := fun r hr => s_shl r (by omega)
/-- a clause's wants against a row, up to a slot -/
def y_cm (W R : Nat → Int) (i : Nat) (x : Int) : Prop := (∀ s : Nat, s < i → W s = -1 ∨ R s = -1 ∨ R s = W s) ∧ ((x = 12 ∧ ∀ s : Nat, s < i → W s = -1 ∨ R s ≠ -1) ∨ ∃ k : Nat, k < i ∧ x = k ∧ W k ≠ -1 ∧ R k = -1 ∧ ∀ s : Nat, s < k → W s = -1 ∨ R s ≠ -1)
def y_df (W R : Nat → Int) : Prop := ∃ s : Nat, s < 12 ∧ W s ≠ -1 ∧ R s ≠ -1 ∧ R s ≠ W s
theorem y_cm_0 (W R : Nat → Int) : y_cm W R 0 12 := ⟨fun s hs => by omega, Or.inl ⟨rfl, fun s hs => by omega⟩⟩
theorem y_cm_s {W R : Nat → Int} {i : Nat} {x : Int} (h : W i = -1 ∨ (R i ≠ -1 ∧ R i = W i)) (hc : y_cm W R i x) : y_cm W R (i + 1) x := by
  obtain ⟨c1, c2⟩ := hc
  refine ⟨fun s hs => ?_, ?_⟩
  · by_cases hsi : s = i
    · subst hsi
      rcases h with h | h
      · exact Or.inl h
      · exact Or.inr (Or.inr h.2)
    · exact c1 s (by omega)
  · rcases c2 with ⟨h1, h2⟩ | ⟨k, k1, k2, k3, k4, k5⟩
    · refine Or.inl ⟨h1, fun s hs => ?_⟩
      by_cases hsi : s = i
      · subst hsi
        rcases h with h | h
        · exact Or.inl h
        · exact Or.inr h.1
      · exact h2 s (by omega)
    · exact Or.inr ⟨k, by omega, k2, k3, k4, k5⟩
theorem y_cm_a {W R : Nat → Int} {i : Nat} {x : Int} (hi : i < 12) (h1 : W i ≠ -1) (h2 : R i = -1) (hc : y_cm W R i x) : y_cm W R (i + 1) (if (i : Int) < x then (i : Int) else x) := by
  obtain ⟨c1, c2⟩ := hc
  refine ⟨fun s hs => ?_, Or.inr ?_⟩
  · by_cases hsi : s = i
    · subst hsi
      exact Or.inr (Or.inl h2)
    · exact c1 s (by omega)
  · rcases c2 with ⟨g1, g2⟩ | ⟨k, k1, k2, k3, k4, k5⟩
    · exact ⟨i, by omega, by rw [if_pos (by omega)], h1, h2, g2⟩
    · exact ⟨k, by omega, by rw [if_neg (by omega), k2], k3, k4, k5⟩
theorem y_cm_in {W R : Nat → Int} {i : Nat} {x : Int} (hi : i ≤ 12) (h : y_cm W R i x) : 0 ≤ x ∧ x ≤ 12 := by
  rcases h.2 with ⟨h1, -⟩ | ⟨k, k1, k2, -⟩ <;> omega
theorem c_Co_compare (d : Nat) (M : g_M) (r : Nat) (hr : r < 6) : ConR y_Co_compare w_Co_compare (g_rm (d + 1)) LX M [g_r 27, g_i (r : Int)] LX (fun M2 v2 => M2 = M ∧ ∃ x : Int, v2 = some (g_i x) ∧ ((x = 13 ∧ y_df (fun s => M 28 (12 * r + s)) (M 29)) ∨ y_cm (fun s => M 28 (12 * r + s)) (M 29) 12 x)) := by
  refine con_ofR (av := [g_r 27, g_i (r : Int)]) (ls0 := [some (g_r 27), some (g_i (r : Int)), none, none, none]) (by decide) rfl (Nat.le_of_ble_eq_true rfl) (g_hls (av := [g_r 27, g_i (r : Int)]) (k := 3)) (fun _ h9 => List.mem_cons_of_mem _ h9) ?_
  refine ev_bipush d_Co_compare_0 rfl (by decide +kernel) ⟨by decide, by decide⟩ ?_
  refine ev_istore_n (i := 2) d_Co_compare_2 rfl rfl (by decide) rfl ?_
  refine ev_iconst d_Co_compare_3 rfl ⟨by decide, by decide⟩ ?_
  refine ev_istore_n (i := 3) d_Co_compare_4 rfl rfl (by decide) rfl ?_
  refine ev_wl (fun n ls1 => ∃ (i : Nat) (x : Int), i ≤ 12 ∧ n = 12 - i ∧ ls1 = [some (g_r 27), some (g_i (r : Int)), some (g_i x), some (g_i (i : Int)), none] ∧ y_cm (fun s => M 28 (12 * r + s)) (M 29) i x) ?_ (n := 12) (⟨0, 12, Nat.zero_le _, rfl, rfl, y_cm_0 _ _⟩)
  intro n ls1 hP ih
  obtain ⟨i, x, hi, hn, rfl, hcm⟩ := hP
  have hx12 := y_cm_in hi hcm
  refine ev_iload_n (i := 3) d_Co_compare_5 rfl rfl rfl ?_
  refine ev_bipush d_Co_compare_6 rfl (by decide +kernel) ⟨by decide, by decide⟩ ?_
  refine ev_icmp_ge (tgt := 72) d_Co_compare_8 (by decide) rfl (fun hz => ?_) (fun hz => ?_)
  · refine ev_iload_n (i := 2) d_Co_compare_72 rfl rfl rfl ?_
    exact ev_retIR d_Co_compare_73 (⟨rfl, x, rfl, Or.inr (by have e : i = 12 := (by omega); subst e; exact hcm)⟩) (Or.inl rfl)
  · refine ev_aload_n (i := 0) d_Co_compare_11 rfl rfl rfl ?_
    refine ev_getR d_Co_compare_12 rfl lk_Co_26 lx_27 rfl ?_
    refine ev_iload_n (i := 1) d_Co_compare_15 rfl rfl rfl ?_
    refine ev_bipush d_Co_compare_16 rfl (by decide +kernel) ⟨by decide, by decide⟩ ?_
    refine ev_imul (z := 12 * (r : Int)) d_Co_compare_18 rfl (by rw [g_w_id (by unfold g_rg; omega)]; omega) ?_
    refine ev_iload_n (i := 3) d_Co_compare_19 rfl rfl rfl ?_
    refine ev_iadd (z := 12 * (r : Int) + (i : Int)) d_Co_compare_20 rfl (g_w_id (by unfold g_rg; omega)) ?_
    refine ev_iaload (z := M 28 (12 * r + i)) d_Co_compare_21 rfl lx_28 (by omega) (by omega) (by rw [show (12 * (r : Int) + (i : Int)).toNat = 12 * r + i by omega]) ?_
    refine ev_istore (i := 4) d_Co_compare_22 rfl (by decide) rfl ?_
    refine ev_iload (i := 4) d_Co_compare_24 rfl rfl ?_
    refine ev_iconst d_Co_compare_26 rfl ⟨by decide, by decide⟩ ?_
    refine ev_icmp_ne (tgt := 33) d_Co_compare_27 (by decide) rfl (fun c1 => ?_) (fun c1 => ?_)
    · refine ev_aload_n (i := 0) d_Co_compare_33 rfl rfl rfl ?_
      refine ev_getR d_Co_compare_34 rfl lk_Co_30 lx_27 rfl ?_
      refine ev_iload_n (i := 3) d_Co_compare_37 rfl rfl rfl ?_
      refine ev_iaload (z := M 29 i) d_Co_compare_38 rfl lx_29 (by omega) (by omega) (rfl) ?_
      refine ev_iconst d_Co_compare_39 rfl ⟨by decide, by decide⟩ ?_
      refine ev_icmp_ne (tgt := 52) d_Co_compare_40 (by decide) rfl (fun c2 => ?_) (fun c2 => ?_)
      · refine ev_aload_n (i := 0) d_Co_compare_52 rfl rfl rfl ?_
        refine ev_getR d_Co_compare_53 rfl lk_Co_30 lx_27 rfl ?_
        refine ev_iload_n (i := 3) d_Co_compare_56 rfl rfl rfl ?_
        refine ev_iaload (z := M 29 i) d_Co_compare_57 rfl lx_29 (by omega) (by omega) (rfl) ?_
        refine ev_iload (i := 4) d_Co_compare_58 rfl rfl ?_
        refine ev_icmp_eq (tgt := 66) d_Co_compare_60 (by decide) rfl (fun c3 => ?_) (fun c3 => ?_)
        · refine ev_iinc (z := (i : Int) + 1) d_Co_compare_66 rfl rfl (by decide) (g_w_id (by unfold g_rg; omega)) rfl ?_
          refine ev_goto (tgt := 5) d_Co_compare_69 (by decide) ?_
          exact ev_le (ih (12 - (i + 1)) [some (g_r 27), some (g_i (r : Int)), some (g_i x), some (g_i ((i + 1 : Nat) : Int)), none] (by omega) ⟨i + 1, _, by omega, rfl, rfl, y_cm_s (Or.inr ⟨c2, c3⟩) hcm⟩) rfl ⟨rfl, rfl, rfl, rfl, trivial⟩
        · refine ev_bipush d_Co_compare_63 rfl (by decide +kernel) ⟨by decide, by decide⟩ ?_
          exact ev_retIR d_Co_compare_65 (⟨rfl, 13, rfl, Or.inl ⟨rfl, i, by omega, c1, c2, c3⟩⟩) (Or.inl rfl)
      · refine ev_iload_n (i := 2) d_Co_compare_43 rfl rfl rfl ?_
        refine ev_iload_n (i := 3) d_Co_compare_44 rfl rfl rfl ?_
        refine ev_min (z := if (i : Int) < x then (i : Int) else x) d_Co_compare_45 rfl gx_min1 ⟨by show 1 ≤ d + 1; omega, by show 0 + 13 ≤ 40 * (d + 1); omega⟩ ⟨Nat.zero_le _, Nat.zero_le _⟩ (rfl) ?_
        refine ev_istore_n (i := 2) d_Co_compare_48 rfl rfl (by decide) rfl ?_
        refine ev_goto (tgt := 66) d_Co_compare_49 (by decide) ?_
        refine ev_iinc (z := (i : Int) + 1) d_Co_compare_66 rfl rfl (by decide) (g_w_id (by unfold g_rg; omega)) rfl ?_
        refine ev_goto (tgt := 5) d_Co_compare_69 (by decide) ?_
        exact ev_le (ih (12 - (i + 1)) [some (g_r 27), some (g_i (r : Int)), some (g_i (if (i : Int) < x then (i : Int) else x)), some (g_i ((i + 1 : Nat) : Int)), none] (by omega) ⟨i + 1, _, by omega, rfl, rfl, y_cm_a (by omega) c1 c2 hcm⟩) rfl ⟨rfl, rfl, rfl, rfl, trivial⟩
    · refine ev_goto (tgt := 66) d_Co_compare_30 (by decide) ?_
      refine ev_iinc (z := (i : Int) + 1) d_Co_compare_66 rfl rfl (by decide) (g_w_id (by unfold g_rg; omega)) rfl ?_
      refine ev_goto (tgt := 5) d_Co_compare_69 (by decide) ?_
      exact ev_le (ih (12 - (i + 1)) [some (g_r 27), some (g_i (r : Int)), some (g_i x), some (g_i ((i + 1 : Nat) : Int)), none] (by omega) ⟨i + 1, _, by omega, rfl, rfl, y_cm_s (Or.inl c1) hcm⟩) rfl ⟨rfl, rfl, rfl, rfl, trivial⟩
theorem c_Co_isNamed (d : Nat) (M : g_M) (s o : Nat) (c : Int) (hs : s < 12) (ho : o < 64) : ConR y_Co_isNamed w_Co_isNamed (g_rm (d + 0)) LX M [g_r 27, g_i (s : Int), g_i (o : Int), g_i c] LX (fun M2 v2 => M2 = M ∧ ∃ x : Int, v2 = some (g_i x) ∧ (x = 0 ∨ x = 1) ∧ (x = 1 ↔ ∃ r : Nat, r < 6 ∧ (o : Nat).testBit r = true ∧ M 28 (12 * r + s) = c)) := by
  refine con_ofR (av := [g_r 27, g_i (s : Int), g_i (o : Int), g_i c]) (ls0 := [some (g_r 27), some (g_i (s : Int)), some (g_i (o : Int)), some (g_i c), none]) (by decide) rfl (Nat.le_of_ble_eq_true rfl) (g_hls (av := [g_r 27, g_i (s : Int), g_i (o : Int), g_i c]) (k := 1)) (fun _ h9 => List.mem_cons_of_mem _ h9) ?_
  refine ev_iconst d_Co_isNamed_0 rfl ⟨by decide, by decide⟩ ?_
  refine ev_istore (i := 4) d_Co_isNamed_1 rfl (by decide) rfl ?_
  refine ev_wl (fun n ls1 => ∃ r : Nat, r ≤ 6 ∧ n = 6 - r ∧ ls1 = [some (g_r 27), some (g_i (s : Int)), some (g_i (o : Int)), some (g_i c), some (g_i (r : Int))] ∧ ∀ q : Nat, q < r → o.testBit q = true → M 28 (12 * q + s) ≠ c) ?_ (n := 6) (⟨0, Nat.zero_le _, rfl, rfl, fun q hq => by omega⟩)
  intro n ls1 hP ih
  obtain ⟨r, hr, hn, rfl, hv⟩ := hP
  refine ev_iload (i := 4) d_Co_isNamed_3 rfl rfl ?_
  refine ev_bipush d_Co_isNamed_5 rfl (by decide +kernel) ⟨by decide, by decide⟩ ?_
  refine ev_icmp_ge (tgt := 44) d_Co_isNamed_7 (by decide) rfl (fun hz => ?_) (fun hz => ?_)
  · refine ev_iconst d_Co_isNamed_44 rfl ⟨by decide, by decide⟩ ?_
    exact ev_retIR d_Co_isNamed_45 (⟨rfl, 0, rfl, Or.inl rfl, ⟨fun h9 => absurd h9 (by decide), fun ⟨q, q1, q2, q3⟩ => absurd q3 (hv q (by omega) q2)⟩⟩) (Or.inr ⟨rfl, by omega⟩)
  · refine ev_iload_n (i := 2) d_Co_isNamed_10 rfl rfl rfl ?_
    refine ev_iload (i := 4) d_Co_isNamed_11 rfl rfl ?_
    refine ev_ishr (z := g_b (fun a b => a >>> (b &&& 31)) (o : Int) (r : Int)) d_Co_isNamed_13 rfl (rfl) ?_
    refine ev_iconst d_Co_isNamed_14 rfl ⟨by decide, by decide⟩ ?_
    refine ev_iand (z := if o.testBit r = true then 1 else 0) d_Co_isNamed_15 rfl (y_bit o ho r (by omega)) ?_
    refine ev_iconst d_Co_isNamed_16 rfl ⟨by decide, by decide⟩ ?_
    refine ev_icmp_ne (tgt := 38) d_Co_isNamed_17 (by decide) rfl (fun c1 => ?_) (fun c1 => ?_)
    · refine ev_iinc (z := (r : Int) + 1) d_Co_isNamed_38 rfl rfl (by decide) (g_w_id (by unfold g_rg; omega)) rfl ?_
      refine ev_goto (tgt := 3) d_Co_isNamed_41 (by decide) ?_
      refine ev_le (ih (6 - (r + 1)) [some (g_r 27), some (g_i (s : Int)), some (g_i (o : Int)), some (g_i c), some (g_i ((r + 1 : Nat) : Int))] (by omega) ⟨r + 1, by omega, rfl, rfl, fun q hq hb => ?_⟩) rfl ⟨rfl, rfl, rfl, rfl, rfl, trivial⟩
      by_cases hqr : q = r
      · subst hqr; first | exact c2 | exact absurd (by rw [if_pos hb]) c1
      · exact hv q (by omega) hb
    · refine ev_aload_n (i := 0) d_Co_isNamed_20 rfl rfl rfl ?_
      refine ev_getR d_Co_isNamed_21 rfl lk_Co_26 lx_27 rfl ?_
      refine ev_iload (i := 4) d_Co_isNamed_24 rfl rfl ?_
      refine ev_bipush d_Co_isNamed_26 rfl (by decide +kernel) ⟨by decide, by decide⟩ ?_
      refine ev_imul (z := 12 * (r : Int)) d_Co_isNamed_28 rfl (by rw [g_w_id (by unfold g_rg; omega)]; omega) ?_
      refine ev_iload_n (i := 1) d_Co_isNamed_29 rfl rfl rfl ?_
      refine ev_iadd (z := 12 * (r : Int) + (s : Int)) d_Co_isNamed_30 rfl (g_w_id (by unfold g_rg; omega)) ?_
      refine ev_iaload (z := M 28 (12 * r + s)) d_Co_isNamed_31 rfl lx_28 (by omega) (by omega) (by rw [show (12 * (r : Int) + (s : Int)).toNat = 12 * r + s by omega]) ?_
      refine ev_iload_n (i := 3) d_Co_isNamed_32 rfl rfl rfl ?_
      refine ev_icmp_ne (tgt := 38) d_Co_isNamed_33 (by decide) rfl (fun c2 => ?_) (fun c2 => ?_)
      · refine ev_iinc (z := (r : Int) + 1) d_Co_isNamed_38 rfl rfl (by decide) (g_w_id (by unfold g_rg; omega)) rfl ?_
        refine ev_goto (tgt := 3) d_Co_isNamed_41 (by decide) ?_
        refine ev_le (ih (6 - (r + 1)) [some (g_r 27), some (g_i (s : Int)), some (g_i (o : Int)), some (g_i c), some (g_i ((r + 1 : Nat) : Int))] (by omega) ⟨r + 1, by omega, rfl, rfl, fun q hq hb => ?_⟩) rfl ⟨rfl, rfl, rfl, rfl, rfl, trivial⟩
        by_cases hqr : q = r
        · subst hqr; first | exact c2 | exact absurd (by rw [if_pos hb]) c1
        · exact hv q (by omega) hb
      · refine ev_iconst d_Co_isNamed_36 rfl ⟨by decide, by decide⟩ ?_
        exact ev_retIR d_Co_isNamed_37 (⟨rfl, 1, rfl, Or.inr rfl, ⟨fun _ => ⟨r, by omega, by by_cases hb : o.testBit r = true; exact hb; rw [if_neg hb] at c1; exact absurd c1 (by decide), c2⟩, fun _ => rfl⟩⟩) (Or.inr ⟨rfl, by omega⟩)
theorem c_Co_constructorThatNoneNames (d : Nat) (M : g_M) (s o m : Nat) (T : Int) (hs : s < 12) (ho : o < 64) (hm : M 1 4 = m) (hm8 : m ≤ 8) : ConR y_Co_constructorThatNoneNames w_Co_constructorThatNoneNames (g_rm (d + 1)) LX M [g_r 27, g_i (s : Int), g_i (o : Int), g_i T] LX (fun M2 v2 => M2 = M ∧ ∃ x : Int, v2 = some (g_i x) ∧ ((x = -1 ∧ ∀ q : Nat, q < m → M 2 q = T → ∃ r : Nat, r < 6 ∧ (o : Nat).testBit r = true ∧ M 28 (12 * r + s) = (q : Int)) ∨ ∃ q : Nat, q < m ∧ x = q ∧ M 2 q = T ∧ ¬ ∃ r : Nat, r < 6 ∧ (o : Nat).testBit r = true ∧ M 28 (12 * r + s) = (q : Int))) := by
  refine con_ofR (av := [g_r 27, g_i (s : Int), g_i (o : Int), g_i T]) (ls0 := [some (g_r 27), some (g_i (s : Int)), some (g_i (o : Int)), some (g_i T), none]) (by decide) rfl (Nat.le_of_ble_eq_true rfl) (g_hls (av := [g_r 27, g_i (s : Int), g_i (o : Int), g_i T]) (k := 1)) (fun _ h9 => List.mem_cons_of_mem _ h9) ?_
  refine ev_iconst d_Co_constructorThatNoneNames_0 rfl ⟨by decide, by decide⟩ ?_
  refine ev_istore (i := 4) d_Co_constructorThatNoneNames_1 rfl (by decide) rfl ?_
  refine ev_wl (fun n ls1 => ∃ c : Nat, c ≤ m ∧ n = m - c ∧ ls1 = [some (g_r 27), some (g_i (s : Int)), some (g_i (o : Int)), some (g_i T), some (g_i (c : Int))] ∧ ∀ q : Nat, q < c → M 2 q = T → ∃ r : Nat, r < 6 ∧ (o : Nat).testBit r = true ∧ M 28 (12 * r + s) = (q : Int)) ?_ (n := m) (⟨0, Nat.zero_le _, rfl, rfl, fun q hq => by omega⟩)
  intro n ls1 hP ih
  obtain ⟨c, hc, hn, rfl, hv⟩ := hP
  refine ev_iload (i := 4) d_Co_constructorThatNoneNames_3 rfl rfl ?_
  refine ev_aload_n (i := 0) d_Co_constructorThatNoneNames_5 rfl rfl rfl ?_
  refine ev_getR d_Co_constructorThatNoneNames_6 rfl lk_Co_11 lx_27 rfl ?_
  refine ev_callV (As := []) d_Co_constructorThatNoneNames_9 rfl cl_Co_33 ((c_Sg_howMany_c (d + 0) M).eqr (hm)) (g_hR (by decide)) g_h0 lx_1 rfl rfl (Nat.le_of_ble_eq_true rfl) rfl rfl ?_
  refine ev_icmp_ge (tgt := 48) d_Co_constructorThatNoneNames_12 (by decide) rfl (fun hz => ?_) (fun hz => ?_)
  · refine ev_iconst d_Co_constructorThatNoneNames_48 rfl ⟨by decide, by decide⟩ ?_
    exact ev_retIR d_Co_constructorThatNoneNames_49 (⟨rfl, -1, rfl, Or.inl ⟨rfl, fun q hq => hv q (by omega)⟩⟩) (Or.inl rfl)
  · refine ev_aload_n (i := 0) d_Co_constructorThatNoneNames_15 rfl rfl rfl ?_
    refine ev_getR d_Co_constructorThatNoneNames_16 rfl lk_Co_11 lx_27 rfl ?_
    refine ev_iload (i := 4) d_Co_constructorThatNoneNames_19 rfl rfl ?_
    refine ev_callV (As := [g_i (c : Int)]) d_Co_constructorThatNoneNames_21 rfl cl_Co_99 (c_Sg_type_c (d + 0) M c (by omega)) (g_hR (by decide)) g_h0 lx_1 rfl rfl (Nat.le_of_ble_eq_true rfl) rfl rfl ?_
    refine ev_iload_n (i := 3) d_Co_constructorThatNoneNames_24 rfl rfl rfl ?_
    refine ev_icmp_ne (tgt := 42) d_Co_constructorThatNoneNames_25 (by decide) rfl (fun c1 => ?_) (fun c1 => ?_)
    · refine ev_iinc (z := (c : Int) + 1) d_Co_constructorThatNoneNames_42 rfl rfl (by decide) (g_w_id (by unfold g_rg; omega)) rfl ?_
      refine ev_goto (tgt := 3) d_Co_constructorThatNoneNames_45 (by decide) ?_
      refine ev_le (ih (m - (c + 1)) [some (g_r 27), some (g_i (s : Int)), some (g_i (o : Int)), some (g_i T), some (g_i ((c + 1 : Nat) : Int))] (by omega) ⟨c + 1, by omega, rfl, rfl, fun q hq ht => ?_⟩) rfl ⟨rfl, rfl, rfl, rfl, rfl, trivial⟩
      by_cases hqc : q = c
      · subst hqc; exact absurd ht c1
      · exact hv q (by omega) ht
    · refine ev_aload_n (i := 0) d_Co_constructorThatNoneNames_28 rfl rfl rfl ?_
      refine ev_iload_n (i := 1) d_Co_constructorThatNoneNames_29 rfl rfl rfl ?_
      refine ev_iload_n (i := 2) d_Co_constructorThatNoneNames_30 rfl rfl rfl ?_
      refine ev_iload (i := 4) d_Co_constructorThatNoneNames_31 rfl rfl ?_
      refine ev_callVR (As := [g_i (s : Int), g_i (o : Int), g_i (c : Int)]) d_Co_constructorThatNoneNames_33 rfl cl_Co_102 (c_Co_isNamed (d + 0) M s o (c : Int) hs ho) (g_hR (by decide)) g_h0 lx_27 rfl rfl (Nat.le_of_ble_eq_true rfl) rfl rfl (fun M9 v9 g9 => ?_)
      obtain ⟨e9, x3, rfl, hx3, hx4⟩ := g9
      rw [e9]
      refine ev_if_ne (tgt := 42) d_Co_constructorThatNoneNames_36 (by decide) rfl (fun c2 => ?_) (fun c2 => ?_)
      · refine ev_iinc (z := (c : Int) + 1) d_Co_constructorThatNoneNames_42 rfl rfl (by decide) (g_w_id (by unfold g_rg; omega)) rfl ?_
        refine ev_goto (tgt := 3) d_Co_constructorThatNoneNames_45 (by decide) ?_
        refine ev_le (ih (m - (c + 1)) [some (g_r 27), some (g_i (s : Int)), some (g_i (o : Int)), some (g_i T), some (g_i ((c + 1 : Nat) : Int))] (by omega) ⟨c + 1, by omega, rfl, rfl, fun q hq ht => ?_⟩) rfl ⟨rfl, rfl, rfl, rfl, rfl, trivial⟩
        by_cases hqc : q = c
        · subst hqc; exact hx4.mp (by omega)
        · exact hv q (by omega) ht
      · refine ev_iload (i := 4) d_Co_constructorThatNoneNames_39 rfl rfl ?_
        exact ev_retIR d_Co_constructorThatNoneNames_41 (⟨rfl, (c : Int), rfl, Or.inr ⟨c, by omega, rfl, c1, fun h9 => by have := hx4.mpr h9; omega⟩⟩) (Or.inl rfl)
