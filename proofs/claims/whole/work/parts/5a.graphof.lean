/-- the arcs of a call as far as they are looked through -/
def o_b (M : g_M) (c u i j : Nat) (v : Bool) (p : Nat) : Bool := decide (p / 3 < i ∨ (p / 3 = i ∧ p % 3 < j)) && (if v then decide (o_p M c u (p / 3) (p % 3) = 2) else decide (o_p M c u (p / 3) (p % 3) ≠ 0))
theorem o_b_0 (M : g_M) (c u : Nat) (v : Bool) : o_e (o_b M c u 0 0 v) 9 = 0 := by
  refine Nat.eq_of_testBit_eq fun p => ?_
  rw [o_e_bit, Nat.zero_testBit]
  unfold o_b
  rw [decide_eq_false (by omega : ¬ (p / 3 < 0 ∨ (p / 3 = 0 ∧ p % 3 < 0))), Bool.false_and, Bool.and_false]
theorem o_b_r {M : g_M} {c u i w : Nat} {v : Bool} (hw : ∀ j, w ≤ j → o_p M c u i j = 0) : o_e (o_b M c u i w v) 9 = o_e (o_b M c u (i + 1) 0 v) 9 := by
  refine o_e_cg 9 fun p _ => ?_
  unfold o_b
  by_cases h1 : p / 3 < i ∨ (p / 3 = i ∧ p % 3 < w)
  · rw [decide_eq_true h1, decide_eq_true (by omega : p / 3 < i + 1 ∨ (p / 3 = i + 1 ∧ p % 3 < 0))]
  · rw [decide_eq_false h1, Bool.false_and]
    by_cases h2 : p / 3 < i + 1 ∨ (p / 3 = i + 1 ∧ p % 3 < 0)
    · have e : o_p M c u (p / 3) (p % 3) = 0 := by
        rw [show p / 3 = i by omega]
        exact hw _ (by omega)
      rw [e]
      cases v <;> simp
    · rw [decide_eq_false h2, Bool.false_and]
theorem o_b_e {M : g_M} {c u w : Nat} {v : Bool} (hw : ∀ i j, w ≤ i → o_p M c u i j = 0) : o_e (o_b M c u w 0 v) 9 = o_e (fun p => if v then decide (o_p M c u (p / 3) (p % 3) = 2) else decide (o_p M c u (p / 3) (p % 3) ≠ 0)) 9 := by
  refine o_e_cg 9 fun p _ => ?_
  unfold o_b
  by_cases h1 : p / 3 < w ∨ (p / 3 = w ∧ p % 3 < 0)
  · rw [decide_eq_true h1, Bool.true_and]
  · rw [decide_eq_false h1, Bool.false_and, hw _ _ (by omega)]
    cases v <;> simp
theorem o_b_s {M : g_M} {c u i j : Nat} {v : Bool} (hi : i < 3) (hj : j < 3) (b : Bool) (hb : b = if v then decide (o_p M c u i j = 2) else decide (o_p M c u i j ≠ 0)) : o_e (o_b M c u i j v) 9 ||| (if b = true then 2 ^ (3 * i + j) else 0) = o_e (o_b M c u i (j + 1) v) 9 := by
  have hlt : (if b = true then 2 ^ (3 * i + j) else 0) < 512 := by
    split
    · exact Nat.pow_lt_pow_right (n := 9) (by decide) (by omega)
    · decide
  refine o_or_e rfl hlt (fun p hp => ?_)
  by_cases hpq : p = 3 * i + j
  · have e1 : p / 3 = i := by omega
    have e2 : p % 3 = j := by omega
    unfold o_b
    rw [e1, e2, decide_eq_false (by omega : ¬ (i < i ∨ (i = i ∧ j < j))), decide_eq_true (by omega : i < i ∨ (i = i ∧ j < j + 1)), Bool.false_and, Bool.true_and, Bool.false_or, ← hb, hpq]
    cases b
    · simp
    · rw [if_pos rfl, Nat.testBit_two_pow_self]
  · have e3 : (if b = true then 2 ^ (3 * i + j) else 0 : Nat).testBit p = false := by
      split
      · rw [Nat.testBit_two_pow]
        exact decide_eq_false (fun h9 => hpq h9.symm)
      · exact Nat.zero_testBit p
    rw [e3, Bool.or_false]
    unfold o_b
    have e4 : (p / 3 < i ∨ (p / 3 = i ∧ p % 3 < j)) ↔ (p / 3 < i ∨ (p / 3 = i ∧ p % 3 < j + 1)) := by omega
    by_cases h1 : p / 3 < i ∨ (p / 3 = i ∧ p % 3 < j)
    · rw [decide_eq_true h1, decide_eq_true (e4.mp h1)]
    · rw [decide_eq_false h1, decide_eq_false (fun h9 => h1 (e4.mpr h9))]
theorem c_En_graphOf (d : Nat) (M : g_M) (c u : Nat) (hP : r_P M) (hc : (c : Int) < M 45 13) (hu : u ∈ k_c M (M 58 c).toNat) : ConR y_En_graphOf w_En_graphOf (g_rm (d + 204)) LX M [g_r 30, g_i (c : Int), g_i (u : Int)] LX (fun M2 v2 => M2 = M ∧ v2 = some (g_i ((o_g M c u : Nat) : Int))) := by
  refine con_ofR (av := [g_r 30, g_i (c : Int), g_i (u : Int)]) (ls0 := [some (g_r 30), some (g_i (c : Int)), some (g_i (u : Int)), none, none, none, none, none, none, none]) (by decide) rfl (Nat.le_of_ble_eq_true rfl) (g_hls (av := [g_r 30, g_i (c : Int), g_i (u : Int)]) (k := 7)) (fun _ h9 => List.mem_cons_of_mem _ h9) ?_
  obtain ⟨f, w, b, c24, hf56, hf6, hfn, hf20, hw50, hw7, hw3, hbb, hb22, hbt, h49, hpat⟩ := r_cn hP hc
  rw [hbb, Int.toNat_natCast] at hu
  obtain ⟨ix9, hix9⟩ := List.getElem?_of_mem hu
  obtain ⟨ut, -, g, wu, hg6, hu52, hu12, hwu3, hgw⟩ := k_c_in hP hbt hix9
  have hnt := hP.2.2.1.2.1.2.1
  have hu100 : u < 100 := by omega
  have hug : (M 52 u - 16).toNat = g := by omega
  obtain ⟨w1, w2, w3, w4⟩ := r_w hP ut
  have hu11 : M 11 u = g := by
    rcases (hP.2.2.1.2.2.1 u ut).1 with h9 | h9 | h9 <;> omega
  have hpart : ∀ j : Nat, j < wu → ∃ y : Nat, M 53 (3 * u + j) = y ∧ M 13 (3 * u + j) = y ∧ (y : Int) < M 45 8 := fun j hj => by
    have h1 := w4 j (by omega)
    have h2 := (hP.2.2.1.2.2.1 u ut).2.2.1 j (by omega)
    exact ⟨(M 53 (3 * u + j)).toNat, by omega, h1.1, by omega⟩
  have hpu : ∀ i j, wu ≤ j → o_p M c u i j = 0 := fun i j hj => by
    unfold o_p
    rw [if_neg (fun h9 => by have := h9.2; rw [hug, hgw] at this; omega)]
  have hpw2 : ∀ i j, w ≤ i → o_p M c u i j = 0 := fun i j hj => by
    unfold o_p
    rw [if_neg (fun h9 => by have := h9.1; rw [hf56, Int.toNat_natCast, hw50] at this; omega)]
  refine ev_iconst d_En_graphOf_0 rfl ⟨by decide, by decide⟩ ?_
  refine ev_istore_n (i := 3) d_En_graphOf_1 rfl rfl (by decide) rfl ?_
  refine ev_iconst d_En_graphOf_2 rfl ⟨by decide, by decide⟩ ?_
  refine ev_istore (i := 4) d_En_graphOf_3 rfl (by decide) rfl ?_
  refine ev_aload_n (i := 0) d_En_graphOf_5 rfl rfl rfl ?_
  refine ev_getR d_En_graphOf_6 rfl lk_En_19 lx_30 rfl ?_
  refine ev_iload_n (i := 1) d_En_graphOf_9 rfl rfl rfl ?_
  refine ev_callV (As := [g_i (c : Int)]) d_En_graphOf_10 rfl cl_En_108 ((c_Cl_owner (d + 203) M c c24).eqr (b := (f : Int)) (hf20)) (g_hR (by decide)) g_h0 lx_19 rfl rfl (Nat.le_of_ble_eq_true rfl) rfl rfl ?_
  refine ev_istore (i := 5) d_En_graphOf_13 rfl (by decide) rfl ?_
  refine ev_iconst d_En_graphOf_15 rfl ⟨by decide, by decide⟩ ?_
  refine ev_istore (i := 6) d_En_graphOf_16 rfl (by decide) rfl ?_
  refine ev_wl (fun n ls1 => ∃ i : Nat, i ≤ w ∧ n = w - i ∧ ls1 = [some (g_r 30), some (g_i (c : Int)), some (g_i (u : Int)), some (g_i (((o_e (o_b M c u i 0 false) 9) : Nat) : Int)), some (g_i (((o_e (o_b M c u i 0 true) 9) : Nat) : Int)), some (g_i (f : Int)), some (g_i (i : Int)), none, none, none]) ?_ (n := w) (⟨0, Nat.zero_le _, rfl, by rw [o_b_0, o_b_0]; rfl⟩)
  intro n ls1 hP0 ih
  obtain ⟨i, hi, hn, rfl⟩ := hP0
  refine ev_iload (i := 6) d_En_graphOf_18 rfl rfl ?_
  refine ev_aload_n (i := 0) d_En_graphOf_20 rfl rfl rfl ?_
  refine ev_getR d_En_graphOf_21 rfl lk_En_11 lx_30 rfl ?_
  refine ev_iload (i := 5) d_En_graphOf_24 rfl rfl ?_
  refine ev_callV (As := [g_i (f : Int)]) d_En_graphOf_26 rfl cl_En_111 ((c_Sg_width_f (d + 203) M f hf6).eqr (b := (w : Int)) (hw7)) (g_hR (by decide)) g_h0 lx_5 rfl rfl (Nat.le_of_ble_eq_true rfl) rfl rfl ?_
  refine ev_icmp_ge (tgt := 128) d_En_graphOf_29 (by decide) rfl (fun hz => ?_) (fun hz => ?_)
  · refine ev_iload (i := 5) d_En_graphOf_128 rfl rfl ?_
    refine ev_aload_n (i := 0) d_En_graphOf_130 rfl rfl rfl ?_
    refine ev_getR d_En_graphOf_131 rfl lk_En_15 lx_30 rfl ?_
    refine ev_iload_n (i := 2) d_En_graphOf_134 rfl rfl rfl ?_
    refine ev_callV (As := [g_i (u : Int)]) d_En_graphOf_135 rfl cl_En_73 ((c_Te_head (d + 203) M u hu100).eqr (b := (g : Int)) (hu11)) (g_hR (by decide)) g_h0 lx_9 rfl rfl (Nat.le_of_ble_eq_true rfl) rfl rfl ?_
    refine ev_iload_n (i := 3) d_En_graphOf_138 rfl rfl rfl ?_
    refine ev_iload (i := 4) d_En_graphOf_139 rfl rfl ?_
    refine ev_callS (As := [g_i (f : Int), g_i (g : Int), g_i (((o_e (o_b M c u i 0 false) 9) : Nat) : Int), g_i (((o_e (o_b M c u i 0 true) 9) : Nat) : Int)]) d_En_graphOf_141 rfl cl_En_120 (c_En_code (d + 203) M f g (o_e (o_b M c u i 0 false) 9) (o_e (o_b M c u i 0 true) 9) (by omega) (by omega) (o_e_lt _ 9) (o_e_lt _ 9)) (g_hR (by decide)) g_h0 rfl rfl (Nat.le_of_ble_eq_true rfl) rfl rfl ?_
    exact ev_retIR d_En_graphOf_144 (⟨rfl, by have e : i = w := (by omega); subst e; rw [o_b_e hpw2, o_b_e hpw2]; unfold o_g; rw [hf56, hug, Int.toNat_natCast]; rfl⟩) (Or.inl rfl)
  · refine ev_iconst d_En_graphOf_32 rfl ⟨by decide, by decide⟩ ?_
    refine ev_istore (i := 7) d_En_graphOf_33 rfl (by decide) rfl ?_
    refine ev_wl (fun n2 ls2 => ∃ j : Nat, j ≤ wu ∧ n2 = wu - j ∧ ls2 = [some (g_r 30), some (g_i (c : Int)), some (g_i (u : Int)), some (g_i (((o_e (o_b M c u i j false) 9) : Nat) : Int)), some (g_i (((o_e (o_b M c u i j true) 9) : Nat) : Int)), some (g_i (f : Int)), some (g_i (i : Int)), some (g_i (j : Int)), none, none]) ?_ (n := wu) (⟨0, Nat.zero_le _, rfl, rfl⟩)
    intro n2 ls2 hP2 ih2
    obtain ⟨j, hj, hn2, rfl⟩ := hP2
    have hA9 := o_e_lt (o_b M c u i j false) 9
    have hS9 := o_e_lt (o_b M c u i j true) 9
    refine ev_iload (i := 7) d_En_graphOf_35 rfl rfl ?_
    refine ev_aload_n (i := 0) d_En_graphOf_37 rfl rfl rfl ?_
    refine ev_getR d_En_graphOf_38 rfl lk_En_15 lx_30 rfl ?_
    refine ev_iload_n (i := 2) d_En_graphOf_41 rfl rfl rfl ?_
    refine ev_callV (As := [g_i (u : Int)]) d_En_graphOf_42 rfl cl_En_56 ((c_Te_width (d + 203) M u hu100).eqr (b := (wu : Int)) (hu12)) (g_hR (by decide)) g_h0 lx_9 rfl rfl (Nat.le_of_ble_eq_true rfl) rfl rfl ?_
    refine ev_icmp_ge (tgt := 122) d_En_graphOf_45 (by decide) rfl (fun hz2 => ?_) (fun hz2 => ?_)
    · refine ev_iinc (z := (i : Int) + 1) d_En_graphOf_122 rfl rfl (by decide) (g_w_id (by unfold g_rg; omega)) rfl ?_
      refine ev_goto (tgt := 18) d_En_graphOf_125 (by decide) ?_
      have ej : j = wu := by omega
      subst ej
      rw [o_b_r (fun j9 hj9 => hpu i j9 hj9), o_b_r (fun j9 hj9 => hpu i j9 hj9)]
      exact ev_le (ih (w - (i + 1)) [some (g_r 30), some (g_i (c : Int)), some (g_i (u : Int)), some (g_i (((o_e (o_b M c u (i + 1) 0 false) 9) : Nat) : Int)), some (g_i (((o_e (o_b M c u (i + 1) 0 true) 9) : Nat) : Int)), some (g_i (f : Int)), some (g_i ((i + 1 : Nat) : Int)), none, none, none] (by omega) ⟨i + 1, by omega, rfl, rfl⟩) rfl ⟨rfl, rfl, rfl, rfl, rfl, rfl, rfl, trivial⟩
    · obtain ⟨p, hp1, hp21, hpt, hp54, hp55, hp16, hpn, hpl, -⟩ := hpat i (by omega)
      obtain ⟨y, hy53, hy13, hyt⟩ := hpart j (by omega)
      have hop : o_p M c u i j = z_arc M p y := by
        unfold o_p
        rw [if_pos ⟨by rw [hf56, Int.toNat_natCast, hw50]; omega, by rw [hug, hgw]; omega⟩, hp1, hy53, Int.toNat_natCast, Int.toNat_natCast]
      have hoin := o_p_in M c u i j
      have hpw : 2 ^ (3 * i + j) < 2 ^ 9 := Nat.pow_lt_pow_right (by decide) (by omega)
      refine ev_aload_n (i := 0) d_En_graphOf_48 rfl rfl rfl ?_
      refine ev_aload_n (i := 0) d_En_graphOf_49 rfl rfl rfl ?_
      refine ev_getR d_En_graphOf_50 rfl lk_En_19 lx_30 rfl ?_
      refine ev_iload_n (i := 1) d_En_graphOf_53 rfl rfl rfl ?_
      refine ev_iload (i := 6) d_En_graphOf_54 rfl rfl ?_
      refine ev_callV (As := [g_i (c : Int), g_i (i : Int)]) d_En_graphOf_56 rfl cl_En_114 ((c_Cl_pattern (d + 203) M c i c24 (by omega)).eqr (b := (p : Int)) (hp21)) (g_hR (by decide)) g_h0 lx_19 rfl rfl (Nat.le_of_ble_eq_true rfl) rfl rfl ?_
      refine ev_aload_n (i := 0) d_En_graphOf_59 rfl rfl rfl ?_
      refine ev_getR d_En_graphOf_60 rfl lk_En_15 lx_30 rfl ?_
      refine ev_iload_n (i := 2) d_En_graphOf_63 rfl rfl rfl ?_
      refine ev_iload (i := 7) d_En_graphOf_64 rfl rfl ?_
      refine ev_callV (As := [g_i (u : Int), g_i (j : Int)]) d_En_graphOf_66 rfl cl_En_59 ((c_Te_part (d + 203) M u j hu100 (by omega)).eqr (b := (y : Int)) (hy13)) (g_hR (by decide)) g_h0 lx_9 rfl rfl (Nat.le_of_ble_eq_true rfl) rfl rfl ?_
      refine ev_callV (As := [g_i (p : Int), g_i (y : Int)]) d_En_graphOf_69 rfl cl_En_117 ((c_En_arcBetween hP p (d + 0) y hpt hyt hp16).eqr (b := o_p M c u i j) hop.symm) (g_hR (by decide)) g_h0 lx_30 rfl rfl (Nat.le_of_ble_eq_true rfl) rfl rfl ?_
      refine ev_istore (i := 8) d_En_graphOf_72 rfl (by decide) rfl ?_
      refine ev_iconst d_En_graphOf_74 rfl ⟨by decide, by decide⟩ ?_
      refine ev_iconst d_En_graphOf_75 rfl ⟨by decide, by decide⟩ ?_
      refine ev_iload (i := 6) d_En_graphOf_76 rfl rfl ?_
      refine ev_imul (z := 3 * (i : Int)) d_En_graphOf_78 rfl (g_w_id (by unfold g_rg; omega)) ?_
      refine ev_iload (i := 7) d_En_graphOf_79 rfl rfl ?_
      refine ev_iadd (z := ((3 * i + j : Nat) : Int)) d_En_graphOf_81 rfl (by rw [g_w_id (by unfold g_rg; omega)]; omega) ?_
      refine ev_ishl (z := ((2 ^ (3 * i + j) : Nat) : Int)) d_En_graphOf_82 rfl (by rw [show (1 : Int) = ((1 : Nat) : Int) from rfl, g_b_shl (by omega) (by omega), Nat.one_mul]) ?_
      refine ev_istore (i := 9) d_En_graphOf_83 rfl (by decide) rfl ?_
      refine ev_iload_n (i := 3) d_En_graphOf_85 rfl rfl rfl ?_
      refine ev_iload (i := 8) d_En_graphOf_86 rfl rfl ?_
      refine ev_if_ne (tgt := 95) d_En_graphOf_88 (by decide) rfl (fun c1 => ?_) (fun c1 => ?_)
      · refine ev_iload (i := 9) d_En_graphOf_95 rfl rfl ?_
        refine ev_ior (z := (((o_e (o_b M c u i (j + 1) false) 9) : Nat) : Int)) d_En_graphOf_97 rfl (by rw [← o_b_s (v := false) (by omega : i < 3) (by omega : j < 3) true (by show true = decide (o_p M c u i j ≠ 0); rw [decide_eq_true (by omega)])]; rw [if_pos rfl, g_b_or (by omega) (by omega)]) ?_
        refine ev_istore_n (i := 3) d_En_graphOf_98 rfl rfl (by decide) rfl ?_
        refine ev_iload (i := 4) d_En_graphOf_99 rfl rfl ?_
        refine ev_iload (i := 8) d_En_graphOf_101 rfl rfl ?_
        refine ev_iconst d_En_graphOf_103 rfl ⟨by decide, by decide⟩ ?_
        refine ev_icmp_ne (tgt := 112) d_En_graphOf_104 (by decide) rfl (fun c2 => ?_) (fun c2 => ?_)
        · refine ev_iconst d_En_graphOf_112 rfl ⟨by decide, by decide⟩ ?_
          refine ev_ior (z := (((o_e (o_b M c u i (j + 1) true) 9) : Nat) : Int)) d_En_graphOf_113 rfl (by rw [← o_b_s (v := true) (by omega : i < 3) (by omega : j < 3) false (by show false = decide (o_p M c u i j = 2); rw [decide_eq_false (by omega)])]; simp only [Bool.false_eq_true, if_false]; rw [show (0 : Int) = ((0 : Nat) : Int) from rfl, g_b_or (by omega) (by omega)]) ?_
          refine ev_istore (i := 4) d_En_graphOf_114 rfl (by decide) rfl ?_
          refine ev_iinc (z := (j : Int) + 1) d_En_graphOf_116 rfl rfl (by decide) (g_w_id (by unfold g_rg; omega)) rfl ?_
          refine ev_goto (tgt := 35) d_En_graphOf_119 (by decide) ?_
          exact ev_le (ih2 (wu - (j + 1)) [some (g_r 30), some (g_i (c : Int)), some (g_i (u : Int)), some (g_i (((o_e (o_b M c u i (j + 1) false) 9) : Nat) : Int)), some (g_i (((o_e (o_b M c u i (j + 1) true) 9) : Nat) : Int)), some (g_i (f : Int)), some (g_i (i : Int)), some (g_i ((j + 1 : Nat) : Int)), none, none] (by omega) ⟨j + 1, by omega, rfl, rfl⟩) rfl ⟨rfl, rfl, rfl, rfl, rfl, rfl, rfl, rfl, trivial⟩
        · refine ev_iload (i := 9) d_En_graphOf_107 rfl rfl ?_
          refine ev_goto (tgt := 113) d_En_graphOf_109 (by decide) ?_
          refine ev_ior (z := (((o_e (o_b M c u i (j + 1) true) 9) : Nat) : Int)) d_En_graphOf_113 rfl (by rw [← o_b_s (v := true) (by omega : i < 3) (by omega : j < 3) true (by show true = decide (o_p M c u i j = 2); rw [decide_eq_true (by omega)])]; rw [if_pos rfl, g_b_or (by omega) (by omega)]) ?_
          refine ev_istore (i := 4) d_En_graphOf_114 rfl (by decide) rfl ?_
          refine ev_iinc (z := (j : Int) + 1) d_En_graphOf_116 rfl rfl (by decide) (g_w_id (by unfold g_rg; omega)) rfl ?_
          refine ev_goto (tgt := 35) d_En_graphOf_119 (by decide) ?_
          exact ev_le (ih2 (wu - (j + 1)) [some (g_r 30), some (g_i (c : Int)), some (g_i (u : Int)), some (g_i (((o_e (o_b M c u i (j + 1) false) 9) : Nat) : Int)), some (g_i (((o_e (o_b M c u i (j + 1) true) 9) : Nat) : Int)), some (g_i (f : Int)), some (g_i (i : Int)), some (g_i ((j + 1 : Nat) : Int)), none, none] (by omega) ⟨j + 1, by omega, rfl, rfl⟩) rfl ⟨rfl, rfl, rfl, rfl, rfl, rfl, rfl, rfl, trivial⟩
      · refine ev_iconst d_En_graphOf_91 rfl ⟨by decide, by decide⟩ ?_
        refine ev_goto (tgt := 97) d_En_graphOf_92 (by decide) ?_
        refine ev_ior (z := (((o_e (o_b M c u i (j + 1) false) 9) : Nat) : Int)) d_En_graphOf_97 rfl (by rw [← o_b_s (v := false) (by omega : i < 3) (by omega : j < 3) false (by show false = decide (o_p M c u i j ≠ 0); rw [decide_eq_false (by omega)])]; simp only [Bool.false_eq_true, if_false]; rw [show (0 : Int) = ((0 : Nat) : Int) from rfl, g_b_or (by omega) (by omega)]) ?_
        refine ev_istore_n (i := 3) d_En_graphOf_98 rfl rfl (by decide) rfl ?_
        refine ev_iload (i := 4) d_En_graphOf_99 rfl rfl ?_
        refine ev_iload (i := 8) d_En_graphOf_101 rfl rfl ?_
        refine ev_iconst d_En_graphOf_103 rfl ⟨by decide, by decide⟩ ?_
        refine ev_icmp_ne (tgt := 112) d_En_graphOf_104 (by decide) rfl (fun c2 => ?_) (fun c2 => ?_)
        · refine ev_iconst d_En_graphOf_112 rfl ⟨by decide, by decide⟩ ?_
          refine ev_ior (z := (((o_e (o_b M c u i (j + 1) true) 9) : Nat) : Int)) d_En_graphOf_113 rfl (by rw [← o_b_s (v := true) (by omega : i < 3) (by omega : j < 3) false (by show false = decide (o_p M c u i j = 2); rw [decide_eq_false (by omega)])]; simp only [Bool.false_eq_true, if_false]; rw [show (0 : Int) = ((0 : Nat) : Int) from rfl, g_b_or (by omega) (by omega)]) ?_
          refine ev_istore (i := 4) d_En_graphOf_114 rfl (by decide) rfl ?_
          refine ev_iinc (z := (j : Int) + 1) d_En_graphOf_116 rfl rfl (by decide) (g_w_id (by unfold g_rg; omega)) rfl ?_
          refine ev_goto (tgt := 35) d_En_graphOf_119 (by decide) ?_
          exact ev_le (ih2 (wu - (j + 1)) [some (g_r 30), some (g_i (c : Int)), some (g_i (u : Int)), some (g_i (((o_e (o_b M c u i (j + 1) false) 9) : Nat) : Int)), some (g_i (((o_e (o_b M c u i (j + 1) true) 9) : Nat) : Int)), some (g_i (f : Int)), some (g_i (i : Int)), some (g_i ((j + 1 : Nat) : Int)), none, none] (by omega) ⟨j + 1, by omega, rfl, rfl⟩) rfl ⟨rfl, rfl, rfl, rfl, rfl, rfl, rfl, rfl, trivial⟩
        · refine ev_iload (i := 9) d_En_graphOf_107 rfl rfl ?_
          refine ev_goto (tgt := 113) d_En_graphOf_109 (by decide) ?_
          refine ev_ior (z := (((o_e (o_b M c u i (j + 1) true) 9) : Nat) : Int)) d_En_graphOf_113 rfl (by rw [← o_b_s (v := true) (by omega : i < 3) (by omega : j < 3) true (by show true = decide (o_p M c u i j = 2); rw [decide_eq_true (by omega)])]; rw [if_pos rfl, g_b_or (by omega) (by omega)]) ?_
          refine ev_istore (i := 4) d_En_graphOf_114 rfl (by decide) rfl ?_
          refine ev_iinc (z := (j : Int) + 1) d_En_graphOf_116 rfl rfl (by decide) (g_w_id (by unfold g_rg; omega)) rfl ?_
          refine ev_goto (tgt := 35) d_En_graphOf_119 (by decide) ?_
          exact ev_le (ih2 (wu - (j + 1)) [some (g_r 30), some (g_i (c : Int)), some (g_i (u : Int)), some (g_i (((o_e (o_b M c u i (j + 1) false) 9) : Nat) : Int)), some (g_i (((o_e (o_b M c u i (j + 1) true) 9) : Nat) : Int)), some (g_i (f : Int)), some (g_i (i : Int)), some (g_i ((j + 1 : Nat) : Int)), none, none] (by omega) ⟨j + 1, by omega, rfl, rfl⟩) rfl ⟨rfl, rfl, rfl, rfl, rfl, rfl, rfl, rfl, trivial⟩
