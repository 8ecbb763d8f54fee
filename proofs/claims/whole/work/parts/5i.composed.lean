theorem o_4p (n : Nat) : 2 ^ (2 * n) = 4 ^ n := by rw [Nat.pow_mul]
theorem o_v_lt (x : Nat) : o_v x < 262144 := o_4_lt (fun p => by have := o_d_le x p; omega) 9
theorem o_4_or {d : Nat → Nat} (h : ∀ p, d p ≤ 3) (n : Nat) : o_4 d n ||| d n * 4 ^ n = o_4 d (n + 1) := by
  have h1 := Nat.two_pow_add_eq_or_of_lt (i := 2 * n) (b := o_4 d n) (by rw [o_4p]; exact o_4_lt h n) (d n)
  rw [o_4p] at h1
  rw [o_4, h1, Nat.or_comm, Nat.mul_comm]
theorem o_4_cg {d e : Nat → Nat} : ∀ n, (∀ p, p < n → d p = e p) → o_4 d n = o_4 e n
  | 0, _ => rfl
  | n + 1, h => by rw [o_4, o_4, o_4_cg n (fun p hp => h p (by omega)), h n (by omega)]
theorem o_4_gap {d : Nat → Nat} (n : Nat) : ∀ k, (∀ p, n ≤ p → p < n + k → d p = 0) → o_4 d (n + k) = o_4 d n
  | 0, _ => rfl
  | k + 1, h => by
    show o_4 d (n + k + 1) = _
    rw [o_4, h (n + k) (by omega) (by omega), Nat.mul_zero, Nat.zero_add]
    exact o_4_gap n k (fun p h1 h2 => h p h1 (by omega))
theorem c_Mo_arcAt (d : Nat) (M : g_M) (x i j : Nat) (hi : i < 3) (hj : j < 3) : Con y_Mo_arcAt w_Mo_arcAt (g_rm (d)) LX M [g_i ((o_v x : Nat) : Int), g_i (i : Int), g_i (j : Int)] LX M (some (g_i ((o_d x (3 * i + j) : Nat) : Int))) := by
  refine con_of (av := [g_i ((o_v x : Nat) : Int), g_i (i : Int), g_i (j : Int)]) (ls0 := [some (g_i ((o_v x : Nat) : Int)), some (g_i (i : Int)), some (g_i (j : Int))]) (by decide) rfl (Nat.le_of_ble_eq_true rfl) (g_hls (av := [g_i ((o_v x : Nat) : Int), g_i (i : Int), g_i (j : Int)]) (k := 0)) (fun _ h9 => List.mem_cons_of_mem _ h9) ?_
  have hv := o_v_lt x
  refine ev_iload_n (i := 0) d_Mo_arcAt_0 rfl rfl rfl ?_
  refine ev_iconst d_Mo_arcAt_1 rfl ⟨by decide, by decide⟩ ?_
  refine ev_iconst d_Mo_arcAt_2 rfl ⟨by decide, by decide⟩ ?_
  refine ev_iload_n (i := 1) d_Mo_arcAt_3 rfl rfl rfl ?_
  refine ev_imul (z := 3 * (i : Int)) d_Mo_arcAt_4 rfl (g_w_id (by unfold g_rg; omega)) ?_
  refine ev_iload_n (i := 2) d_Mo_arcAt_5 rfl rfl rfl ?_
  refine ev_iadd (z := 3 * (i : Int) + (j : Int)) d_Mo_arcAt_6 rfl (g_w_id (by unfold g_rg; omega)) ?_
  refine ev_imul (z := ((2 * (3 * i + j) : Nat) : Int)) d_Mo_arcAt_7 rfl (by rw [g_w_id (by unfold g_rg; omega)]; omega) ?_
  refine ev_ishr (z := ((o_v x / 4 ^ (3 * i + j) : Nat) : Int)) d_Mo_arcAt_8 rfl (by rw [g_b_shr (by omega) (by omega), o_4p]) ?_
  refine ev_iconst d_Mo_arcAt_9 rfl ⟨by decide, by decide⟩ ?_
  refine ev_iand (z := ((o_d x (3 * i + j) : Nat) : Int)) d_Mo_arcAt_10 rfl (by have h9 := Nat.div_le_self (o_v x) (4 ^ (3 * i + j)); rw [show (3 : Int) = ((3 : Nat) : Int) from rfl, g_b_and (by omega) (by omega), o_and_3, o_v_at x (by omega)]) ?_
  exact ev_retI d_Mo_arcAt_11 (by first | rfl | omega | simp_all) rfl (Or.inl rfl)
theorem c_Mo_composed (d : Nat) (M : g_M) (x y : Nat) (hx : o_ok x) (hy : o_ok y) : Con y_Mo_composed w_Mo_composed (g_rm (d + 1)) LX M [g_i ((o_v x : Nat) : Int), g_i ((o_v y : Nat) : Int)] LX M (some (g_i ((o_v (o_c x y) : Nat) : Int))) := by
  refine con_of (av := [g_i ((o_v x : Nat) : Int), g_i ((o_v y : Nat) : Int)]) (ls0 := [some (g_i ((o_v x : Nat) : Int)), some (g_i ((o_v y : Nat) : Int)), none, none, none, none, none, none, none, none]) (by decide) rfl (Nat.le_of_ble_eq_true rfl) (g_hls (av := [g_i ((o_v x : Nat) : Int), g_i ((o_v y : Nat) : Int)]) (k := 8)) (fun _ h9 => List.mem_cons_of_mem _ h9) ?_
  refine ev_iconst d_Mo_composed_0 rfl ⟨by decide, by decide⟩ ?_
  refine ev_istore_n (i := 2) d_Mo_composed_1 rfl rfl (by decide) rfl ?_
  refine ev_iconst d_Mo_composed_2 rfl ⟨by decide, by decide⟩ ?_
  refine ev_istore_n (i := 3) d_Mo_composed_3 rfl rfl (by decide) rfl ?_
  refine ev_wl (fun n ls1 => ∃ i : Nat, i ≤ 3 ∧ n = 3 - i ∧ ls1 = [some (g_i ((o_v x : Nat) : Int)), some (g_i ((o_v y : Nat) : Int)), some (g_i ((o_4 (o_d (o_c x y)) (3 * i) : Nat) : Int)), some (g_i ((i : Nat) : Int)), none, none, none, none, none, none]) ?_ (n := 3) (⟨0, Nat.zero_le _, rfl, rfl⟩)
  intro n ls1 hP0 ih
  obtain ⟨i, hi, hn, rfl⟩ := hP0
  refine ev_iload_n (i := 3) d_Mo_composed_4 rfl rfl rfl ?_
  refine ev_iconst d_Mo_composed_5 rfl ⟨by decide, by decide⟩ ?_
  refine ev_icmp_ge (tgt := 127) d_Mo_composed_6 (by decide) rfl (fun hz1 => ?_) (fun hz1 => ?_)
  · refine ev_iload_n (i := 2) d_Mo_composed_127 rfl rfl rfl ?_
    exact ev_retI d_Mo_composed_128 (by have e : i = 3 := (by omega); subst e; rfl) rfl (Or.inl rfl)
  · refine ev_iconst d_Mo_composed_9 rfl ⟨by decide, by decide⟩ ?_
    refine ev_istore (i := 4) d_Mo_composed_10 rfl (by decide) rfl ?_
    refine ev_wl (fun n2 ls2 => ∃ k : Nat, k ≤ 3 ∧ n2 = 3 - k ∧ ls2 = [some (g_i ((o_v x : Nat) : Int)), some (g_i ((o_v y : Nat) : Int)), some (g_i ((o_4 (o_d (o_c x y)) (3 * i + k) : Nat) : Int)), some (g_i ((i : Nat) : Int)), some (g_i ((k : Nat) : Int)), none, none, none, none, none]) ?_ (n := 3) (⟨0, Nat.zero_le _, rfl, rfl⟩)
    intro n2 ls2 hP2 ih2
    obtain ⟨k, hk, hn2, rfl⟩ := hP2
    refine ev_iload (i := 4) d_Mo_composed_12 rfl rfl ?_
    refine ev_iconst d_Mo_composed_14 rfl ⟨by decide, by decide⟩ ?_
    refine ev_icmp_ge (tgt := 121) d_Mo_composed_15 (by decide) rfl (fun hz2 => ?_) (fun hz2 => ?_)
    · refine ev_iinc (z := ((i : Nat) : Int) + 1) d_Mo_composed_121 rfl rfl (by decide) (g_w_id (by unfold g_rg; omega)) rfl ?_
      refine ev_goto (tgt := 4) d_Mo_composed_124 (by decide) ?_
      have ek : k = 3 := by omega
      subst ek
      exact ev_le (ih (3 - (i + 1)) [some (g_i ((o_v x : Nat) : Int)), some (g_i ((o_v y : Nat) : Int)), some (g_i ((o_4 (o_d (o_c x y)) (3 * (i + 1)) : Nat) : Int)), some (g_i (((i + 1) : Nat) : Int)), none, none, none, none, none, none] (by omega) ⟨i + 1, by omega, rfl, rfl⟩) rfl ⟨rfl, rfl, rfl, rfl, trivial⟩
    · refine ev_iconst d_Mo_composed_18 rfl ⟨by decide, by decide⟩ ?_
      refine ev_istore (i := 5) d_Mo_composed_19 rfl (by decide) rfl ?_
      refine ev_iconst d_Mo_composed_21 rfl ⟨by decide, by decide⟩ ?_
      refine ev_istore (i := 6) d_Mo_composed_22 rfl (by decide) rfl ?_
      refine ev_wl (fun n3 ls3 => ∃ j : Nat, j ≤ 3 ∧ n3 = 3 - j ∧ ls3 = [some (g_i ((o_v x : Nat) : Int)), some (g_i ((o_v y : Nat) : Int)), some (g_i ((o_4 (o_d (o_c x y)) (3 * i + k) : Nat) : Int)), some (g_i ((i : Nat) : Int)), some (g_i ((k : Nat) : Int)), some (g_i ((o_be x y i k j : Nat) : Int)), some (g_i ((j : Nat) : Int)), none, none, none]) ?_ (n := 3) (⟨0, Nat.zero_le _, rfl, rfl⟩)
      intro n3 ls3 hP3 ih3
      obtain ⟨j, hj, hn3, rfl⟩ := hP3
      refine ev_iload (i := 6) d_Mo_composed_24 rfl rfl ?_
      refine ev_iconst d_Mo_composed_26 rfl ⟨by decide, by decide⟩ ?_
      refine ev_icmp_ge (tgt := 101) d_Mo_composed_27 (by decide) rfl (fun hz3 => ?_) (fun hz3 => ?_)
      · have ej : j = 3 := by omega
        subst ej
        rw [o_be_d hx hy (by omega) (by omega)]
        have hdl := o_d_le (o_c x y) (3 * i + k)
        have h4l := o_4_lt (d := o_d (o_c x y)) (fun p => by have := o_d_le (o_c x y) p; omega) (3 * i + k)
        have h4p : 4 ^ (3 * i + k) ≤ 4 ^ 8 := Nat.pow_le_pow_right (by decide) (by omega)
        have h4m := Nat.mul_le_mul hdl h4p
        refine ev_iload_n (i := 2) d_Mo_composed_101 rfl rfl rfl ?_
        refine ev_iload (i := 5) d_Mo_composed_102 rfl rfl ?_
        refine ev_iconst d_Mo_composed_104 rfl ⟨by decide, by decide⟩ ?_
        refine ev_iconst d_Mo_composed_105 rfl ⟨by decide, by decide⟩ ?_
        refine ev_iload_n (i := 3) d_Mo_composed_106 rfl rfl rfl ?_
        refine ev_imul (z := 3 * (i : Int)) d_Mo_composed_107 rfl (g_w_id (by unfold g_rg; omega)) ?_
        refine ev_iload (i := 4) d_Mo_composed_108 rfl rfl ?_
        refine ev_iadd (z := 3 * (i : Int) + (k : Int)) d_Mo_composed_110 rfl (g_w_id (by unfold g_rg; omega)) ?_
        refine ev_imul (z := ((2 * (3 * i + k) : Nat) : Int)) d_Mo_composed_111 rfl (by rw [g_w_id (by unfold g_rg; omega)]; omega) ?_
        refine ev_ishl (z := ((o_d (o_c x y) (3 * i + k) * 4 ^ (3 * i + k) : Nat) : Int)) d_Mo_composed_112 rfl (by rw [g_b_shl (by omega) (by rw [o_4p]; omega), o_4p]) ?_
        refine ev_ior (z := ((o_4 (o_d (o_c x y)) (3 * i + (k + 1)) : Nat) : Int)) d_Mo_composed_113 rfl (by rw [g_b_or (by omega) (by omega), o_4_or (fun p => by have := o_d_le (o_c x y) p; omega)]; rfl) ?_
        refine ev_istore_n (i := 2) d_Mo_composed_114 rfl rfl (by decide) rfl ?_
        refine ev_iinc (z := ((k : Nat) : Int) + 1) d_Mo_composed_115 rfl rfl (by decide) (g_w_id (by unfold g_rg; omega)) rfl ?_
        refine ev_goto (tgt := 12) d_Mo_composed_118 (by decide) ?_
        exact ev_le (ih2 (3 - (k + 1)) [some (g_i ((o_v x : Nat) : Int)), some (g_i ((o_v y : Nat) : Int)), some (g_i ((o_4 (o_d (o_c x y)) (3 * i + (k + 1)) : Nat) : Int)), some (g_i ((i : Nat) : Int)), some (g_i (((k + 1) : Nat) : Int)), none, none, none, none, none] (by omega) ⟨k + 1, by omega, rfl, rfl⟩) rfl ⟨rfl, rfl, rfl, rfl, rfl, trivial⟩
      · refine ev_iload_n (i := 0) d_Mo_composed_30 rfl rfl rfl ?_
        refine ev_iload_n (i := 3) d_Mo_composed_31 rfl rfl rfl ?_
        refine ev_iload (i := 6) d_Mo_composed_32 rfl rfl ?_
        refine ev_callS (As := [g_i ((o_v x : Nat) : Int), g_i ((i : Nat) : Int), g_i ((j : Nat) : Int)]) d_Mo_composed_34 rfl cl_Mo_195 (c_Mo_arcAt (d + 0) M x i j (by omega) (by omega)) (g_hR (by decide)) g_h0 rfl rfl (Nat.le_of_ble_eq_true rfl) rfl rfl ?_
        refine ev_istore (i := 7) d_Mo_composed_37 rfl (by decide) rfl ?_
        refine ev_iload_n (i := 1) d_Mo_composed_39 rfl rfl rfl ?_
        refine ev_iload (i := 6) d_Mo_composed_40 rfl rfl ?_
        refine ev_iload (i := 4) d_Mo_composed_42 rfl rfl ?_
        refine ev_callS (As := [g_i ((o_v y : Nat) : Int), g_i ((j : Nat) : Int), g_i ((k : Nat) : Int)]) d_Mo_composed_44 rfl cl_Mo_195 (c_Mo_arcAt (d + 0) M y j k (by omega) (by omega)) (g_hR (by decide)) g_h0 rfl rfl (Nat.le_of_ble_eq_true rfl) rfl rfl ?_
        refine ev_istore (i := 8) d_Mo_composed_47 rfl (by decide) rfl ?_
        refine ev_iload (i := 7) d_Mo_composed_49 rfl rfl ?_
        refine ev_if_eq (tgt := 59) d_Mo_composed_51 (by decide) rfl (fun c1 => ?_) (fun c1 => ?_)
        · refine ev_iconst d_Mo_composed_59 rfl ⟨by decide, by decide⟩ ?_
          refine ev_goto (tgt := 77) d_Mo_composed_60 (by decide) ?_
          refine ev_istore (i := 9) d_Mo_composed_77 rfl (by decide) rfl ?_
          refine ev_iload (i := 9) d_Mo_composed_79 rfl rfl ?_
          refine ev_iload (i := 5) d_Mo_composed_81 rfl rfl ?_
          refine ev_icmp_le (tgt := 91) d_Mo_composed_83 (by decide) rfl (fun c4 => ?_) (fun c4 => ?_)
          · refine ev_iload (i := 5) d_Mo_composed_91 rfl rfl ?_
            refine ev_istore (i := 5) d_Mo_composed_93 rfl (by decide) rfl ?_
            refine ev_iinc (z := ((j : Nat) : Int) + 1) d_Mo_composed_95 rfl rfl (by decide) (g_w_id (by unfold g_rg; omega)) rfl ?_
            refine ev_goto (tgt := 24) d_Mo_composed_98 (by decide) ?_
            exact ev_le (ih3 (3 - (j + 1)) [some (g_i ((o_v x : Nat) : Int)), some (g_i ((o_v y : Nat) : Int)), some (g_i ((o_4 (o_d (o_c x y)) (3 * i + k) : Nat) : Int)), some (g_i ((i : Nat) : Int)), some (g_i ((k : Nat) : Int)), some (g_i ((o_be x y i k (j + 1) : Nat) : Int)), some (g_i (((j + 1) : Nat) : Int)), none, none, none] (by omega) ⟨j + 1, by omega, rfl, rfl⟩) rfl ⟨rfl, rfl, rfl, rfl, rfl, congrArg (fun z => some (some (g_i z))) (by rw [o_be]; unfold o_bo; (repeat' split) <;> omega), rfl, trivial⟩
          · refine ev_iload (i := 9) d_Mo_composed_86 rfl rfl ?_
            refine ev_goto (tgt := 93) d_Mo_composed_88 (by decide) ?_
            refine ev_istore (i := 5) d_Mo_composed_93 rfl (by decide) rfl ?_
            refine ev_iinc (z := ((j : Nat) : Int) + 1) d_Mo_composed_95 rfl rfl (by decide) (g_w_id (by unfold g_rg; omega)) rfl ?_
            refine ev_goto (tgt := 24) d_Mo_composed_98 (by decide) ?_
            exact ev_le (ih3 (3 - (j + 1)) [some (g_i ((o_v x : Nat) : Int)), some (g_i ((o_v y : Nat) : Int)), some (g_i ((o_4 (o_d (o_c x y)) (3 * i + k) : Nat) : Int)), some (g_i ((i : Nat) : Int)), some (g_i ((k : Nat) : Int)), some (g_i ((o_be x y i k (j + 1) : Nat) : Int)), some (g_i (((j + 1) : Nat) : Int)), none, none, none] (by omega) ⟨j + 1, by omega, rfl, rfl⟩) rfl ⟨rfl, rfl, rfl, rfl, rfl, congrArg (fun z => some (some (g_i z))) (by rw [o_be]; unfold o_bo; (repeat' split) <;> omega), rfl, trivial⟩
        · refine ev_iload (i := 8) d_Mo_composed_54 rfl rfl ?_
          refine ev_if_ne (tgt := 63) d_Mo_composed_56 (by decide) rfl (fun c2 => ?_) (fun c2 => ?_)
          · refine ev_iload (i := 7) d_Mo_composed_63 rfl rfl ?_
            refine ev_iload (i := 8) d_Mo_composed_65 rfl rfl ?_
            refine ev_icmp_le (tgt := 75) d_Mo_composed_67 (by decide) rfl (fun c3 => ?_) (fun c3 => ?_)
            · refine ev_iload (i := 8) d_Mo_composed_75 rfl rfl ?_
              refine ev_istore (i := 9) d_Mo_composed_77 rfl (by decide) rfl ?_
              refine ev_iload (i := 9) d_Mo_composed_79 rfl rfl ?_
              refine ev_iload (i := 5) d_Mo_composed_81 rfl rfl ?_
              refine ev_icmp_le (tgt := 91) d_Mo_composed_83 (by decide) rfl (fun c4 => ?_) (fun c4 => ?_)
              · refine ev_iload (i := 5) d_Mo_composed_91 rfl rfl ?_
                refine ev_istore (i := 5) d_Mo_composed_93 rfl (by decide) rfl ?_
                refine ev_iinc (z := ((j : Nat) : Int) + 1) d_Mo_composed_95 rfl rfl (by decide) (g_w_id (by unfold g_rg; omega)) rfl ?_
                refine ev_goto (tgt := 24) d_Mo_composed_98 (by decide) ?_
                exact ev_le (ih3 (3 - (j + 1)) [some (g_i ((o_v x : Nat) : Int)), some (g_i ((o_v y : Nat) : Int)), some (g_i ((o_4 (o_d (o_c x y)) (3 * i + k) : Nat) : Int)), some (g_i ((i : Nat) : Int)), some (g_i ((k : Nat) : Int)), some (g_i ((o_be x y i k (j + 1) : Nat) : Int)), some (g_i (((j + 1) : Nat) : Int)), none, none, none] (by omega) ⟨j + 1, by omega, rfl, rfl⟩) rfl ⟨rfl, rfl, rfl, rfl, rfl, congrArg (fun z => some (some (g_i z))) (by rw [o_be]; unfold o_bo; (repeat' split) <;> omega), rfl, trivial⟩
              · refine ev_iload (i := 9) d_Mo_composed_86 rfl rfl ?_
                refine ev_goto (tgt := 93) d_Mo_composed_88 (by decide) ?_
                refine ev_istore (i := 5) d_Mo_composed_93 rfl (by decide) rfl ?_
                refine ev_iinc (z := ((j : Nat) : Int) + 1) d_Mo_composed_95 rfl rfl (by decide) (g_w_id (by unfold g_rg; omega)) rfl ?_
                refine ev_goto (tgt := 24) d_Mo_composed_98 (by decide) ?_
                exact ev_le (ih3 (3 - (j + 1)) [some (g_i ((o_v x : Nat) : Int)), some (g_i ((o_v y : Nat) : Int)), some (g_i ((o_4 (o_d (o_c x y)) (3 * i + k) : Nat) : Int)), some (g_i ((i : Nat) : Int)), some (g_i ((k : Nat) : Int)), some (g_i ((o_be x y i k (j + 1) : Nat) : Int)), some (g_i (((j + 1) : Nat) : Int)), none, none, none] (by omega) ⟨j + 1, by omega, rfl, rfl⟩) rfl ⟨rfl, rfl, rfl, rfl, rfl, congrArg (fun z => some (some (g_i z))) (by rw [o_be]; unfold o_bo; (repeat' split) <;> omega), rfl, trivial⟩
            · refine ev_iload (i := 7) d_Mo_composed_70 rfl rfl ?_
              refine ev_goto (tgt := 77) d_Mo_composed_72 (by decide) ?_
              refine ev_istore (i := 9) d_Mo_composed_77 rfl (by decide) rfl ?_
              refine ev_iload (i := 9) d_Mo_composed_79 rfl rfl ?_
              refine ev_iload (i := 5) d_Mo_composed_81 rfl rfl ?_
              refine ev_icmp_le (tgt := 91) d_Mo_composed_83 (by decide) rfl (fun c4 => ?_) (fun c4 => ?_)
              · refine ev_iload (i := 5) d_Mo_composed_91 rfl rfl ?_
                refine ev_istore (i := 5) d_Mo_composed_93 rfl (by decide) rfl ?_
                refine ev_iinc (z := ((j : Nat) : Int) + 1) d_Mo_composed_95 rfl rfl (by decide) (g_w_id (by unfold g_rg; omega)) rfl ?_
                refine ev_goto (tgt := 24) d_Mo_composed_98 (by decide) ?_
                exact ev_le (ih3 (3 - (j + 1)) [some (g_i ((o_v x : Nat) : Int)), some (g_i ((o_v y : Nat) : Int)), some (g_i ((o_4 (o_d (o_c x y)) (3 * i + k) : Nat) : Int)), some (g_i ((i : Nat) : Int)), some (g_i ((k : Nat) : Int)), some (g_i ((o_be x y i k (j + 1) : Nat) : Int)), some (g_i (((j + 1) : Nat) : Int)), none, none, none] (by omega) ⟨j + 1, by omega, rfl, rfl⟩) rfl ⟨rfl, rfl, rfl, rfl, rfl, congrArg (fun z => some (some (g_i z))) (by rw [o_be]; unfold o_bo; (repeat' split) <;> omega), rfl, trivial⟩
              · refine ev_iload (i := 9) d_Mo_composed_86 rfl rfl ?_
                refine ev_goto (tgt := 93) d_Mo_composed_88 (by decide) ?_
                refine ev_istore (i := 5) d_Mo_composed_93 rfl (by decide) rfl ?_
                refine ev_iinc (z := ((j : Nat) : Int) + 1) d_Mo_composed_95 rfl rfl (by decide) (g_w_id (by unfold g_rg; omega)) rfl ?_
                refine ev_goto (tgt := 24) d_Mo_composed_98 (by decide) ?_
                exact ev_le (ih3 (3 - (j + 1)) [some (g_i ((o_v x : Nat) : Int)), some (g_i ((o_v y : Nat) : Int)), some (g_i ((o_4 (o_d (o_c x y)) (3 * i + k) : Nat) : Int)), some (g_i ((i : Nat) : Int)), some (g_i ((k : Nat) : Int)), some (g_i ((o_be x y i k (j + 1) : Nat) : Int)), some (g_i (((j + 1) : Nat) : Int)), none, none, none] (by omega) ⟨j + 1, by omega, rfl, rfl⟩) rfl ⟨rfl, rfl, rfl, rfl, rfl, congrArg (fun z => some (some (g_i z))) (by rw [o_be]; unfold o_bo; (repeat' split) <;> omega), rfl, trivial⟩
          · refine ev_iconst d_Mo_composed_59 rfl ⟨by decide, by decide⟩ ?_
            refine ev_goto (tgt := 77) d_Mo_composed_60 (by decide) ?_
            refine ev_istore (i := 9) d_Mo_composed_77 rfl (by decide) rfl ?_
            refine ev_iload (i := 9) d_Mo_composed_79 rfl rfl ?_
            refine ev_iload (i := 5) d_Mo_composed_81 rfl rfl ?_
            refine ev_icmp_le (tgt := 91) d_Mo_composed_83 (by decide) rfl (fun c4 => ?_) (fun c4 => ?_)
            · refine ev_iload (i := 5) d_Mo_composed_91 rfl rfl ?_
              refine ev_istore (i := 5) d_Mo_composed_93 rfl (by decide) rfl ?_
              refine ev_iinc (z := ((j : Nat) : Int) + 1) d_Mo_composed_95 rfl rfl (by decide) (g_w_id (by unfold g_rg; omega)) rfl ?_
              refine ev_goto (tgt := 24) d_Mo_composed_98 (by decide) ?_
              exact ev_le (ih3 (3 - (j + 1)) [some (g_i ((o_v x : Nat) : Int)), some (g_i ((o_v y : Nat) : Int)), some (g_i ((o_4 (o_d (o_c x y)) (3 * i + k) : Nat) : Int)), some (g_i ((i : Nat) : Int)), some (g_i ((k : Nat) : Int)), some (g_i ((o_be x y i k (j + 1) : Nat) : Int)), some (g_i (((j + 1) : Nat) : Int)), none, none, none] (by omega) ⟨j + 1, by omega, rfl, rfl⟩) rfl ⟨rfl, rfl, rfl, rfl, rfl, congrArg (fun z => some (some (g_i z))) (by rw [o_be]; unfold o_bo; (repeat' split) <;> omega), rfl, trivial⟩
            · refine ev_iload (i := 9) d_Mo_composed_86 rfl rfl ?_
              refine ev_goto (tgt := 93) d_Mo_composed_88 (by decide) ?_
              refine ev_istore (i := 5) d_Mo_composed_93 rfl (by decide) rfl ?_
              refine ev_iinc (z := ((j : Nat) : Int) + 1) d_Mo_composed_95 rfl rfl (by decide) (g_w_id (by unfold g_rg; omega)) rfl ?_
              refine ev_goto (tgt := 24) d_Mo_composed_98 (by decide) ?_
              exact ev_le (ih3 (3 - (j + 1)) [some (g_i ((o_v x : Nat) : Int)), some (g_i ((o_v y : Nat) : Int)), some (g_i ((o_4 (o_d (o_c x y)) (3 * i + k) : Nat) : Int)), some (g_i ((i : Nat) : Int)), some (g_i ((k : Nat) : Int)), some (g_i ((o_be x y i k (j + 1) : Nat) : Int)), some (g_i (((j + 1) : Nat) : Int)), none, none, none] (by omega) ⟨j + 1, by omega, rfl, rfl⟩) rfl ⟨rfl, rfl, rfl, rfl, rfl, congrArg (fun z => some (some (g_i z))) (by rw [o_be]; unfold o_bo; (repeat' split) <;> omega), rfl, trivial⟩
