/-- the constructors of a type, among the first c -/
def y_l (M : g_M) (Ty : Int) (c : Nat) : List Nat := (List.range c).filter (fun x => decide (M 46 x = Ty))
theorem y_l_y {M : g_M} {Ty : Int} {c : Nat} (h : M 46 c = Ty) : y_l M Ty (c + 1) = y_l M Ty c ++ [c] := by
  unfold y_l
  rw [List.range_succ, List.filter_append, List.filter_cons_of_pos (by simpa using h), List.filter_nil]
theorem y_l_n {M : g_M} {Ty : Int} {c : Nat} (h : ¬ M 46 c = Ty) : y_l M Ty (c + 1) = y_l M Ty c := by
  unfold y_l
  rw [List.range_succ, List.filter_append, List.filter_cons_of_neg (by simpa using h), List.filter_nil, List.append_nil]
theorem y_l_len (M : g_M) (Ty : Int) (c : Nat) : (y_l M Ty c).length ≤ c := by
  have := List.length_filter_le (fun x => decide (M 46 x = Ty)) (List.range c)
  rw [List.length_range] at this
  exact this
theorem c_Mo_splitAt (d : Nat) (M : g_M) (M1 : g_M) (f r k m : Nat) (Ty : Int) (he : e67 M M1) (hr : r ≤ 90) (hk : k < 12) (hm : M 45 0 = m) (hm8 : m ≤ 8) (hTy : Con y_Mo_typeAt w_Mo_typeAt (g_rm (d + 0)) LX M1 [g_r 45, g_i (f : Int), g_i (r : Int), g_i (k : Int)] LX M1 (some (g_i Ty))) : ConR y_Mo_splitAt w_Mo_splitAt (g_rm (d + 1)) LX M1 [g_r 45, g_i (f : Int), g_i (r : Int), g_i (k : Int)] LX (fun M2 v2 => ∃ x : Int, v2 = some (g_i x) ∧ e67 M M2 ∧ x = ((r + (y_l M Ty m).length : Nat) : Int) ∧ (∀ b : Nat, b < 12 * r → M2 67 b = M1 67 b) ∧ ∀ j x : Nat, (y_l M Ty m)[j]? = some x → ∀ q : Nat, q < 12 → M2 67 (12 * (r + j) + q) = y_u (fun q => M1 67 (12 * r + q)) k (x : Int) q) := by
  refine con_ofR (av := [g_r 45, g_i (f : Int), g_i (r : Int), g_i (k : Int)]) (ls0 := [some (g_r 45), some (g_i (f : Int)), some (g_i (r : Int)), some (g_i (k : Int)), none, none, none, none]) (by decide) rfl (Nat.le_of_ble_eq_true rfl) (g_hls (av := [g_r 45, g_i (f : Int), g_i (r : Int), g_i (k : Int)]) (k := 4)) (fun _ h9 => List.mem_cons_of_mem _ h9) ?_
  refine ev_aload_n (i := 0) d_Mo_splitAt_0 rfl rfl rfl ?_
  refine ev_iload_n (i := 1) d_Mo_splitAt_1 rfl rfl rfl ?_
  refine ev_iload_n (i := 2) d_Mo_splitAt_2 rfl rfl rfl ?_
  refine ev_iload_n (i := 3) d_Mo_splitAt_3 rfl rfl rfl ?_
  refine ev_callV (As := [g_i (f : Int), g_i (r : Int), g_i (k : Int)]) d_Mo_splitAt_4 rfl cl_Mo_183 (hTy) (g_hR (by decide)) g_h0 lx_45 rfl rfl (Nat.le_of_ble_eq_true rfl) rfl rfl ?_
  refine ev_istore (i := 4) d_Mo_splitAt_7 rfl (by decide) rfl ?_
  refine ev_iload_n (i := 2) d_Mo_splitAt_9 rfl rfl rfl ?_
  refine ev_istore (i := 5) d_Mo_splitAt_10 rfl (by decide) rfl ?_
  refine ev_iconst d_Mo_splitAt_12 rfl ⟨by decide, by decide⟩ ?_
  refine ev_istore (i := 6) d_Mo_splitAt_13 rfl (by decide) rfl ?_
  refine ev_wh (fun n ls1 M2 => ∃ q : Nat, q ≤ 12 ∧ n = 12 - q ∧ ls1 = [some (g_r 45), some (g_i (f : Int)), some (g_i (r : Int)), some (g_i (k : Int)), some (g_i Ty), some (g_i (r : Int)), some (g_i (q : Int)), none] ∧ e67 M M2 ∧ (∀ j : Nat, j < q → M2 67 (1188 + j) = (fun q => M1 67 (12 * r + q)) j) ∧ ∀ b : Nat, b < 1188 → M2 67 b = M1 67 b) ?_ (n := 12) (⟨0, Nat.zero_le _, rfl, rfl, he, fun j hj => by omega, fun _ _ => rfl⟩)
  intro n ls1 M2 hP0 ih
  obtain ⟨q, hq, hn, rfl, he2, h21, h22⟩ := hP0
  refine ev_iload (i := 6) d_Mo_splitAt_15 rfl rfl ?_
  refine ev_bipush d_Mo_splitAt_17 rfl (by decide +kernel) ⟨by decide, by decide⟩ ?_
  refine ev_icmp_ge (tgt := 51) d_Mo_splitAt_19 (by decide) rfl (fun hz => ?_) (fun hz => ?_)
  · have eq12 : q = 12 := by omega
    subst eq12
    refine ev_iconst d_Mo_splitAt_51 rfl ⟨by decide, by decide⟩ ?_
    refine ev_istore (i := 6) d_Mo_splitAt_52 rfl (by decide) rfl ?_
    refine ev_wh (fun n2 ls2 M3 => ∃ c : Nat, c ≤ m ∧ n2 = m - c ∧ ls2 = [some (g_r 45), some (g_i (f : Int)), some (g_i (r : Int)), some (g_i (k : Int)), some (g_i Ty), some (g_i ((r + (y_l M Ty c).length : Nat) : Int)), some (g_i (c : Int)), none] ∧ e67 M M3 ∧ (∀ j : Nat, j < 12 → M3 67 (1188 + j) = (fun q => M1 67 (12 * r + q)) j) ∧ (∀ b : Nat, b < 12 * r → M3 67 b = M1 67 b) ∧ ∀ j x : Nat, (y_l M Ty c)[j]? = some x → ∀ q : Nat, q < 12 → M3 67 (12 * (r + j) + q) = y_u (fun q => M1 67 (12 * r + q)) k (x : Int) q) ?_ (n := m) (⟨0, Nat.zero_le _, rfl, rfl, he2, fun j hj => h21 j (by omega), fun b hb => h22 b (by omega), fun j x hj => by simp [y_l] at hj⟩)
    intro n2 ls2 M3 hP2 ih2
    obtain ⟨c, hc, hn2, rfl, he3, h31, h32, h33⟩ := hP2
    have hlen := y_l_len M Ty c
    refine ev_iload (i := 6) d_Mo_splitAt_54 rfl rfl ?_
    refine ev_aload_n (i := 0) d_Mo_splitAt_56 rfl rfl rfl ?_
    refine ev_getI (z := (m : Int)) d_Mo_splitAt_57 rfl lk_Mo_116 lx_45 rfl ((he3 45 0 (by decide)).trans hm) ?_
    refine ev_icmp_ge (tgt := 135) d_Mo_splitAt_60 (by decide) rfl (fun hz2 => ?_) (fun hz2 => ?_)
    · refine ev_iload (i := 5) d_Mo_splitAt_135 rfl rfl ?_
      exact ev_retIR d_Mo_splitAt_137 (⟨((r + (y_l M Ty m).length : Nat) : Int), by have e : c = m := (by omega); subst e; rfl, he3, by have e : c = m := (by omega); subst e; rfl, h32, by have e : c = m := (by omega); subst e; exact h33⟩) (Or.inl rfl)
    · refine ev_aload_n (i := 0) d_Mo_splitAt_63 rfl rfl rfl ?_
      refine ev_getR d_Mo_splitAt_64 rfl lk_Mo_7 lx_45 rfl ?_
      refine ev_iload (i := 6) d_Mo_splitAt_67 rfl rfl ?_
      refine ev_iaload (z := M 46 c) d_Mo_splitAt_69 rfl lx_46 (by omega) (by omega) (he3 46 _ (by decide)) ?_
      refine ev_iload (i := 4) d_Mo_splitAt_70 rfl rfl ?_
      refine ev_icmp_ne (tgt := 129) d_Mo_splitAt_72 (by decide) rfl (fun c1 => ?_) (fun c1 => ?_)
      · refine ev_iinc (z := (c : Int) + 1) d_Mo_splitAt_129 rfl rfl (by decide) (g_w_id (by unfold g_rg; omega)) rfl ?_
        refine ev_goto (tgt := 54) d_Mo_splitAt_132 (by decide) ?_
        refine ev_le (ih2 (m - (c + 1)) [some (g_r 45), some (g_i (f : Int)), some (g_i (r : Int)), some (g_i (k : Int)), some (g_i Ty), some (g_i ((r + (y_l M Ty (c + 1)).length : Nat) : Int)), some (g_i ((c + 1 : Nat) : Int)), none] M3 (by omega) ⟨c + 1, by omega, rfl, rfl, he3, h31, h32, by rw [y_l_n c1]; exact h33⟩) rfl ⟨rfl, rfl, rfl, rfl, rfl, by rw [y_l_n c1]; rfl, rfl, trivial⟩
      · refine ev_iconst d_Mo_splitAt_75 rfl ⟨by decide, by decide⟩ ?_
        refine ev_istore (i := 7) d_Mo_splitAt_76 rfl (by decide) rfl ?_
        refine ev_wh (fun n3 ls3 M4 => ∃ q : Nat, q ≤ 12 ∧ n3 = 12 - q ∧ ls3 = [some (g_r 45), some (g_i (f : Int)), some (g_i (r : Int)), some (g_i (k : Int)), some (g_i Ty), some (g_i ((r + (y_l M Ty c).length : Nat) : Int)), some (g_i (c : Int)), some (g_i (q : Int))] ∧ e67 M M4 ∧ (∀ j : Nat, j < 12 → M4 67 (1188 + j) = (fun q => M1 67 (12 * r + q)) j) ∧ (∀ b : Nat, b < (12 * (r + (y_l M Ty c).length)) → M4 67 b = M3 67 b) ∧ ∀ j : Nat, j < q → M4 67 ((12 * (r + (y_l M Ty c).length)) + j) = y_u (fun q => M1 67 (12 * r + q)) k (c : Int) j) ?_ (n := 12) (⟨0, Nat.zero_le _, rfl, rfl, he3, h31, fun _ _ => rfl, fun j hj => by omega⟩)
        intro n3 ls3 M4 hP3 ih3
        obtain ⟨q, hq, hn3, rfl, he4, h41, h42, h43⟩ := hP3
        refine ev_iload (i := 7) d_Mo_splitAt_78 rfl rfl ?_
        refine ev_bipush d_Mo_splitAt_80 rfl (by decide +kernel) ⟨by decide, by decide⟩ ?_
        refine ev_icmp_ge (tgt := 126) d_Mo_splitAt_82 (by decide) rfl (fun hz3 => ?_) (fun hz3 => ?_)
        · refine ev_iinc (z := ((r + (y_l M Ty c).length : Nat) : Int) + 1) d_Mo_splitAt_126 rfl rfl (by decide) (g_w_id (by unfold g_rg; omega)) rfl ?_
          refine ev_iinc (z := (c : Int) + 1) d_Mo_splitAt_129 rfl rfl (by decide) (g_w_id (by unfold g_rg; omega)) rfl ?_
          refine ev_goto (tgt := 54) d_Mo_splitAt_132 (by decide) ?_
          have eq12 : q = 12 := by omega
          subst eq12
          refine ev_le (ih2 (m - (c + 1)) [some (g_r 45), some (g_i (f : Int)), some (g_i (r : Int)), some (g_i (k : Int)), some (g_i Ty), some (g_i ((r + (y_l M Ty (c + 1)).length : Nat) : Int)), some (g_i ((c + 1 : Nat) : Int)), none] M4 (by omega) ⟨c + 1, by omega, rfl, rfl, he4, h41, fun b hb => ?_, fun j x hj q hq => ?_⟩) rfl ⟨rfl, rfl, rfl, rfl, rfl, congrArg (fun z => some (some (g_i z))) (by rw [y_l_y c1, List.length_append, List.length_cons, List.length_nil]; omega), rfl, trivial⟩
          · rw [h42 b (by omega)]; exact h32 b hb
          · rw [y_l_y c1] at hj
            by_cases hjl : j < (y_l M Ty c).length
            · rw [List.getElem?_append_left hjl] at hj; rw [h42 _ (by omega)]; exact h33 j x hj q hq
            · rw [List.getElem?_append_right (by omega)] at hj
              have ej : j - (y_l M Ty c).length = 0 := by have h9 := (List.getElem?_eq_some_iff.mp hj).1; simp at h9; omega
              rw [ej] at hj
              have ex : c = x := by simpa using hj
              subst ex
              rw [show r + j = r + (y_l M Ty c).length by omega]
              exact h43 q hq
        · refine ev_aload_n (i := 0) d_Mo_splitAt_85 rfl rfl rfl ?_
          refine ev_getR d_Mo_splitAt_86 rfl lk_Mo_74 lx_45 rfl ?_
          refine ev_bipush d_Mo_splitAt_89 rfl (by decide +kernel) ⟨by decide, by decide⟩ ?_
          refine ev_iload (i := 5) d_Mo_splitAt_91 rfl rfl ?_
          refine ev_imul (z := 12 * ((r + (y_l M Ty c).length : Nat) : Int)) d_Mo_splitAt_93 rfl (g_w_id (by unfold g_rg; omega)) ?_
          refine ev_iload (i := 7) d_Mo_splitAt_94 rfl rfl ?_
          refine ev_iadd (z := (((12 * (r + (y_l M Ty c).length)) + q : Nat) : Int)) d_Mo_splitAt_96 rfl (by rw [g_w_id (by unfold g_rg; omega)]; omega) ?_
          refine ev_iload (i := 7) d_Mo_splitAt_97 rfl rfl ?_
          refine ev_iload_n (i := 3) d_Mo_splitAt_99 rfl rfl rfl ?_
          refine ev_icmp_ne (tgt := 108) d_Mo_splitAt_100 (by decide) rfl (fun c2 => ?_) (fun c2 => ?_)
          · refine ev_aload_n (i := 0) d_Mo_splitAt_108 rfl rfl rfl ?_
            refine ev_getR d_Mo_splitAt_109 rfl lk_Mo_74 lx_45 rfl ?_
            refine ev_sipush d_Mo_splitAt_112 rfl (by decide +kernel) ⟨by decide, by decide⟩ ?_
            refine ev_iload (i := 7) d_Mo_splitAt_115 rfl rfl ?_
            refine ev_iadd (z := ((1188 + q : Nat) : Int)) d_Mo_splitAt_117 rfl (by rw [g_w_id (by unfold g_rg; omega)]; omega) ?_
            refine ev_iaload (z := M1 67 (12 * r + q)) d_Mo_splitAt_118 rfl lx_67 (by omega) (by omega) (by rw [Int.toNat_natCast]; exact h41 q (by omega)) ?_
            refine ev_iastore d_Mo_splitAt_119 rfl lx_67 (by omega) (by omega) ?_
            rw [show Int.toNat (((((12 * (r + (y_l M Ty c).length)) + q : Nat) : Int))) = ((12 * (r + (y_l M Ty c).length)) + q) by rfl]
            refine ev_iinc (z := (q : Int) + 1) d_Mo_splitAt_120 rfl rfl (by decide) (g_w_id (by unfold g_rg; omega)) rfl ?_
            refine ev_goto (tgt := 78) d_Mo_splitAt_123 (by decide) ?_
            refine ev_le (ih3 (12 - (q + 1)) [some (g_r 45), some (g_i (f : Int)), some (g_i (r : Int)), some (g_i (k : Int)), some (g_i Ty), some (g_i ((r + (y_l M Ty c).length : Nat) : Int)), some (g_i (c : Int)), some (g_i ((q + 1 : Nat) : Int))] _ (by omega) ⟨q + 1, by omega, rfl, rfl, he4.up _ _, fun j hj => ?_, fun b hb => ?_, fun j hj => ?_⟩) rfl ⟨rfl, rfl, rfl, rfl, rfl, rfl, rfl, rfl, trivial⟩
            · simp only [g_up, true_and]; rw [if_neg (by omega)]; exact h41 j hj
            · simp only [g_up, true_and]; rw [if_neg (by omega)]; exact h42 b hb
            · simp only [g_up, true_and]
              by_cases hjq : j = q
              · subst hjq; rw [if_pos rfl]; unfold y_u; first | rw [if_pos (by omega)] | rw [if_neg (by omega)]
              · rw [if_neg (by omega)]; exact h43 j (by omega)
          · refine ev_iload (i := 6) d_Mo_splitAt_103 rfl rfl ?_
            refine ev_goto (tgt := 119) d_Mo_splitAt_105 (by decide) ?_
            refine ev_iastore d_Mo_splitAt_119 rfl lx_67 (by omega) (by omega) ?_
            rw [show Int.toNat (((((12 * (r + (y_l M Ty c).length)) + q : Nat) : Int))) = ((12 * (r + (y_l M Ty c).length)) + q) by rfl]
            refine ev_iinc (z := (q : Int) + 1) d_Mo_splitAt_120 rfl rfl (by decide) (g_w_id (by unfold g_rg; omega)) rfl ?_
            refine ev_goto (tgt := 78) d_Mo_splitAt_123 (by decide) ?_
            refine ev_le (ih3 (12 - (q + 1)) [some (g_r 45), some (g_i (f : Int)), some (g_i (r : Int)), some (g_i (k : Int)), some (g_i Ty), some (g_i ((r + (y_l M Ty c).length : Nat) : Int)), some (g_i (c : Int)), some (g_i ((q + 1 : Nat) : Int))] _ (by omega) ⟨q + 1, by omega, rfl, rfl, he4.up _ _, fun j hj => ?_, fun b hb => ?_, fun j hj => ?_⟩) rfl ⟨rfl, rfl, rfl, rfl, rfl, rfl, rfl, rfl, trivial⟩
            · simp only [g_up, true_and]; rw [if_neg (by omega)]; exact h41 j hj
            · simp only [g_up, true_and]; rw [if_neg (by omega)]; exact h42 b hb
            · simp only [g_up, true_and]
              by_cases hjq : j = q
              · subst hjq; rw [if_pos rfl]; unfold y_u; first | rw [if_pos (by omega)] | rw [if_neg (by omega)]
              · rw [if_neg (by omega)]; exact h43 j (by omega)
  · refine ev_aload_n (i := 0) d_Mo_splitAt_22 rfl rfl rfl ?_
    refine ev_getR d_Mo_splitAt_23 rfl lk_Mo_74 lx_45 rfl ?_
    refine ev_sipush d_Mo_splitAt_26 rfl (by decide +kernel) ⟨by decide, by decide⟩ ?_
    refine ev_iload (i := 6) d_Mo_splitAt_29 rfl rfl ?_
    refine ev_iadd (z := ((1188 + q : Nat) : Int)) d_Mo_splitAt_31 rfl (by rw [g_w_id (by unfold g_rg; omega)]; omega) ?_
    refine ev_aload_n (i := 0) d_Mo_splitAt_32 rfl rfl rfl ?_
    refine ev_getR d_Mo_splitAt_33 rfl lk_Mo_74 lx_45 rfl ?_
    refine ev_bipush d_Mo_splitAt_36 rfl (by decide +kernel) ⟨by decide, by decide⟩ ?_
    refine ev_iload_n (i := 2) d_Mo_splitAt_38 rfl rfl rfl ?_
    refine ev_imul (z := 12 * (r : Int)) d_Mo_splitAt_39 rfl (g_w_id (by unfold g_rg; omega)) ?_
    refine ev_iload (i := 6) d_Mo_splitAt_40 rfl rfl ?_
    refine ev_iadd (z := ((12 * r + q : Nat) : Int)) d_Mo_splitAt_42 rfl (by rw [g_w_id (by unfold g_rg; omega)]; omega) ?_
    refine ev_iaload (z := M1 67 (12 * r + q)) d_Mo_splitAt_43 rfl lx_67 (by omega) (by omega) (by rw [Int.toNat_natCast]; exact h22 _ (by omega)) ?_
    refine ev_iastore d_Mo_splitAt_44 rfl lx_67 (by omega) (by omega) ?_
    rw [show Int.toNat ((((1188 + q : Nat) : Int))) = (1188 + q) by rfl]
    refine ev_iinc (z := (q : Int) + 1) d_Mo_splitAt_45 rfl rfl (by decide) (g_w_id (by unfold g_rg; omega)) rfl ?_
    refine ev_goto (tgt := 15) d_Mo_splitAt_48 (by decide) ?_
    refine ev_le (ih (12 - (q + 1)) [some (g_r 45), some (g_i (f : Int)), some (g_i (r : Int)), some (g_i (k : Int)), some (g_i Ty), some (g_i (r : Int)), some (g_i ((q + 1 : Nat) : Int)), none] _ (by omega) ⟨q + 1, by omega, rfl, rfl, he2.up _ _, fun j hj => ?_, fun b hb => ?_⟩) rfl ⟨rfl, rfl, rfl, rfl, rfl, rfl, rfl, trivial⟩
    · simp only [g_up, true_and]
      by_cases hjq : j = q
      · subst hjq; rw [if_pos rfl]
      · rw [if_neg (by omega)]; exact h21 j (by omega)
    · simp only [g_up, true_and]; rw [if_neg (by omega)]; exact h22 b hb
