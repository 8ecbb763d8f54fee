/-- all but the class's filled slots -/
def e29 (M M1 : g_M) : Prop := ∀ k b : Nat, k ≠ 29 → M1 k b = M k b
theorem e29.rf (M : g_M) : e29 M M := fun _ _ _ => rfl
theorem e29.fn {M M1 : g_M} (h : e29 M M1) {k : Nat} (hk : k ≠ 29) : M1 k = M k := funext fun b => h k b hk
theorem e29.up {M M1 : g_M} (h : e29 M M1) (i : Nat) (z : Int) : e29 M (g_up M1 29 i z) := fun k b hk => by rw [g_up_ne hk]; exact h k b hk
theorem g_up_up (M : g_M) (k i : Nat) (z z' : Int) : g_up (g_up M k i z) k i z' = g_up M k i z' := by
  funext a b
  simp only [g_up]
  split <;> simp_all
theorem g_up_id {M : g_M} {k i : Nat} {z : Int} (h : M k i = z) : g_up M k i z = M := by
  funext a b
  simp only [g_up]
  split
  · rename_i h9
    rw [h9.1, h9.2, h]
  · rfl
theorem y_u_29 (M : g_M) (k : Nat) (z : Int) : (g_up M 29 k z) 29 = y_u (M 29) k z := by
  funext s
  simp [g_up, y_u]
/-- how many slots are open -/
def y_n (R : Nat → Int) : Nat → Nat
  | 0 => 0
  | i + 1 => y_n R i + if R i = -1 then 1 else 0
theorem y_n_pos {R : Nat → Int} {k : Nat} (h : R k = -1) : ∀ i : Nat, k < i → 1 ≤ y_n R i
  | 0, hk => by omega
  | i + 1, hk => by
    rw [y_n]
    by_cases hki : k = i
    · subst hki
      rw [if_pos h]
      omega
    · have := y_n_pos h i (by omega)
      omega
theorem y_n_le {R : Nat → Int} {k : Nat} {z : Int} : ∀ i : Nat, i ≤ k → y_n (y_u R k z) i = y_n R i
  | 0, _ => rfl
  | i + 1, h => by
    rw [y_n, y_n, y_n_le i (by omega), show y_u R k z i = R i from if_neg (by omega)]
theorem y_n_u {R : Nat → Int} {k : Nat} {z : Int} (h : R k = -1) (hz : z ≠ -1) : ∀ i : Nat, k < i → y_n (y_u R k z) i + 1 = y_n R i
  | 0, hk => by omega
  | i + 1, hk => by
    rw [y_n, y_n]
    by_cases hki : k = i
    · subst hki
      rw [y_n_le k (Nat.le_refl _), show y_u R k z k = z from if_pos rfl, if_neg hz, if_pos h]
    · have := y_n_u h hz i (by omega)
      rw [show y_u R k z i = R i from if_neg (fun h9 => hki h9.symm)]
      omega
theorem c_Co_slotType_o (d : Nat) (M : g_M) (M1 : g_M) (f s : Nat) (he : e29 M M1) (hs : s < 12) (hf6 : f < 6) (h51 : M 8 (3 * f + s / 4) = M 51 (3 * f + s / 4)) (h4 : s % 4 = 0) : Con y_Co_slotType w_Co_slotType (g_rm (d + 1)) LX M1 [g_r 27, g_i (f : Int), g_i (s : Int)] LX M1 (some (g_i (M 51 (3 * f + s / 4)))) := by
  refine con_of (av := [g_r 27, g_i (f : Int), g_i (s : Int)]) (ls0 := [some (g_r 27), some (g_i (f : Int)), some (g_i (s : Int)), none, none, none]) (by decide) rfl (Nat.le_of_ble_eq_true rfl) (g_hls (av := [g_r 27, g_i (f : Int), g_i (s : Int)]) (k := 3)) (fun _ h9 => List.mem_cons_of_mem _ h9) ?_
  refine ev_iload_n (i := 2) d_Co_slotType_0 rfl rfl rfl ?_
  refine ev_iconst d_Co_slotType_1 rfl ⟨by decide, by decide⟩ ?_
  refine ev_idiv (z := ((s / 4 : Nat) : Int)) d_Co_slotType_2 rfl (by decide) (y_div s hs) ?_
  refine ev_istore_n (i := 3) d_Co_slotType_3 rfl rfl (by decide) rfl ?_
  refine ev_iload_n (i := 2) d_Co_slotType_4 rfl rfl rfl ?_
  refine ev_iconst d_Co_slotType_5 rfl ⟨by decide, by decide⟩ ?_
  refine ev_irem (z := ((s % 4 : Nat) : Int)) d_Co_slotType_6 rfl (by decide) (y_rem s hs) ?_
  refine ev_istore (i := 4) d_Co_slotType_7 rfl (by decide) rfl ?_
  refine ev_iload (i := 4) d_Co_slotType_9 rfl rfl ?_
  refine ev_if_ne_f (tgt := 24) d_Co_slotType_11 (by decide) rfl (by omega) ?_
  refine ev_aload_n (i := 0) d_Co_slotType_14 rfl rfl rfl ?_
  refine ev_getR d_Co_slotType_15 rfl lk_Co_15 lx_27 rfl ?_
  refine ev_iload_n (i := 1) d_Co_slotType_18 rfl rfl rfl ?_
  refine ev_iload_n (i := 3) d_Co_slotType_19 rfl rfl rfl ?_
  refine ev_callV (As := [g_i (f : Int), g_i (((s / 4 : Nat) : Int))]) d_Co_slotType_20 rfl cl_Co_106 ((c_Sg_placeType_f (d + 0) M1 f (s / 4) hf6 (by omega)).eqr (b := (M 51 (3 * f + s / 4))) ((he 8 _ (by decide)).trans h51)) (g_hR (by decide)) g_h0 lx_5 rfl rfl (Nat.le_of_ble_eq_true rfl) rfl rfl ?_
  exact ev_retI d_Co_slotType_23 (by first | rfl | omega | simp_all) rfl (Or.inl rfl)
theorem c_Co_slotType_i (d : Nat) (M : g_M) (M1 : g_M) (f s q : Nat) (he : e29 M M1) (hs : s < 12) (hq : M1 29 (s / 4 * 4) = q) (hq8 : q < 8) (h48 : M 4 (3 * q + (s % 4 - 1)) = M 48 (3 * q + (s % 4 - 1))) (h4 : s % 4 ≠ 0) : Con y_Co_slotType w_Co_slotType (g_rm (d + 1)) LX M1 [g_r 27, g_i (f : Int), g_i (s : Int)] LX M1 (some (g_i (M 48 (3 * q + (s % 4 - 1))))) := by
  refine con_of (av := [g_r 27, g_i (f : Int), g_i (s : Int)]) (ls0 := [some (g_r 27), some (g_i (f : Int)), some (g_i (s : Int)), none, none, none]) (by decide) rfl (Nat.le_of_ble_eq_true rfl) (g_hls (av := [g_r 27, g_i (f : Int), g_i (s : Int)]) (k := 3)) (fun _ h9 => List.mem_cons_of_mem _ h9) ?_
  refine ev_iload_n (i := 2) d_Co_slotType_0 rfl rfl rfl ?_
  refine ev_iconst d_Co_slotType_1 rfl ⟨by decide, by decide⟩ ?_
  refine ev_idiv (z := ((s / 4 : Nat) : Int)) d_Co_slotType_2 rfl (by decide) (y_div s hs) ?_
  refine ev_istore_n (i := 3) d_Co_slotType_3 rfl rfl (by decide) rfl ?_
  refine ev_iload_n (i := 2) d_Co_slotType_4 rfl rfl rfl ?_
  refine ev_iconst d_Co_slotType_5 rfl ⟨by decide, by decide⟩ ?_
  refine ev_irem (z := ((s % 4 : Nat) : Int)) d_Co_slotType_6 rfl (by decide) (y_rem s hs) ?_
  refine ev_istore (i := 4) d_Co_slotType_7 rfl (by decide) rfl ?_
  refine ev_iload (i := 4) d_Co_slotType_9 rfl rfl ?_
  refine ev_if_ne_t (tgt := 24) d_Co_slotType_11 (by decide) (by omega) ?_
  refine ev_aload_n (i := 0) d_Co_slotType_24 rfl rfl rfl ?_
  refine ev_getR d_Co_slotType_25 rfl lk_Co_30 lx_27 rfl ?_
  refine ev_iload_n (i := 3) d_Co_slotType_28 rfl rfl rfl ?_
  refine ev_iconst d_Co_slotType_29 rfl ⟨by decide, by decide⟩ ?_
  refine ev_imul (z := ((s / 4 * 4 : Nat) : Int)) d_Co_slotType_30 rfl (by rw [g_w_id (by unfold g_rg; omega)]; omega) ?_
  refine ev_iaload (z := (q : Int)) d_Co_slotType_31 rfl lx_29 (by omega) (by omega) (by rw [Int.toNat_natCast]; exact hq) ?_
  refine ev_istore (i := 5) d_Co_slotType_32 rfl (by decide) rfl ?_
  refine ev_iload (i := 5) d_Co_slotType_34 rfl rfl ?_
  refine ev_iconst d_Co_slotType_36 rfl ⟨by decide, by decide⟩ ?_
  refine ev_icmp_ne_t (tgt := 44) d_Co_slotType_37 (by decide) (by omega) ?_
  refine ev_aload_n (i := 0) d_Co_slotType_44 rfl rfl rfl ?_
  refine ev_getR d_Co_slotType_45 rfl lk_Co_11 lx_27 rfl ?_
  refine ev_iload (i := 5) d_Co_slotType_48 rfl rfl ?_
  refine ev_iload (i := 4) d_Co_slotType_50 rfl rfl ?_
  refine ev_iconst d_Co_slotType_52 rfl ⟨by decide, by decide⟩ ?_
  refine ev_isub (z := ((s % 4 - 1 : Nat) : Int)) d_Co_slotType_53 rfl (by rw [g_w_id (by unfold g_rg; omega)]; omega) ?_
  refine ev_callV (As := [g_i ((q : Int)), g_i (((s % 4 - 1 : Nat) : Int))]) d_Co_slotType_54 rfl cl_Co_106 ((c_Sg_placeType_c (d + 0) M1 q (s % 4 - 1) hq8 (by omega)).eqr (b := (M 48 (3 * q + (s % 4 - 1)))) ((he 4 _ (by decide)).trans h48)) (g_hR (by decide)) g_h0 lx_1 rfl rfl (Nat.le_of_ble_eq_true rfl) rfl rfl ?_
  exact ev_retI d_Co_slotType_57 (by first | rfl | omega | simp_all) rfl (Or.inl rfl)
theorem c_Co_slotType (d : Nat) {M M1 : g_M} (hP : r_P M) (he : e29 M M1) {f s : Nat} (hs : s < 12) (hf : (f : Int) < M 45 4) (hy : y_s M f (M1 29) s) (hR : y_r M f (M1 29)) : Con y_Co_slotType w_Co_slotType (g_rm (d + 1)) LX M1 [g_r 27, g_i (f : Int), g_i (s : Int)] LX M1 (some (g_i (y_t M f (M1 29) s))) := by
  have hf6 := hP.2.1.2.2.2.1
  have hc8 := hP.1.2.2.2.1
  unfold y_t
  by_cases h4 : s % 4 = 0
  · rw [if_pos h4]
    exact c_Co_slotType_o d M M1 f s he hs (by omega) ((hP.2.1.2.2.2.2 f hf).2.2.2.2 _ hy.1).1 h4
  · rw [if_neg h4]
    obtain ⟨h1, h2⟩ := hy.2 h4
    have hlt : M1 29 (s / 4 * 4) < M 45 0 := by
      rcases hR (s / 4 * 4) (by omega) with h5 | ⟨-, h5⟩
      · rw [h5] at h1; exact absurd h1 (by decide)
      · exact h5.2.1
    obtain ⟨q, hq⟩ : ∃ q : Nat, M1 29 (s / 4 * 4) = q := ⟨(M1 29 (s / 4 * 4)).toNat, by omega⟩
    rw [hq, Int.toNat_natCast] at h2 ⊢
    exact c_Co_slotType_i d M M1 f s q he hs hq (by omega) ((hP.1.2.2.2.2 q (by omega)).2.2.2.2 _ h2).1 h4
theorem c_Co_isCoveredWhenSplit (d : Nat) (M : g_M) (Mc : g_M) (f k o lv m : Nat) (T : Int) (Q : Nat → Prop) (he : e29 M Mc) (hk : k < 12) (ho : o < 64) (hlv : lv < 12) (hm : M 1 4 = m) (hm8 : m ≤ 8) (hT : Con y_Co_slotType w_Co_slotType (g_rm (d + 1)) LX Mc [g_r 27, g_i (f : Int), g_i (k : Int)] LX Mc (some (g_i T))) (hq0 : ∀ q : Nat, q < m → M 2 q = T → ∃ n : Nat, (q : Int) = n ∧ n < m ∧ M 2 n = T) (ihc : ∀ z : Int, (∃ n : Nat, z = n ∧ n < m ∧ M 2 n = T) → ConR y_Co_isCovered w_Co_isCovered (g_rm (d + 1)) LX (g_up Mc 29 k z) [g_r 27, g_i (f : Int), g_i ((lv + 1 : Nat) : Int)] LX (fun M2 v2 => M2 = (g_up Mc 29 k z) ∧ ∃ r : Int, v2 = some (g_i r) ∧ (r = 0 ∨ r = 1) ∧ (r = 1 ↔ Q z.toNat))) : ConR y_Co_isCoveredWhenSplit w_Co_isCoveredWhenSplit (g_rm (d + 2)) LX Mc [g_r 27, g_i (f : Int), g_i (k : Int), g_i (o : Int), g_i (lv : Int)] LX (fun M2 v2 => (∃ z : Int, M2 = (g_up Mc 29 k z)) ∧ ∃ r : Int, v2 = some (g_i r) ∧ (r = 0 ∨ r = 1) ∧ ((∃ q : Nat, q < m ∧ M 2 q = T ∧ ¬ (∃ r : Nat, r < 6 ∧ (o : Nat).testBit r = true ∧ M 28 (12 * r + k) = (q : Int)) ∧ (r = 1 ↔ Q q)) ∨ ((∀ q : Nat, q < m → M 2 q = T → (∃ r : Nat, r < 6 ∧ (o : Nat).testBit r = true ∧ M 28 (12 * r + k) = (q : Int))) ∧ (r = 1 ↔ ∀ q : Nat, q < m → M 2 q = T → Q q)))) := by
  refine con_ofR (av := [g_r 27, g_i (f : Int), g_i (k : Int), g_i (o : Int), g_i (lv : Int)]) (ls0 := [some (g_r 27), some (g_i (f : Int)), some (g_i (k : Int)), some (g_i (o : Int)), some (g_i (lv : Int)), none, none, none]) (by decide) rfl (Nat.le_of_ble_eq_true rfl) (g_hls (av := [g_r 27, g_i (f : Int), g_i (k : Int), g_i (o : Int), g_i (lv : Int)]) (k := 3)) (fun _ h9 => List.mem_cons_of_mem _ h9) ?_
  refine ev_aload_n (i := 0) d_Co_isCoveredWhenSplit_0 rfl rfl rfl ?_
  refine ev_iload_n (i := 1) d_Co_isCoveredWhenSplit_1 rfl rfl rfl ?_
  refine ev_iload_n (i := 2) d_Co_isCoveredWhenSplit_2 rfl rfl rfl ?_
  refine ev_callV (As := [g_i (f : Int), g_i (k : Int)]) d_Co_isCoveredWhenSplit_3 rfl cl_Co_92 (hT) (g_hR (by decide)) g_h0 lx_27 rfl rfl (Nat.le_of_ble_eq_true rfl) rfl rfl ?_
  refine ev_istore (i := 5) d_Co_isCoveredWhenSplit_6 rfl (by decide) rfl ?_
  refine ev_aload_n (i := 0) d_Co_isCoveredWhenSplit_8 rfl rfl rfl ?_
  refine ev_iload_n (i := 2) d_Co_isCoveredWhenSplit_9 rfl rfl rfl ?_
  refine ev_iload_n (i := 3) d_Co_isCoveredWhenSplit_10 rfl rfl rfl ?_
  refine ev_iload (i := 5) d_Co_isCoveredWhenSplit_11 rfl rfl ?_
  refine ev_callVR (As := [g_i (k : Int), g_i (o : Int), g_i T]) d_Co_isCoveredWhenSplit_13 rfl cl_Co_95 (c_Co_constructorThatNoneNames (d + 0) Mc k o m T hk ho (by rw [he.fn (k := 1) (by decide)]; exact hm) hm8) (g_hR (by decide)) g_h0 lx_27 rfl rfl (Nat.le_of_ble_eq_true rfl) rfl rfl (fun M9 v9 g9 => ?_)
  obtain ⟨e9, x3, rfl, hx3⟩ := g9
  rw [e9]
  rw [he.fn (k := 2) (by decide), he.fn (k := 28) (by decide)] at hx3
  refine ev_istore (i := 6) d_Co_isCoveredWhenSplit_16 rfl (by decide) rfl ?_
  refine ev_iload (i := 6) d_Co_isCoveredWhenSplit_18 rfl rfl ?_
  refine ev_iconst d_Co_isCoveredWhenSplit_20 rfl ⟨by decide, by decide⟩ ?_
  refine ev_icmp_eq (tgt := 42) d_Co_isCoveredWhenSplit_21 (by decide) rfl (fun c0 => ?_) (fun c0 => ?_)
  · have hx5 := (hx3.resolve_right (fun ⟨q, h1, h2, _⟩ => by omega)).2
    refine ev_iconst d_Co_isCoveredWhenSplit_42 rfl ⟨by decide, by decide⟩ ?_
    refine ev_istore (i := 7) d_Co_isCoveredWhenSplit_43 rfl (by decide) rfl ?_
    refine ev_wh (fun n ls1 M1 => ∃ (c : Nat) (z : Int), c ≤ m ∧ n = m - c ∧ ls1 = [some (g_r 27), some (g_i (f : Int)), some (g_i (k : Int)), some (g_i (o : Int)), some (g_i (lv : Int)), some (g_i T), some (g_i x3), some (g_i (c : Int))] ∧ M1 = (g_up Mc 29 k z) ∧ ∀ q : Nat, q < c → M 2 q = T → Q q) ?_ (n := m) (⟨0, Mc 29 k, Nat.zero_le _, rfl, rfl, (g_up_id rfl).symm, fun q hq => by omega⟩)
    intro n ls1 M1 hP ih
    obtain ⟨c, z, hc, hn, rfl, rfl, hv⟩ := hP
    refine ev_iload (i := 7) d_Co_isCoveredWhenSplit_45 rfl rfl ?_
    refine ev_aload_n (i := 0) d_Co_isCoveredWhenSplit_47 rfl rfl rfl ?_
    refine ev_getR d_Co_isCoveredWhenSplit_48 rfl lk_Co_11 lx_27 rfl ?_
    refine ev_callV (As := []) d_Co_isCoveredWhenSplit_51 rfl cl_Co_33 ((c_Sg_howMany_c (d + 1) (g_up Mc 29 k z)).eqr (b := (m : Int)) (by rw [g_up_ne (by decide), he.fn (k := 1) (by decide)]; exact hm)) (g_hR (by decide)) g_h0 lx_1 rfl rfl (Nat.le_of_ble_eq_true rfl) rfl rfl ?_
    refine ev_icmp_ge (tgt := 102) d_Co_isCoveredWhenSplit_54 (by decide) rfl (fun hz => ?_) (fun hz => ?_)
    · refine ev_iconst d_Co_isCoveredWhenSplit_102 rfl ⟨by decide, by decide⟩ ?_
      exact ev_retIR d_Co_isCoveredWhenSplit_103 (⟨⟨_, rfl⟩, 1, rfl, Or.inr rfl, Or.inr ⟨hx5, fun _ q hq ht => hv q (by omega) ht, fun _ => rfl⟩⟩) (Or.inr ⟨rfl, by omega⟩)
    · refine ev_aload_n (i := 0) d_Co_isCoveredWhenSplit_57 rfl rfl rfl ?_
      refine ev_getR d_Co_isCoveredWhenSplit_58 rfl lk_Co_11 lx_27 rfl ?_
      refine ev_iload (i := 7) d_Co_isCoveredWhenSplit_61 rfl rfl ?_
      refine ev_callV (As := [g_i (c : Int)]) d_Co_isCoveredWhenSplit_63 rfl cl_Co_99 ((c_Sg_type_c (d + 1) (g_up Mc 29 k z) c (by omega)).eqr (b := (M 2 c)) (by rw [g_up_ne (by decide), he.fn (k := 2) (by decide)])) (g_hR (by decide)) g_h0 lx_1 rfl rfl (Nat.le_of_ble_eq_true rfl) rfl rfl ?_
      refine ev_iload (i := 5) d_Co_isCoveredWhenSplit_66 rfl rfl ?_
      refine ev_icmp_eq (tgt := 74) d_Co_isCoveredWhenSplit_68 (by decide) rfl (fun c1 => ?_) (fun c1 => ?_)
      · refine ev_aload_n (i := 0) d_Co_isCoveredWhenSplit_74 rfl rfl rfl ?_
        refine ev_getR d_Co_isCoveredWhenSplit_75 rfl lk_Co_30 lx_27 rfl ?_
        refine ev_iload_n (i := 2) d_Co_isCoveredWhenSplit_78 rfl rfl rfl ?_
        refine ev_iload (i := 7) d_Co_isCoveredWhenSplit_79 rfl rfl ?_
        refine ev_iastore d_Co_isCoveredWhenSplit_81 rfl lx_29 (by omega) (by omega) ?_
        rw [show Int.toNat ((k : Int)) = k by rfl]
        rw [g_up_up]
        refine ev_aload_n (i := 0) d_Co_isCoveredWhenSplit_82 rfl rfl rfl ?_
        refine ev_iload_n (i := 1) d_Co_isCoveredWhenSplit_83 rfl rfl rfl ?_
        refine ev_iload (i := 4) d_Co_isCoveredWhenSplit_84 rfl rfl ?_
        refine ev_iconst d_Co_isCoveredWhenSplit_86 rfl ⟨by decide, by decide⟩ ?_
        refine ev_iadd (z := ((lv + 1 : Nat) : Int)) d_Co_isCoveredWhenSplit_87 rfl (by rw [g_w_id (by unfold g_rg; omega)]; omega) ?_
        refine ev_callVR (As := [g_i (f : Int), g_i (((lv + 1 : Nat) : Int))]) d_Co_isCoveredWhenSplit_88 rfl cl_Co_43 (ihc (c : Int) (hq0 c (by omega) c1)) (g_hR (by decide)) g_h0 lx_27 rfl rfl (Nat.le_of_ble_eq_true rfl) rfl rfl (fun M9 v9 g9 => ?_)
        obtain ⟨e8, r9, rfl, hr9, hr8⟩ := g9
        rw [e8]
        refine ev_if_ne (tgt := 96) d_Co_isCoveredWhenSplit_91 (by decide) rfl (fun c2 => ?_) (fun c2 => ?_)
        · refine ev_iinc (z := (c : Int) + 1) d_Co_isCoveredWhenSplit_96 rfl rfl (by decide) (g_w_id (by unfold g_rg; omega)) rfl ?_
          refine ev_goto (tgt := 45) d_Co_isCoveredWhenSplit_99 (by decide) ?_
          refine ev_le (ih (m - (c + 1)) [some (g_r 27), some (g_i (f : Int)), some (g_i (k : Int)), some (g_i (o : Int)), some (g_i (lv : Int)), some (g_i T), some (g_i x3), some (g_i ((c + 1 : Nat) : Int))] _ (by omega) ⟨c + 1, (c : Int), by omega, rfl, rfl, rfl, fun q hq ht => ?_⟩) rfl ⟨rfl, rfl, rfl, rfl, rfl, rfl, rfl, rfl, trivial⟩
          by_cases hqc : q = c
          · subst hqc; exact hr8.mp (by omega)
          · exact hv q (by omega) ht
        · refine ev_iconst d_Co_isCoveredWhenSplit_94 rfl ⟨by decide, by decide⟩ ?_
          exact ev_retIR d_Co_isCoveredWhenSplit_95 (⟨⟨_, rfl⟩, 0, rfl, Or.inl rfl, Or.inr ⟨hx5, fun h9 => absurd h9 (by decide), fun h9 => absurd (hr8.mpr (h9 c (by omega) c1)) (by omega)⟩⟩) (Or.inr ⟨rfl, by omega⟩)
      · refine ev_goto (tgt := 96) d_Co_isCoveredWhenSplit_71 (by decide) ?_
        refine ev_iinc (z := (c : Int) + 1) d_Co_isCoveredWhenSplit_96 rfl rfl (by decide) (g_w_id (by unfold g_rg; omega)) rfl ?_
        refine ev_goto (tgt := 45) d_Co_isCoveredWhenSplit_99 (by decide) ?_
        refine ev_le (ih (m - (c + 1)) [some (g_r 27), some (g_i (f : Int)), some (g_i (k : Int)), some (g_i (o : Int)), some (g_i (lv : Int)), some (g_i T), some (g_i x3), some (g_i ((c + 1 : Nat) : Int))] _ (by omega) ⟨c + 1, z, by omega, rfl, rfl, rfl, fun q hq ht => ?_⟩) rfl ⟨rfl, rfl, rfl, rfl, rfl, rfl, rfl, rfl, trivial⟩
        by_cases hqc : q = c
        · subst hqc; exact absurd ht c1
        · exact hv q (by omega) ht
  · obtain ⟨q, hq1, rfl, hq3, hq4⟩ := hx3.resolve_left (fun h9 => c0 h9.1)
    refine ev_aload_n (i := 0) d_Co_isCoveredWhenSplit_24 rfl rfl rfl ?_
    refine ev_getR d_Co_isCoveredWhenSplit_25 rfl lk_Co_30 lx_27 rfl ?_
    refine ev_iload_n (i := 2) d_Co_isCoveredWhenSplit_28 rfl rfl rfl ?_
    refine ev_iload (i := 6) d_Co_isCoveredWhenSplit_29 rfl rfl ?_
    refine ev_iastore d_Co_isCoveredWhenSplit_31 rfl lx_29 (by omega) (by omega) ?_
    rw [show Int.toNat ((k : Int)) = k by rfl]
    refine ev_aload_n (i := 0) d_Co_isCoveredWhenSplit_32 rfl rfl rfl ?_
    refine ev_iload_n (i := 1) d_Co_isCoveredWhenSplit_33 rfl rfl rfl ?_
    refine ev_iload (i := 4) d_Co_isCoveredWhenSplit_34 rfl rfl ?_
    refine ev_iconst d_Co_isCoveredWhenSplit_36 rfl ⟨by decide, by decide⟩ ?_
    refine ev_iadd (z := ((lv + 1 : Nat) : Int)) d_Co_isCoveredWhenSplit_37 rfl (by rw [g_w_id (by unfold g_rg; omega)]; omega) ?_
    refine ev_callVR (As := [g_i (f : Int), g_i (((lv + 1 : Nat) : Int))]) d_Co_isCoveredWhenSplit_38 rfl cl_Co_43 (ihc (q : Int) (hq0 q hq1 hq3)) (g_hR (by decide)) g_h0 lx_27 rfl rfl (Nat.le_of_ble_eq_true rfl) rfl rfl (fun M9 v9 g9 => ?_)
    obtain ⟨e8, r9, rfl, hr9, hr8⟩ := g9
    rw [e8]
    exact ev_retIR d_Co_isCoveredWhenSplit_41 (⟨⟨_, rfl⟩, r9, rfl, hr9, Or.inl ⟨q, hq1, hq3, hq4, hr8⟩⟩) (Or.inr ⟨rfl, by omega⟩)
