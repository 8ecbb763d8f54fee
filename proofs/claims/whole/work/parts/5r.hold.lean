theorem u_sz_ls : ∀ l : List u_F, u_sz (u_ls l) = (l.map u_sz).sum
  | [] => rfl
  | a :: l => by rw [u_ls, u_sz, u_sz_ls l, List.map_cons, List.sum_cons]
theorem u_tr {H : List u_F} {w k : Nat} (hw : w ≤ H.length) (hk : k < w) : (H.take w).reverse[k]? = H[w - 1 - k]? := by
  rw [List.getElem?_reverse (by rw [List.length_take]; omega), List.length_take, show min w H.length - 1 - k = w - 1 - k by omega, List.getElem?_take, if_pos (by omega)]
theorem u_tk_s {A : List u_F} {k : Nat} {a : u_F} (h : A[k]? = some a) : ((A.take (k + 1)).map u_sz).sum = ((A.take k).map u_sz).sum + u_sz a := by
  have hl := (List.getElem?_eq_some_iff.mp h)
  rw [List.take_add_one, h, List.map_append, List.sum_append]
  simp
/-- what a run of the reference changes -/
def u_f (M M2 : g_M) : Prop := ∀ k b : Nat, k < 68 ∨ 74 < k → ¬ (k = 45 ∧ (b = 29 ∨ b = 33 ∨ b = 34 ∨ b = 35 ∨ b = 38)) → M2 k b = M k b
theorem u_f.rf (M : g_M) : u_f M M := fun _ _ _ _ => rfl
theorem u_f.tr {M M1 M2 : g_M} (h : u_f M M1) (h2 : u_f M1 M2) : u_f M M2 := fun k b h3 h4 => (h2 k b h3 h4).trans (h k b h3 h4)
theorem u_f.fn {M M1 : g_M} (h : u_f M M1) {k : Nat} (hk : k < 68 ∨ 74 < k) (h45 : k ≠ 45) : M1 k = M k := funext fun b => h k b hk (fun h9 => h45 h9.1)
theorem u_f.f0 {M M1 : g_M} (h : u_f M M1) : r_f0 M M1 := ⟨fun k hk => h.fn (by omega) (by omega), h 45 0 (by decide) (by decide), h 45 4 (by decide) (by decide), h 45 8 (by decide) (by decide), h 45 13 (by decide) (by decide)⟩
theorem c_Mo_doLater (d : Nat) (M : g_M) (t : Int) (fr n : Nat) (hn : M 45 35 = n) (hl : n < 3700) : Con y_Mo_doLater w_Mo_doLater (g_rm (d)) LX M [g_r 45, g_i t, g_i (fr : Int)] LX (g_up (g_up (g_up M 71 n t) 72 n (fr : Int)) 45 35 ((n : Int) + 1)) none := by
  refine con_of (av := [g_r 45, g_i t, g_i (fr : Int)]) (ls0 := [some (g_r 45), some (g_i t), some (g_i (fr : Int))]) (by decide) rfl (Nat.le_of_ble_eq_true rfl) (g_hls (av := [g_r 45, g_i t, g_i (fr : Int)]) (k := 0)) (fun _ h9 => List.mem_cons_of_mem _ h9) ?_
  refine ev_aload_n (i := 0) d_Mo_doLater_0 rfl rfl rfl ?_
  refine ev_getR d_Mo_doLater_1 rfl lk_Mo_86 lx_45 rfl ?_
  refine ev_aload_n (i := 0) d_Mo_doLater_4 rfl rfl rfl ?_
  refine ev_getI (z := (n : Int)) d_Mo_doLater_5 rfl lk_Mo_231 lx_45 rfl (hn) ?_
  refine ev_iload_n (i := 1) d_Mo_doLater_8 rfl rfl rfl ?_
  refine ev_iastore d_Mo_doLater_9 rfl lx_71 (by omega) (by omega) ?_
  rw [show Int.toNat (((n : Int))) = n by rfl]
  refine ev_aload_n (i := 0) d_Mo_doLater_10 rfl rfl rfl ?_
  refine ev_getR d_Mo_doLater_11 rfl lk_Mo_89 lx_45 rfl ?_
  refine ev_aload_n (i := 0) d_Mo_doLater_14 rfl rfl rfl ?_
  refine ev_getI (z := (n : Int)) d_Mo_doLater_15 rfl lk_Mo_231 lx_45 rfl (by rw [g_up_ne (by decide)]; exact hn) ?_
  refine ev_iload_n (i := 2) d_Mo_doLater_18 rfl rfl rfl ?_
  refine ev_iastore d_Mo_doLater_19 rfl lx_72 (by omega) (by omega) ?_
  rw [show Int.toNat (((n : Int))) = n by rfl]
  refine ev_aload_n (i := 0) d_Mo_doLater_20 rfl rfl rfl ?_
  refine ev_dup d_Mo_doLater_21 rfl rfl ?_
  refine ev_getI (z := (n : Int)) d_Mo_doLater_22 rfl lk_Mo_231 lx_45 rfl (by rw [g_up_ne (by decide), g_up_ne (by decide)]; exact hn) ?_
  refine ev_iconst d_Mo_doLater_25 rfl ⟨by decide, by decide⟩ ?_
  refine ev_iadd (z := ((n : Int)) + 1) d_Mo_doLater_26 rfl (g_w_id (by unfold g_rg; omega)) ?_
  refine ev_putI d_Mo_doLater_27 rfl lk_Mo_231 fp_Mo_35 (Or.inl rfl) lx_45 rfl ?_
  exact ev_retV d_Mo_doLater_30 rfl
/-- the memory behind hold tells the new value -/
theorem u_hold {M M1 M2 : g_M} {H : List u_F} {c w nv : Nat} (hH : u_hk M H) (hwl : w ≤ H.length) (hw3 : w ≤ 3) (hw47 : M 47 c = w) (hnv : M 45 29 = nv) (hf1 : ∀ q b : Nat, ¬ (q = 69 ∧ 3 * nv ≤ b) → M1 q b = M q b) (hj1 : ∀ j : Nat, j < w → M1 69 (3 * nv + j) = M 73 (H.length - w + j))
    (e : M2 = g_up (g_up (g_up (g_up (g_up (g_up M1 45 38 ((H.length : Int) - (w : Int))) 68 nv (c : Int)) 70 nv (((1 + (((H.take w).reverse.take w).map u_sz).sum : Nat) : Int))) 73 (H.length - w) (nv : Int)) 45 38 (((H.length - w : Nat) : Int) + 1)) 45 29 ((nv : Int) + 1)) :
    u_f M M2 ∧ M2 45 29 = (nv : Int) + 1 ∧ M2 45 33 = M 45 33 ∧ M2 45 34 = M 45 34 ∧ M2 45 35 = M 45 35 ∧ M2 71 = M 71 ∧ M2 72 = M 72 ∧ M2 74 = M 74 ∧ M2 70 nv = ((u_sz (.tag c (u_ls (H.take w).reverse)) : Nat) : Int) ∧ (∀ t x, u_rm M t x → u_rm M2 t x) ∧ u_hk M2 (.tag c (u_ls (H.take w).reverse) :: H.drop w) := by
  have hlA : (H.take w).reverse.length = w := by rw [List.length_reverse, List.length_take]; omega
  have hs : 1 + (((H.take w).reverse.take w).map u_sz).sum = u_sz (.tag c (u_ls (H.take w).reverse)) := by
    rw [List.take_of_length_le (by omega), u_sz, u_sz_ls]
  rw [hs] at e
  have e69 : M2 69 = M1 69 := by rw [e, g_up_ne (by decide), g_up_ne (by decide), g_up_ne (by decide), g_up_ne (by decide), g_up_ne (by decide), g_up_ne (by decide)]
  have e68 : ∀ x, M2 68 x = if x = nv then (c : Int) else M 68 x := fun x => by
    rw [e, g_up_ne (by decide), g_up_ne (by decide), g_up_ne (by decide), g_up_ne (by decide)]
    simp only [g_up, true_and]
    rw [if_neg (by omega : ¬ (68 = 45 ∧ x = 38)), hf1 68 x (by omega)]
  have e70 : ∀ x, M2 70 x = if x = nv then ((u_sz (.tag c (u_ls (H.take w).reverse)) : Nat) : Int) else M 70 x := fun x => by
    rw [e, g_up_ne (by decide), g_up_ne (by decide), g_up_ne (by decide)]
    simp only [g_up, true_and]
    rw [if_neg (by omega : ¬ (70 = 68 ∧ x = nv)), if_neg (by omega : ¬ (70 = 45 ∧ x = 38)), hf1 70 x (by omega)]
  have e73 : ∀ x, M2 73 x = if x = H.length - w then (nv : Int) else M 73 x := fun x => by
    rw [e, g_up_ne (by decide), g_up_ne (by decide)]
    simp only [g_up, true_and]
    rw [if_neg (by omega : ¬ (73 = 70 ∧ x = nv)), if_neg (by omega : ¬ (73 = 68 ∧ x = nv)), if_neg (by omega : ¬ (73 = 45 ∧ x = 38)), hf1 73 x (by omega)]
  have e45 : ∀ y, y ≠ 38 → y ≠ 29 → M2 45 y = M 45 y := fun y h1 h2 => by
    rw [e, g_up_nj h2, g_up_nj h1, g_up_ne (by decide), g_up_ne (by decide), g_up_ne (by decide), g_up_nj h1]
    exact hf1 45 y (by omega)
  have e29 : M2 45 29 = (nv : Int) + 1 := by rw [e, g_up_at]
  have eo : ∀ k, k ≠ 45 → k ≠ 68 → k ≠ 69 → k ≠ 70 → k ≠ 73 → M2 k = M k := fun k h1 h2 h3 h4 h5 => by
    rw [e, g_up_ne h1, g_up_ne h1, g_up_ne h5, g_up_ne h4, g_up_ne h2, g_up_ne h1]
    funext b
    exact hf1 k b (by omega)
  have hmo : ∀ t x, u_rm M t x → u_rm M2 t x := fun t x hx => u_rm_mo (by omega) (eo 47 (by decide) (by decide) (by decide) (by decide) (by decide)) (fun y hy => ⟨by rw [e68, if_neg (by omega)], by rw [e70, if_neg (by omega)], fun i hi => by rw [e69]; exact hf1 69 _ (by omega)⟩) hx
  refine ⟨fun k b h1 h2 => ?_, e29, e45 33 (by decide) (by decide), e45 34 (by decide) (by decide), e45 35 (by decide) (by decide), eo 71 (by decide) (by decide) (by decide) (by decide) (by decide), eo 72 (by decide) (by decide) (by decide) (by decide) (by decide), eo 74 (by decide) (by decide) (by decide) (by decide) (by decide), by rw [e70, if_pos rfl], hmo, ?_, fun i t hi => ?_⟩
  · by_cases hk : k = 45
    · subst hk
      exact e45 b (by omega) (by omega)
    · rw [eo k hk (by omega) (by omega) (by omega) (by omega)]
  · rw [e, g_up_nj (by decide), g_up_at, List.length_cons, List.length_drop]
    omega
  · match i with
    | 0 =>
      have et : .tag c (u_ls (H.take w).reverse) = t := by simpa using hi
      subst et
      refine ⟨nv, ?_, ?_⟩
      · rw [e73, List.length_cons, List.length_drop, if_pos (by omega)]
      · refine ⟨by show (nv : Int) < M2 45 29; omega, by rw [e68, if_pos rfl], by rw [e70, if_pos rfl]; rfl, u_rp_ls _ 0 (fun k a hk => ?_) (by omega) ?_⟩
        · have hkw : k < w := by have := (List.getElem?_eq_some_iff.mp hk).1; omega
          obtain ⟨x, a', h1, h2, h3⟩ := u_hk_at hH hwl hkw
          rw [u_tr hwl hkw, h1] at hk
          have ea : a' = a := by simpa using hk
          subst ea
          exact ⟨x, by show M2 69 (3 * nv + (0 + k)) = _; rw [e69, Nat.zero_add, hj1 k hkw, h2], hmo a' x h3⟩
        · rw [e68, if_pos rfl, Int.toNat_natCast, eo 47 (by decide) (by decide) (by decide) (by decide) (by decide), hw47, hlA, Nat.zero_add]
    | i + 1 =>
      have hi' : (H.drop w)[i]? = some t := by simpa using hi
      rw [List.getElem?_drop] at hi'
      have hl := (List.getElem?_eq_some_iff.mp hi').1
      obtain ⟨y, h1, h2⟩ := hH.2 (w + i) t hi'
      refine ⟨y, ?_, hmo t y h2⟩
      rw [e73, List.length_cons, List.length_drop, if_neg (by omega), show H.length - w + 1 - 1 - (i + 1) = H.length - 1 - (w + i) by omega]
      exact h1
theorem c_Mo_hold (d : Nat) (M : g_M) (H : List u_F) (c w nv : Nat) (hH : u_hk M H) (hc : c < 8) (hwl : w ≤ H.length) (hw3 : w ≤ 3) (hw47 : M 47 c = w) (hnv : M 45 29 = nv) (hnl : nv < 730) (hHl : H.length < 2500) (hsz : ∀ (i : Nat) (t : u_F), H[i]? = some t → u_sz t ≤ 60) : ConR y_Mo_hold w_Mo_hold (g_rm (d + 0)) LX M [g_r 45, g_i (c : Int)] LX (fun M2 v2 => v2 = none ∧ u_f M M2 ∧ M2 45 29 = (nv : Int) + 1 ∧ M2 45 33 = M 45 33 ∧ M2 45 34 = M 45 34 ∧ M2 45 35 = M 45 35 ∧ M2 71 = M 71 ∧ M2 72 = M 72 ∧ M2 74 = M 74 ∧ M2 70 nv = ((u_sz (.tag c (u_ls (H.take w).reverse)) : Nat) : Int) ∧ (∀ t x, u_rm M t x → u_rm M2 t x) ∧ u_hk M2 (.tag c (u_ls (H.take w).reverse) :: H.drop w)) := by
  refine con_ofR (av := [g_r 45, g_i (c : Int)]) (ls0 := [some (g_r 45), some (g_i (c : Int)), none, none, none, none]) (by decide) rfl (Nat.le_of_ble_eq_true rfl) (g_hls (av := [g_r 45, g_i (c : Int)]) (k := 4)) (fun _ h9 => List.mem_cons_of_mem _ h9) ?_
  have hsum : ∀ k, k ≤ w → (((H.take w).reverse.take k).map u_sz).sum ≤ 60 * k := by
    intro k
    induction k with
    | zero => intro _; simp
    | succ k ih =>
      intro hk
      obtain ⟨x, a, hA0, -, -⟩ := u_hk_at hH hwl (by omega : k < w)
      have hA : (H.take w).reverse[k]? = some a := by rw [u_tr hwl (by omega)]; exact hA0
      rw [u_tk_s hA]
      have h1 := hsz _ a hA0
      have h2 := ih (by omega)
      omega
  refine ev_aload_n (i := 0) d_Mo_hold_0 rfl rfl rfl ?_
  refine ev_getR d_Mo_hold_1 rfl lk_Mo_13 lx_45 rfl ?_
  refine ev_iload_n (i := 1) d_Mo_hold_4 rfl rfl rfl ?_
  refine ev_iaload (z := (w : Int)) d_Mo_hold_5 rfl lx_47 (by omega) (by omega) (hw47) ?_
  refine ev_istore_n (i := 2) d_Mo_hold_6 rfl rfl (by decide) rfl ?_
  refine ev_iconst d_Mo_hold_7 rfl ⟨by decide, by decide⟩ ?_
  refine ev_istore_n (i := 3) d_Mo_hold_8 rfl rfl (by decide) rfl ?_
  refine ev_iconst d_Mo_hold_9 rfl ⟨by decide, by decide⟩ ?_
  refine ev_istore (i := 4) d_Mo_hold_10 rfl (by decide) rfl ?_
  refine ev_wh (fun n ls1 M1 => ∃ k : Nat, k ≤ w ∧ n = w - k ∧ ls1 = [some (g_r 45), some (g_i (c : Int)), some (g_i (w : Int)), some (g_i ((1 + (((H.take w).reverse.take k).map u_sz).sum : Nat) : Int)), some (g_i (k : Int)), none] ∧ (∀ q b : Nat, ¬ (q = 69 ∧ 3 * nv ≤ b) → M1 q b = M q b) ∧ ∀ j : Nat, j < k → M1 69 (3 * nv + j) = M 73 (H.length - w + j)) ?_ (n := w) (⟨0, Nat.zero_le _, rfl, by simp, fun _ _ _ => rfl, fun j hj => by omega⟩)
  intro n ls1 M1 hP0 ih
  obtain ⟨k, hk, hn, rfl, hf1, hj1⟩ := hP0
  have hsl : (((H.take w).reverse.take k).map u_sz).sum ≤ 180 := by have := hsum k hk; omega
  refine ev_iload (i := 4) d_Mo_hold_12 rfl rfl ?_
  refine ev_iload_n (i := 2) d_Mo_hold_14 rfl rfl rfl ?_
  refine ev_icmp_ge (tgt := 66) d_Mo_hold_15 (by decide) rfl (fun hz => ?_) (fun hz => ?_)
  · refine ev_aload_n (i := 0) d_Mo_hold_66 rfl rfl rfl ?_
    refine ev_dup d_Mo_hold_67 rfl rfl ?_
    refine ev_getI (z := (H.length : Int)) d_Mo_hold_68 rfl lk_Mo_234 lx_45 rfl ((hf1 45 38 (by omega)).trans hH.1) ?_
    refine ev_iload_n (i := 2) d_Mo_hold_71 rfl rfl rfl ?_
    refine ev_isub (z := (H.length : Int) - (w : Int)) d_Mo_hold_72 rfl (g_w_id (by unfold g_rg; omega)) ?_
    refine ev_putI d_Mo_hold_73 rfl lk_Mo_234 fp_Mo_38 (Or.inl rfl) lx_45 rfl ?_
    refine ev_aload_n (i := 0) d_Mo_hold_76 rfl rfl rfl ?_
    refine ev_getR d_Mo_hold_77 rfl lk_Mo_77 lx_45 rfl ?_
    refine ev_aload_n (i := 0) d_Mo_hold_80 rfl rfl rfl ?_
    refine ev_getI (z := (nv : Int)) d_Mo_hold_81 rfl lk_Mo_237 lx_45 rfl (by rw [g_up_nj (by decide)]; exact (hf1 45 29 (by omega)).trans hnv) ?_
    refine ev_iload_n (i := 1) d_Mo_hold_84 rfl rfl rfl ?_
    refine ev_iastore d_Mo_hold_85 rfl lx_68 (by omega) (by omega) ?_
    rw [show Int.toNat (((nv : Int))) = nv by rfl]
    refine ev_aload_n (i := 0) d_Mo_hold_86 rfl rfl rfl ?_
    refine ev_getR d_Mo_hold_87 rfl lk_Mo_83 lx_45 rfl ?_
    refine ev_aload_n (i := 0) d_Mo_hold_90 rfl rfl rfl ?_
    refine ev_getI (z := (nv : Int)) d_Mo_hold_91 rfl lk_Mo_237 lx_45 rfl (by rw [g_up_ne (by decide), g_up_nj (by decide)]; exact (hf1 45 29 (by omega)).trans hnv) ?_
    refine ev_iload_n (i := 3) d_Mo_hold_94 rfl rfl rfl ?_
    refine ev_iastore d_Mo_hold_95 rfl lx_70 (by omega) (by omega) ?_
    rw [show Int.toNat (((nv : Int))) = nv by rfl]
    refine ev_aload_n (i := 0) d_Mo_hold_96 rfl rfl rfl ?_
    refine ev_getR d_Mo_hold_97 rfl lk_Mo_92 lx_45 rfl ?_
    refine ev_aload_n (i := 0) d_Mo_hold_100 rfl rfl rfl ?_
    refine ev_getI (z := ((H.length - w : Nat) : Int)) d_Mo_hold_101 rfl lk_Mo_234 lx_45 rfl (by rw [g_up_ne (by decide), g_up_ne (by decide), g_up_at]; omega) ?_
    refine ev_aload_n (i := 0) d_Mo_hold_104 rfl rfl rfl ?_
    refine ev_getI (z := (nv : Int)) d_Mo_hold_105 rfl lk_Mo_237 lx_45 rfl (by rw [g_up_ne (by decide), g_up_ne (by decide), g_up_nj (by decide)]; exact (hf1 45 29 (by omega)).trans hnv) ?_
    refine ev_iastore d_Mo_hold_108 rfl lx_73 (by omega) (by omega) ?_
    rw [show Int.toNat ((((H.length - w : Nat) : Int))) = (H.length - w) by rfl]
    refine ev_aload_n (i := 0) d_Mo_hold_109 rfl rfl rfl ?_
    refine ev_dup d_Mo_hold_110 rfl rfl ?_
    refine ev_getI (z := ((H.length - w : Nat) : Int)) d_Mo_hold_111 rfl lk_Mo_234 lx_45 rfl (by rw [g_up_ne (by decide), g_up_ne (by decide), g_up_ne (by decide), g_up_at]; omega) ?_
    refine ev_iconst d_Mo_hold_114 rfl ⟨by decide, by decide⟩ ?_
    refine ev_iadd (z := (((H.length - w : Nat) : Int)) + 1) d_Mo_hold_115 rfl (g_w_id (by unfold g_rg; omega)) ?_
    refine ev_putI d_Mo_hold_116 rfl lk_Mo_234 fp_Mo_38 (Or.inl rfl) lx_45 rfl ?_
    refine ev_aload_n (i := 0) d_Mo_hold_119 rfl rfl rfl ?_
    refine ev_dup d_Mo_hold_120 rfl rfl ?_
    refine ev_getI (z := (nv : Int)) d_Mo_hold_121 rfl lk_Mo_237 lx_45 rfl (by rw [g_up_nj (by decide), g_up_ne (by decide), g_up_ne (by decide), g_up_ne (by decide), g_up_nj (by decide)]; exact (hf1 45 29 (by omega)).trans hnv) ?_
    refine ev_iconst d_Mo_hold_124 rfl ⟨by decide, by decide⟩ ?_
    refine ev_iadd (z := ((nv : Int)) + 1) d_Mo_hold_125 rfl (g_w_id (by unfold g_rg; omega)) ?_
    refine ev_putI d_Mo_hold_126 rfl lk_Mo_237 fp_Mo_29 (Or.inl rfl) lx_45 rfl ?_
    exact ev_retVR d_Mo_hold_129 (by have e : k = w := (by omega); subst e; exact ⟨rfl, u_hold hH hwl hw3 hw47 hnv hf1 hj1 rfl⟩)
  · obtain ⟨x, a, hA0, hx1, hx2⟩ := u_hk_at hH hwl (by omega : k < w)
    have hA : (H.take w).reverse[k]? = some a := by rw [u_tr hwl (by omega)]; exact hA0
    obtain ⟨ca, la, ea, hxok, hxm, hxw, -⟩ := u_rp_nd hx2
    have hxn : (x : Int) < nv := by have : (x : Int) < M 45 29 := hxok; omega
    have hxsz : M 70 x = ((u_sz a : Nat) : Int) := by rw [ea]; exact hxw
    have hasz := hsz (w - 1 - k) a hA0
    refine ev_aload_n (i := 0) d_Mo_hold_18 rfl rfl rfl ?_
    refine ev_getR d_Mo_hold_19 rfl lk_Mo_92 lx_45 rfl ?_
    refine ev_aload_n (i := 0) d_Mo_hold_22 rfl rfl rfl ?_
    refine ev_getI (z := (H.length : Int)) d_Mo_hold_23 rfl lk_Mo_234 lx_45 rfl ((hf1 45 38 (by omega)).trans hH.1) ?_
    refine ev_iload_n (i := 2) d_Mo_hold_26 rfl rfl rfl ?_
    refine ev_isub (z := (H.length : Int) - (w : Int)) d_Mo_hold_27 rfl (g_w_id (by unfold g_rg; omega)) ?_
    refine ev_iload (i := 4) d_Mo_hold_28 rfl rfl ?_
    refine ev_iadd (z := ((H.length - w + k : Nat) : Int)) d_Mo_hold_30 rfl (by rw [g_w_id (by unfold g_rg; omega)]; omega) ?_
    refine ev_iaload (z := (x : Int)) d_Mo_hold_31 rfl lx_73 (by omega) (by omega) (by rw [Int.toNat_natCast]; exact (hf1 73 _ (by omega)).trans hx1) ?_
    refine ev_istore (i := 5) d_Mo_hold_32 rfl (by decide) rfl ?_
    refine ev_aload_n (i := 0) d_Mo_hold_34 rfl rfl rfl ?_
    refine ev_getR d_Mo_hold_35 rfl lk_Mo_80 lx_45 rfl ?_
    refine ev_iconst d_Mo_hold_38 rfl ⟨by decide, by decide⟩ ?_
    refine ev_aload_n (i := 0) d_Mo_hold_39 rfl rfl rfl ?_
    refine ev_getI (z := (nv : Int)) d_Mo_hold_40 rfl lk_Mo_237 lx_45 rfl ((hf1 45 29 (by omega)).trans hnv) ?_
    refine ev_imul (z := 3 * (nv : Int)) d_Mo_hold_43 rfl (g_w_id (by unfold g_rg; omega)) ?_
    refine ev_iload (i := 4) d_Mo_hold_44 rfl rfl ?_
    refine ev_iadd (z := ((3 * nv + k : Nat) : Int)) d_Mo_hold_46 rfl (by rw [g_w_id (by unfold g_rg; omega)]; omega) ?_
    refine ev_iload (i := 5) d_Mo_hold_47 rfl rfl ?_
    refine ev_iastore d_Mo_hold_49 rfl lx_69 (by omega) (by omega) ?_
    rw [show Int.toNat ((((3 * nv + k : Nat) : Int))) = (3 * nv + k) by rfl]
    refine ev_iload_n (i := 3) d_Mo_hold_50 rfl rfl rfl ?_
    refine ev_aload_n (i := 0) d_Mo_hold_51 rfl rfl rfl ?_
    refine ev_getR d_Mo_hold_52 rfl lk_Mo_83 lx_45 rfl ?_
    refine ev_iload (i := 5) d_Mo_hold_55 rfl rfl ?_
    refine ev_iaload (z := ((u_sz a : Nat) : Int)) d_Mo_hold_57 rfl lx_70 (by omega) (by omega) (by rw [g_up_ne (by decide), Int.toNat_natCast]; exact (hf1 70 _ (by omega)).trans hxsz) ?_
    refine ev_iadd (z := ((1 + (((H.take w).reverse.take k).map u_sz).sum + u_sz a : Nat) : Int)) d_Mo_hold_58 rfl (by rw [g_w_id (by unfold g_rg; omega)]; omega) ?_
    refine ev_istore_n (i := 3) d_Mo_hold_59 rfl rfl (by decide) rfl ?_
    refine ev_iinc (z := (k : Int) + 1) d_Mo_hold_60 rfl rfl (by decide) (g_w_id (by unfold g_rg; omega)) rfl ?_
    refine ev_goto (tgt := 12) d_Mo_hold_63 (by decide) ?_
    refine ev_le (ih (w - (k + 1)) [some (g_r 45), some (g_i (c : Int)), some (g_i (w : Int)), some (g_i ((1 + (((H.take w).reverse.take (k + 1)).map u_sz).sum : Nat) : Int)), some (g_i ((k + 1 : Nat) : Int)), none] _ (by omega) ⟨k + 1, by omega, rfl, rfl, fun q b hqb => ?_, fun j hj => ?_⟩) rfl ⟨rfl, rfl, rfl, congrArg (fun z => some (some (g_i z))) (by rw [u_tk_s hA]; omega), rfl, trivial⟩
    · simp only [g_up]; rw [if_neg (by omega)]; exact hf1 q b hqb
    · simp only [g_up, true_and]
      by_cases hjk : j = k
      · subst hjk; rw [if_pos rfl]; exact hx1.symm
      · rw [if_neg (by omega)]; exact hj1 j (by omega)
