/-! the class's values: terms below 100, what was made from 100 on -/
def u_km (M : g_M) (x : Nat) : Int := if x < 100 then M 11 x else M 36 (x - 100)
def u_kw (M : g_M) (x : Nat) : Int := if x < 100 then M 15 x else M 38 (x - 100)
def u_kp (M : g_M) (x i : Nat) : Int := if x < 100 then M 13 (3 * x + i) else M 37 (3 * (x - 100) + i)
def u_ko (M : g_M) (x : Nat) : Prop := x < 100 ∨ (100 ≤ x ∧ (x : Int) < M 35 5 + 100)
abbrev u_rk (M : g_M) : u_F → Nat → Prop := fun t x => u_rp (u_km M) (u_kw M) (u_kp M) (M 3) (u_ko M) t true x 0
/-- what a run of the class changes -/
def u_c (M M2 : g_M) : Prop := ∀ k b : Nat, k < 34 ∨ 44 < k → M2 k b = M k b
theorem u_c.rf (M : g_M) : u_c M M := fun _ _ _ => rfl
theorem u_c.tr {M M1 M2 : g_M} (h : u_c M M1) (h2 : u_c M1 M2) : u_c M M2 := fun k b h3 => (h2 k b h3).trans (h k b h3)
theorem u_c.fn {M M2 : g_M} (h : u_c M M2) {k : Nat} (hk : k < 34 ∨ 44 < k) : M2 k = M k := funext fun b => h k b hk
theorem u_c.f0 {M M2 : g_M} (h : u_c M M2) : r_f0 M M2 := ⟨fun k hk => h.fn (by omega), h 45 0 (by decide), h 45 4 (by decide), h 45 8 (by decide), h 45 13 (by decide)⟩
theorem u_c_up (M : g_M) {k : Nat} (hk : 34 ≤ k ∧ k ≤ 44) (n : Nat) (z : Int) : u_c M (g_up M k n z) := fun q b h => by
  simp only [g_up]
  rw [if_neg (by omega)]
theorem u_rk_x {M : g_M} {t : u_F} {x : Nat} (h : u_rk M t x) {bu : Nat} (hb : M 35 5 = bu) (h6 : bu ≤ 600) : x < 700 := by
  obtain ⟨c, l, -, hok, -⟩ := u_rp_nd h
  rcases hok with h9 | h9 <;> omega
/-- values stay when others are made -/
theorem u_rk_mo {M M2 : g_M} (h : ∀ k : Nat, k = 3 ∨ k = 11 ∨ k = 13 ∨ k = 15 → M2 k = M k) (h5 : M 35 5 ≤ M2 35 5) (h3 : ∀ y : Nat, (y : Int) < M 35 5 → M2 36 y = M 36 y ∧ M2 38 y = M 38 y ∧ ∀ i, i < 3 → M2 37 (3 * y + i) = M 37 (3 * y + i)) {t : u_F} {x : Nat} (hx : u_rk M t x) : u_rk M2 t x := by
  show u_rp _ _ _ (M2 3) _ t true x 0
  rw [h 3 (by decide)]
  refine u_rp_mo (fun x hx => ?_) t true x 0 (fun h9 => absurd h9 (by decide)) hx
  unfold u_km u_kw u_kp u_ko
  rw [h 11 (by decide), h 13 (by decide), h 15 (by decide)]
  by_cases h1 : x < 100
  · refine ⟨Or.inl h1, ?_, ?_, fun i _ => ?_⟩ <;> rw [if_pos h1, if_pos h1]
  · have h2 : ((x - 100 : Nat) : Int) < M 35 5 := by rcases hx with h9 | h9 <;> omega
    obtain ⟨a, b, c⟩ := h3 _ h2
    refine ⟨Or.inr ⟨by omega, by omega⟩, ?_, ?_, fun i hi => ?_⟩
    · rw [if_neg h1, if_neg h1]; exact a
    · rw [if_neg h1, if_neg h1]; exact b
    · rw [if_neg h1, if_neg h1]; exact c i hi
/-- the same values -/
theorem u_rk_cg {M M2 : g_M} (h : ∀ k : Nat, k = 3 ∨ k = 11 ∨ k = 13 ∨ k = 15 ∨ k = 36 ∨ k = 37 ∨ k = 38 → M2 k = M k) (h5 : M2 35 5 = M 35 5) {t : u_F} {x : Nat} (hx : u_rk M t x) : u_rk M2 t x :=
  u_rk_mo (fun k hk => h k (by omega)) (by rw [h5]; exact Int.le_refl _) (fun y _ => ⟨by rw [h 36 (by decide)], by rw [h 38 (by decide)], fun i _ => by rw [h 37 (by decide)]⟩) hx
/-- the values held -/
def u_hd (M : g_M) (H : List u_F) : Prop := ∀ (i : Nat) (t : u_F), H[i]? = some t → ∃ x : Nat, M 42 (H.length - 1 - i) = x ∧ u_rk M t x
theorem u_hd_at {M : g_M} {H : List u_F} (h : u_hd M H) {w k : Nat} (hw : w ≤ H.length) (hk : k < w) : ∃ (x : Nat) (t : u_F), H[w - 1 - k]? = some t ∧ M 42 (H.length - w + k) = x ∧ u_rk M t x := by
  obtain ⟨t, ht⟩ : ∃ t, H[w - 1 - k]? = some t := ⟨_, List.getElem?_eq_getElem (by omega)⟩
  obtain ⟨x, h1, h2⟩ := h _ t ht
  exact ⟨x, t, ht, by rw [show H.length - w + k = H.length - 1 - (w - 1 - k) by omega]; exact h1, h2⟩
theorem u_hd_drop {M : g_M} {H : List u_F} (h : u_hd M H) (n : Nat) : u_hd M (H.drop n) := by
  intro i t hi
  rw [List.getElem?_drop] at hi
  have hl := (List.getElem?_eq_some_iff.mp hi).1
  obtain ⟨y, h1, h2⟩ := h (n + i) t hi
  refine ⟨y, ?_, h2⟩
  rw [List.length_drop, show H.length - n - 1 - i = H.length - 1 - (n + i) by omega]
  exact h1
theorem u_hd_cg {M M2 : g_M} {H : List u_F} (hr : ∀ t x, u_rk M t x → u_rk M2 t x) (h42 : ∀ i, i < H.length → M2 42 i = M 42 i) (h : u_hd M H) : u_hd M2 H := by
  intro i t hi
  have hl := (List.getElem?_eq_some_iff.mp hi).1
  obtain ⟨x, h1, h2⟩ := h i t hi
  exact ⟨x, by rw [h42 _ (by omega)]; exact h1, hr t x h2⟩
theorem u_hd_push {M M2 : g_M} {H : List u_F} {t : u_F} {x : Nat} (hr : ∀ t x, u_rk M t x → u_rk M2 t x) (h42 : ∀ i, i < H.length → M2 42 i = M 42 i) (hx : M2 42 H.length = x) (ht : u_rk M2 t x) (h : u_hd M H) : u_hd M2 (t :: H) := by
  intro i t' hi
  match i with
  | 0 =>
    have e : t = t' := by simpa using hi
    subst e
    exact ⟨x, by rw [List.length_cons, show H.length + 1 - 1 - 0 = H.length by omega]; exact hx, ht⟩
  | i + 1 =>
    have hi' : H[i]? = some t' := by simpa using hi
    have hl := (List.getElem?_eq_some_iff.mp hi').1
    obtain ⟨y, h1, h2⟩ := h i t' hi'
    refine ⟨y, ?_, hr t' y h2⟩
    rw [List.length_cons, show H.length + 1 - 1 - (i + 1) = H.length - 1 - i by omega, h42 _ (by omega)]
    exact h1
/-- the memory behind a value that was made -/
theorem u_add {M M1 M2 : g_M} {H : List u_F} {c w bu : Nat} (hH : u_hd M H) (hwl : w ≤ H.length) (hw3 : w ≤ 3) (hw : M 3 c = w) (hbu : M 35 5 = bu) (hf : ∀ q b : Nat, ¬ (q = 36 ∧ b = bu) → ¬ (q = 37 ∧ 3 * bu ≤ b) → ¬ (q = 38 ∧ b = bu) → M1 q b = M q b) (h36 : M1 36 bu = c) (h38 : M1 38 bu = ((1 + (((H.take w).reverse.take w).map u_sz).sum : Nat) : Int)) (h37 : ∀ j, j < w → M1 37 (3 * bu + j) = M 42 (H.length - w + j))
    (e : M2 = g_up M1 35 5 ((bu : Int) + 1)) : (∀ q b : Nat, q ≠ 36 → q ≠ 37 → q ≠ 38 → ¬ (q = 35 ∧ b = 5) → M2 q b = M q b) ∧ M2 35 5 = (bu : Int) + 1 ∧ (∀ t x, u_rk M t x → u_rk M2 t x) ∧ u_rk M2 (.tag c (u_ls (H.take w).reverse)) (100 + bu) ∧ u_kw M2 (100 + bu) = (u_sz (.tag c (u_ls (H.take w).reverse)) : Nat) := by
  have hlA : (H.take w).reverse.length = w := by rw [List.length_reverse, List.length_take]; omega
  have hs : 1 + (((H.take w).reverse.take w).map u_sz).sum = u_sz (.tag c (u_ls (H.take w).reverse)) := by
    rw [List.take_of_length_le (by omega), u_sz, u_sz_ls]
  rw [hs] at h38
  have e2 : ∀ q b : Nat, ¬ (q = 35 ∧ b = 5) → M2 q b = M1 q b := fun q b h => by
    rw [e]
    simp only [g_up]
    rw [if_neg h]
  have e5 : M2 35 5 = (bu : Int) + 1 := by rw [e, g_up_at]
  have eo : ∀ q b : Nat, q ≠ 36 → q ≠ 37 → q ≠ 38 → ¬ (q = 35 ∧ b = 5) → M2 q b = M q b := fun q b h1 h2 h3 h4 => by rw [e2 q b h4, hf q b (by omega) (by omega) (by omega)]
  have hmo : ∀ t x, u_rk M t x → u_rk M2 t x := fun t x hx => u_rk_mo (fun k hk => funext fun b => eo k b (by omega) (by omega) (by omega) (by omega)) (by omega) (fun y hy => ⟨by rw [e2 36 y (by omega), hf 36 y (by omega) (by omega) (by omega)], by rw [e2 38 y (by omega), hf 38 y (by omega) (by omega) (by omega)], fun i hi => by rw [e2 37 _ (by omega), hf 37 _ (by omega) (by omega) (by omega)]⟩) hx
  have k1 : u_km M2 (100 + bu) = c := by unfold u_km; rw [if_neg (by omega), show 100 + bu - 100 = bu by omega, e2 36 bu (by omega), h36]
  have k2 : u_kw M2 (100 + bu) = (u_sz (.tag c (u_ls (H.take w).reverse)) : Nat) := by unfold u_kw; rw [if_neg (by omega), show 100 + bu - 100 = bu by omega, e2 38 bu (by omega), h38]
  refine ⟨eo, e5, hmo, ⟨Or.inr ⟨by omega, by omega⟩, k1, by rw [k2]; rfl, u_rp_ls _ 0 (fun k a hk => ?_) (by omega) ?_⟩, k2⟩
  · have hkw : k < w := by have := (List.getElem?_eq_some_iff.mp hk).1; omega
    obtain ⟨x, a', g1, g2, g3⟩ := u_hd_at hH hwl hkw
    rw [u_tr hwl hkw, g1] at hk
    have ea : a' = a := by simpa using hk
    subst ea
    refine ⟨x, ?_, hmo a' x g3⟩
    unfold u_kp
    rw [if_neg (by omega), show 100 + bu - 100 = bu by omega, Nat.zero_add, e2 37 _ (by omega), h37 k hkw, g2]
  · rw [k1, Int.toNat_natCast, eo 3 c (by decide) (by decide) (by decide) (by omega), hw, hlA, Nat.zero_add]
theorem c_Va_forgetMade (d : Nat) (M : g_M)   : Con y_Va_forgetMade w_Va_forgetMade (g_rm (d)) LX M [g_r 35] LX (g_up M 35 5 0) none := by
  refine con_of (av := [g_r 35]) (ls0 := [some (g_r 35)]) (by decide) rfl (Nat.le_of_ble_eq_true rfl) (g_hls (av := [g_r 35]) (k := 0)) (fun _ h9 => List.mem_cons_of_mem _ h9) ?_
  refine ev_aload_n (i := 0) d_Va_forgetMade_0 rfl rfl rfl ?_
  refine ev_iconst d_Va_forgetMade_1 rfl ⟨by decide, by decide⟩ ?_
  refine ev_putI d_Va_forgetMade_2 rfl lk_Va_29 fp_Va_5 (Or.inl rfl) lx_35 rfl ?_
  exact ev_retV d_Va_forgetMade_5 rfl
theorem c_Va_isFull (d : Nat) (M : g_M) (bu : Nat) (hbu : M 35 5 = bu) : Con y_Va_isFull w_Va_isFull (g_rm (d)) LX M [g_r 35] LX M (some (g_i (if 600 ≤ (bu : Int) then 1 else 0))) := by
  refine con_of (av := [g_r 35]) (ls0 := [some (g_r 35)]) (by decide) rfl (Nat.le_of_ble_eq_true rfl) (g_hls (av := [g_r 35]) (k := 0)) (fun _ h9 => List.mem_cons_of_mem _ h9) ?_
  refine ev_aload_n (i := 0) d_Va_isFull_0 rfl rfl rfl ?_
  refine ev_getI (z := (bu : Int)) d_Va_isFull_1 rfl lk_Va_29 lx_35 rfl (hbu) ?_
  refine ev_sipush d_Va_isFull_4 rfl (by decide +kernel) ⟨by decide, by decide⟩ ?_
  refine ev_icmp_lt (tgt := 14) d_Va_isFull_7 (by decide) rfl (fun h7 => ?_) (fun h7 => ?_)
  · refine ev_iconst d_Va_isFull_14 rfl ⟨by decide, by decide⟩ ?_
    exact ev_retI d_Va_isFull_15 ((if_neg (by omega)).symm) rfl (Or.inr ⟨rfl, by omega⟩)
  · refine ev_iconst d_Va_isFull_10 rfl ⟨by decide, by decide⟩ ?_
    refine ev_goto (tgt := 15) d_Va_isFull_11 (by decide) ?_
    exact ev_retI d_Va_isFull_15 ((if_pos (by omega)).symm) rfl (Or.inr ⟨rfl, by omega⟩)
theorem c_Va_maker (d : Nat) (M : g_M) (x : Nat) (hx : x < 700) : Con y_Va_maker w_Va_maker (g_rm (d + 1)) LX M [g_r 35, g_i (x : Int)] LX M (some (g_i (u_km M x))) := by
  refine con_of (av := [g_r 35, g_i (x : Int)]) (ls0 := [some (g_r 35), some (g_i (x : Int))]) (by decide) rfl (Nat.le_of_ble_eq_true rfl) (g_hls (av := [g_r 35, g_i (x : Int)]) (k := 0)) (fun _ h9 => List.mem_cons_of_mem _ h9) ?_
  refine ev_iload_n (i := 1) d_Va_maker_0 rfl rfl rfl ?_
  refine ev_bipush d_Va_maker_1 rfl (by decide +kernel) ⟨by decide, by decide⟩ ?_
  refine ev_icmp_ge (tgt := 17) d_Va_maker_3 (by decide) rfl (fun h3 => ?_) (fun h3 => ?_)
  · refine ev_aload_n (i := 0) d_Va_maker_17 rfl rfl rfl ?_
    refine ev_getR d_Va_maker_18 rfl lk_Va_19 lx_35 rfl ?_
    refine ev_iload_n (i := 1) d_Va_maker_21 rfl rfl rfl ?_
    refine ev_bipush d_Va_maker_22 rfl (by decide +kernel) ⟨by decide, by decide⟩ ?_
    refine ev_isub (z := ((x - 100 : Nat) : Int)) d_Va_maker_24 rfl (by rw [g_w_id (by unfold g_rg; omega)]; omega) ?_
    refine ev_iaload (z := M 36 (x - 100)) d_Va_maker_25 rfl lx_36 (by omega) (by omega) (rfl) ?_
    exact ev_retI d_Va_maker_26 (by unfold u_km; rw [if_neg (by omega)]) rfl (Or.inl rfl)
  · refine ev_aload_n (i := 0) d_Va_maker_6 rfl rfl rfl ?_
    refine ev_getR d_Va_maker_7 rfl lk_Va_15 lx_35 rfl ?_
    refine ev_iload_n (i := 1) d_Va_maker_10 rfl rfl rfl ?_
    refine ev_callV (As := [g_i (x : Int)]) d_Va_maker_11 rfl cl_Va_33 ((c_Te_head (d + 0) M x (by omega))) (g_hR (by decide)) g_h0 lx_9 rfl rfl (Nat.le_of_ble_eq_true rfl) rfl rfl ?_
    refine ev_goto (tgt := 26) d_Va_maker_14 (by decide) ?_
    exact ev_retI d_Va_maker_26 (by unfold u_km; rw [if_pos (by omega)]) rfl (Or.inl rfl)
theorem c_Va_part (d : Nat) (M : g_M) (x i : Nat) (hx : x < 700) (hi : i < 3) : Con y_Va_part w_Va_part (g_rm (d + 1)) LX M [g_r 35, g_i (x : Int), g_i (i : Int)] LX M (some (g_i (u_kp M x i))) := by
  refine con_of (av := [g_r 35, g_i (x : Int), g_i (i : Int)]) (ls0 := [some (g_r 35), some (g_i (x : Int)), some (g_i (i : Int))]) (by decide) rfl (Nat.le_of_ble_eq_true rfl) (g_hls (av := [g_r 35, g_i (x : Int), g_i (i : Int)]) (k := 0)) (fun _ h9 => List.mem_cons_of_mem _ h9) ?_
  refine ev_iload_n (i := 1) d_Va_part_0 rfl rfl rfl ?_
  refine ev_bipush d_Va_part_1 rfl (by decide +kernel) ⟨by decide, by decide⟩ ?_
  refine ev_icmp_ge (tgt := 18) d_Va_part_3 (by decide) rfl (fun h3 => ?_) (fun h3 => ?_)
  · refine ev_aload_n (i := 0) d_Va_part_18 rfl rfl rfl ?_
    refine ev_getR d_Va_part_19 rfl lk_Va_23 lx_35 rfl ?_
    refine ev_iload_n (i := 1) d_Va_part_22 rfl rfl rfl ?_
    refine ev_bipush d_Va_part_23 rfl (by decide +kernel) ⟨by decide, by decide⟩ ?_
    refine ev_isub (z := ((x - 100 : Nat) : Int)) d_Va_part_25 rfl (by rw [g_w_id (by unfold g_rg; omega)]; omega) ?_
    refine ev_iconst d_Va_part_26 rfl ⟨by decide, by decide⟩ ?_
    refine ev_imul (z := ((x - 100 : Nat) : Int) * 3) d_Va_part_27 rfl (g_w_id (by unfold g_rg; omega)) ?_
    refine ev_iload_n (i := 2) d_Va_part_28 rfl rfl rfl ?_
    refine ev_iadd (z := ((3 * (x - 100) + i : Nat) : Int)) d_Va_part_29 rfl (by rw [g_w_id (by unfold g_rg; omega)]; omega) ?_
    refine ev_iaload (z := M 37 (3 * (x - 100) + i)) d_Va_part_30 rfl lx_37 (by omega) (by omega) (rfl) ?_
    exact ev_retI d_Va_part_31 (by unfold u_kp; rw [if_neg (by omega)]) rfl (Or.inl rfl)
  · refine ev_aload_n (i := 0) d_Va_part_6 rfl rfl rfl ?_
    refine ev_getR d_Va_part_7 rfl lk_Va_15 lx_35 rfl ?_
    refine ev_iload_n (i := 1) d_Va_part_10 rfl rfl rfl ?_
    refine ev_iload_n (i := 2) d_Va_part_11 rfl rfl rfl ?_
    refine ev_callV (As := [g_i (x : Int), g_i (i : Int)]) d_Va_part_12 rfl cl_Va_46 ((c_Te_part (d + 0) M x i (by omega) hi)) (g_hR (by decide)) g_h0 lx_9 rfl rfl (Nat.le_of_ble_eq_true rfl) rfl rfl ?_
    refine ev_goto (tgt := 31) d_Va_part_15 (by decide) ?_
    exact ev_retI d_Va_part_31 (by unfold u_kp; rw [if_pos (by omega)]) rfl (Or.inl rfl)
theorem c_Va_size (d : Nat) (M : g_M) (x : Nat) (hx : x < 700) : Con y_Va_size w_Va_size (g_rm (d + 1)) LX M [g_r 35, g_i (x : Int)] LX M (some (g_i (u_kw M x))) := by
  refine con_of (av := [g_r 35, g_i (x : Int)]) (ls0 := [some (g_r 35), some (g_i (x : Int))]) (by decide) rfl (Nat.le_of_ble_eq_true rfl) (g_hls (av := [g_r 35, g_i (x : Int)]) (k := 0)) (fun _ h9 => List.mem_cons_of_mem _ h9) ?_
  refine ev_iload_n (i := 1) d_Va_size_0 rfl rfl rfl ?_
  refine ev_bipush d_Va_size_1 rfl (by decide +kernel) ⟨by decide, by decide⟩ ?_
  refine ev_icmp_ge (tgt := 17) d_Va_size_3 (by decide) rfl (fun h3 => ?_) (fun h3 => ?_)
  · refine ev_aload_n (i := 0) d_Va_size_17 rfl rfl rfl ?_
    refine ev_getR d_Va_size_18 rfl lk_Va_26 lx_35 rfl ?_
    refine ev_iload_n (i := 1) d_Va_size_21 rfl rfl rfl ?_
    refine ev_bipush d_Va_size_22 rfl (by decide +kernel) ⟨by decide, by decide⟩ ?_
    refine ev_isub (z := ((x - 100 : Nat) : Int)) d_Va_size_24 rfl (by rw [g_w_id (by unfold g_rg; omega)]; omega) ?_
    refine ev_iaload (z := M 38 (x - 100)) d_Va_size_25 rfl lx_38 (by omega) (by omega) (rfl) ?_
    exact ev_retI d_Va_size_26 (by unfold u_kw; rw [if_neg (by omega)]) rfl (Or.inl rfl)
  · refine ev_aload_n (i := 0) d_Va_size_6 rfl rfl rfl ?_
    refine ev_getR d_Va_size_7 rfl lk_Va_15 lx_35 rfl ?_
    refine ev_iload_n (i := 1) d_Va_size_10 rfl rfl rfl ?_
    refine ev_callV (As := [g_i (x : Int)]) d_Va_size_11 rfl cl_Va_49 ((c_Te_size (d + 0) M x (by omega))) (g_hR (by decide)) g_h0 lx_9 rfl rfl (Nat.le_of_ble_eq_true rfl) rfl rfl ?_
    refine ev_goto (tgt := 26) d_Va_size_14 (by decide) ?_
    exact ev_retI d_Va_size_26 (by unfold u_kw; rw [if_pos (by omega)]) rfl (Or.inl rfl)
theorem c_Va_width (d : Nat) (M : g_M) (x c w : Nat) (hx : x < 700) (hc : u_km M x = c) (hc8 : c < 8) (hw : M 3 c = w) : Con y_Va_width w_Va_width (g_rm (d + 2)) LX M [g_r 35, g_i (x : Int)] LX M (some (g_i (w : Int))) := by
  refine con_of (av := [g_r 35, g_i (x : Int)]) (ls0 := [some (g_r 35), some (g_i (x : Int))]) (by decide) rfl (Nat.le_of_ble_eq_true rfl) (g_hls (av := [g_r 35, g_i (x : Int)]) (k := 0)) (fun _ h9 => List.mem_cons_of_mem _ h9) ?_
  refine ev_aload_n (i := 0) d_Va_width_0 rfl rfl rfl ?_
  refine ev_getR d_Va_width_1 rfl lk_Va_9 lx_35 rfl ?_
  refine ev_aload_n (i := 0) d_Va_width_4 rfl rfl rfl ?_
  refine ev_iload_n (i := 1) d_Va_width_5 rfl rfl rfl ?_
  refine ev_callV (As := [g_i (x : Int)]) d_Va_width_6 rfl cl_Va_39 ((c_Va_maker (d + 0) M x hx).eqr (b := (c : Int)) (hc)) (g_hR (by decide)) g_h0 lx_35 rfl rfl (Nat.le_of_ble_eq_true rfl) rfl rfl ?_
  refine ev_callV (As := [g_i (c : Int)]) d_Va_width_9 rfl cl_Va_41 ((c_Sg_width_c_w (d + 1) M c w hc8 hw)) (g_hR (by decide)) g_h0 lx_1 rfl rfl (Nat.le_of_ble_eq_true rfl) rfl rfl ?_
  exact ev_retI d_Va_width_12 (by first | rfl | omega | simp_all) rfl (Or.inl rfl)
theorem c_Va_add (d : Nat) (M : g_M) (H : List u_F) (c w bu : Nat) (hH : u_hd M H) (hc8 : c < 8) (hwl : w ≤ H.length) (hHl : H.length ≤ 2005) (hw3 : w ≤ 3) (hw : M 3 c = w) (hbu : M 35 5 = bu) (hb6 : bu < 600) (hsz : ∀ (i : Nat) (t : u_F), H[i]? = some t → u_sz t ≤ 60) : ConR y_Va_add w_Va_add (g_rm (d + 3)) LX M [g_r 35, g_i (c : Int), g_r 42, g_i ((H.length - w : Nat) : Int)] LX (fun M2 v2 => v2 = some (g_i ((100 + bu : Nat) : Int)) ∧ (∀ q b : Nat, q ≠ 36 → q ≠ 37 → q ≠ 38 → ¬ (q = 35 ∧ b = 5) → M2 q b = M q b) ∧ M2 35 5 = (bu : Int) + 1 ∧ (∀ t x, u_rk M t x → u_rk M2 t x) ∧ u_rk M2 (.tag c (u_ls (H.take w).reverse)) (100 + bu) ∧ u_kw M2 (100 + bu) = (u_sz (.tag c (u_ls (H.take w).reverse)) : Nat)) := by
  refine con_ofR (av := [g_r 35, g_i (c : Int), g_r 42, g_i ((H.length - w : Nat) : Int)]) (ls0 := [some (g_r 35), some (g_i (c : Int)), some (g_r 42), some (g_i ((H.length - w : Nat) : Int)), none]) (by decide) rfl (Nat.le_of_ble_eq_true rfl) (g_hls (av := [g_r 35, g_i (c : Int), g_r 42, g_i ((H.length - w : Nat) : Int)]) (k := 1)) (fun _ h9 => List.mem_cons_of_mem _ h9) ?_
  have hsm : ∀ k, k ≤ w → (((H.take w).reverse.take k).map u_sz).sum ≤ 60 * k := by
    intro k
    induction k with
    | zero => intro _; simp
    | succ k ih =>
      intro hk
      obtain ⟨x, a, hA0, -, -⟩ := u_hd_at hH hwl (by omega : k < w)
      have hA : (H.take w).reverse[k]? = some a := by rw [u_tr hwl (by omega)]; exact hA0
      rw [u_tk_s hA]
      have h1 := hsz _ a hA0
      have h2 := ih (by omega)
      omega
  refine ev_aload_n (i := 0) d_Va_add_0 rfl rfl rfl ?_
  refine ev_getR d_Va_add_1 rfl lk_Va_19 lx_35 rfl ?_
  refine ev_aload_n (i := 0) d_Va_add_4 rfl rfl rfl ?_
  refine ev_getI (z := (bu : Int)) d_Va_add_5 rfl lk_Va_29 lx_35 rfl (hbu) ?_
  refine ev_iload_n (i := 1) d_Va_add_8 rfl rfl rfl ?_
  refine ev_iastore d_Va_add_9 rfl lx_36 (by omega) (by omega) ?_
  rw [show Int.toNat (((bu : Int))) = bu by rfl]
  refine ev_aload_n (i := 0) d_Va_add_10 rfl rfl rfl ?_
  refine ev_getR d_Va_add_11 rfl lk_Va_26 lx_35 rfl ?_
  refine ev_aload_n (i := 0) d_Va_add_14 rfl rfl rfl ?_
  refine ev_getI (z := (bu : Int)) d_Va_add_15 rfl lk_Va_29 lx_35 rfl (by rw [g_up_ne (by decide)]; exact hbu) ?_
  refine ev_iconst d_Va_add_18 rfl ⟨by decide, by decide⟩ ?_
  refine ev_iastore d_Va_add_19 rfl lx_38 (by omega) (by omega) ?_
  rw [show Int.toNat (((bu : Int))) = bu by rfl]
  refine ev_iconst d_Va_add_20 rfl ⟨by decide, by decide⟩ ?_
  refine ev_istore (i := 4) d_Va_add_21 rfl (by decide) rfl ?_
  refine ev_wh (fun n ls1 M1 => ∃ i : Nat, i ≤ w ∧ n = w - i ∧ ls1 = [some (g_r 35), some (g_i (c : Int)), some (g_r 42), some (g_i ((H.length - w : Nat) : Int)), some (g_i (i : Int))] ∧ (∀ q b : Nat, ¬ (q = 36 ∧ b = bu) → ¬ (q = 37 ∧ 3 * bu ≤ b) → ¬ (q = 38 ∧ b = bu) → M1 q b = M q b) ∧ M1 36 bu = c ∧ M1 38 bu = ((1 + (((H.take w).reverse.take i).map u_sz).sum : Nat) : Int) ∧ ∀ j : Nat, j < i → M1 37 (3 * bu + j) = M 42 (H.length - w + j)) ?_ (n := w) (⟨0, Nat.zero_le _, rfl, rfl, fun q b h1 h2 h3 => by (simp only [g_up]; rw [if_neg (by omega), if_neg (by omega)]), by rw [g_up_ne (by decide), g_up_at], by rw [g_up_at]; simp, fun j hj => by omega⟩)
  intro n ls1 M1 hP0 ih
  obtain ⟨i, hi, hn, rfl, hf1, h36, h38, h37⟩ := hP0
  have hb5 : M1 35 5 = bu := (hf1 35 5 (by omega) (by omega) (by omega)).trans hbu
  have hsl : (((H.take w).reverse.take i).map u_sz).sum ≤ 180 := by have := hsm i hi; omega
  refine ev_iload (i := 4) d_Va_add_23 rfl rfl ?_
  refine ev_aload_n (i := 0) d_Va_add_25 rfl rfl rfl ?_
  refine ev_getR d_Va_add_26 rfl lk_Va_9 lx_35 rfl ?_
  refine ev_iload_n (i := 1) d_Va_add_29 rfl rfl rfl ?_
  refine ev_callV (As := [g_i (c : Int)]) d_Va_add_30 rfl cl_Va_41 ((c_Sg_width_c_w (d + 2) M1 c w hc8 ((hf1 3 c (by omega) (by omega) (by omega)).trans hw))) (g_hR (by decide)) g_h0 lx_1 rfl rfl (Nat.le_of_ble_eq_true rfl) rfl rfl ?_
  refine ev_icmp_ge (tgt := 84) d_Va_add_33 (by decide) rfl (fun hz => ?_) (fun hz => ?_)
  · have eiw : i = w := by omega
    refine ev_aload_n (i := 0) d_Va_add_84 rfl rfl rfl ?_
    refine ev_dup d_Va_add_85 rfl rfl ?_
    refine ev_getI (z := (bu : Int)) d_Va_add_86 rfl lk_Va_29 lx_35 rfl (hb5) ?_
    refine ev_iconst d_Va_add_89 rfl ⟨by decide, by decide⟩ ?_
    refine ev_iadd (z := (bu : Int) + 1) d_Va_add_90 rfl (g_w_id (by unfold g_rg; omega)) ?_
    refine ev_putI d_Va_add_91 rfl lk_Va_29 fp_Va_5 (Or.inl rfl) lx_35 rfl ?_
    refine ev_bipush d_Va_add_94 rfl (by decide +kernel) ⟨by decide, by decide⟩ ?_
    refine ev_aload_n (i := 0) d_Va_add_96 rfl rfl rfl ?_
    refine ev_getI (z := (bu : Int) + 1) d_Va_add_97 rfl lk_Va_29 lx_35 rfl (g_up_at _ _ _ _) ?_
    refine ev_iadd (z := 100 + ((bu : Int) + 1)) d_Va_add_100 rfl (g_w_id (by unfold g_rg; omega)) ?_
    refine ev_iconst d_Va_add_101 rfl ⟨by decide, by decide⟩ ?_
    refine ev_isub (z := ((100 + bu : Nat) : Int)) d_Va_add_102 rfl (by rw [g_w_id (by unfold g_rg; omega)]; omega) ?_
    exact ev_retIR d_Va_add_103 (⟨rfl, u_add hH hwl hw3 hw hbu hf1 h36 (by rw [← eiw]; rw [eiw] at h38 ⊢; exact h38) (fun j hj => h37 j (by omega)) rfl⟩) (Or.inl rfl)
  · obtain ⟨x, a, ha, hx, hxr⟩ := u_hd_at hH hwl (by omega : i < w)
    have hA : (H.take w).reverse[i]? = some a := by rw [u_tr hwl (by omega)]; exact ha
    have hx7 := u_rk_x hxr hbu (by omega)
    obtain ⟨c1, l1, rfl, hok1, -, hxs, -⟩ := u_rp_nd hxr
    have hxn : ¬ (x - 100 = bu ∧ ¬ x < 100) := by rcases hok1 with h9 | h9 <;> omega
    rw [show (1 + u_sz l1) = u_sz (Std.Format.tag c1 l1) from rfl] at hxs
    obtain ⟨a, ea⟩ : ∃ a, a = Std.Format.tag c1 l1 := ⟨_, rfl⟩
    rw [← ea] at hA hxs
    have hsz9 := hsz _ _ ha
    rw [← ea] at hsz9
    have hsum : ((1 + (((H.take w).reverse.take i).map u_sz).sum : Nat) : Int) + ((u_sz a : Nat) : Int) = ((1 + (((H.take w).reverse.take (i + 1)).map u_sz).sum : Nat) : Int) := by rw [u_tk_s hA]; omega
    refine ev_aload_n (i := 0) d_Va_add_36 rfl rfl rfl ?_
    refine ev_getR d_Va_add_37 rfl lk_Va_23 lx_35 rfl ?_
    refine ev_aload_n (i := 0) d_Va_add_40 rfl rfl rfl ?_
    refine ev_getI (z := (bu : Int)) d_Va_add_41 rfl lk_Va_29 lx_35 rfl (hb5) ?_
    refine ev_iconst d_Va_add_44 rfl ⟨by decide, by decide⟩ ?_
    refine ev_imul (z := (bu : Int) * 3) d_Va_add_45 rfl (g_w_id (by unfold g_rg; omega)) ?_
    refine ev_iload (i := 4) d_Va_add_46 rfl rfl ?_
    refine ev_iadd (z := ((3 * bu + i : Nat) : Int)) d_Va_add_48 rfl (by rw [g_w_id (by unfold g_rg; omega)]; omega) ?_
    refine ev_aload_n (i := 2) d_Va_add_49 rfl rfl rfl ?_
    refine ev_iload_n (i := 3) d_Va_add_50 rfl rfl rfl ?_
    refine ev_iload (i := 4) d_Va_add_51 rfl rfl ?_
    refine ev_iadd (z := ((H.length - w + i : Nat) : Int)) d_Va_add_53 rfl (by rw [g_w_id (by unfold g_rg; omega)]; omega) ?_
    refine ev_iaload (z := (x : Int)) d_Va_add_54 rfl lx_42 (by omega) (by omega) (by rw [Int.toNat_natCast, hf1 42 _ (by omega) (by omega) (by omega)]; exact hx) ?_
    refine ev_iastore d_Va_add_55 rfl lx_37 (by omega) (by omega) ?_
    rw [show Int.toNat ((((3 * bu + i : Nat) : Int))) = 3 * bu + i by exact Int.toNat_natCast _]
    refine ev_aload_n (i := 0) d_Va_add_56 rfl rfl rfl ?_
    refine ev_getR d_Va_add_57 rfl lk_Va_26 lx_35 rfl ?_
    refine ev_aload_n (i := 0) d_Va_add_60 rfl rfl rfl ?_
    refine ev_getI (z := (bu : Int)) d_Va_add_61 rfl lk_Va_29 lx_35 rfl (by rw [g_up_ne (by decide)]; exact hb5) ?_
    refine ev_dup2 d_Va_add_64 rfl rfl rfl ?_
    refine ev_iaload (z := ((1 + (((H.take w).reverse.take i).map u_sz).sum : Nat) : Int)) d_Va_add_65 rfl lx_38 (by omega) (by omega) (by rw [g_up_ne (by decide)]; exact h38) ?_
    refine ev_aload_n (i := 0) d_Va_add_66 rfl rfl rfl ?_
    refine ev_aload_n (i := 2) d_Va_add_67 rfl rfl rfl ?_
    refine ev_iload_n (i := 3) d_Va_add_68 rfl rfl rfl ?_
    refine ev_iload (i := 4) d_Va_add_69 rfl rfl ?_
    refine ev_iadd (z := ((H.length - w + i : Nat) : Int)) d_Va_add_71 rfl (by rw [g_w_id (by unfold g_rg; omega)]; omega) ?_
    refine ev_iaload (z := (x : Int)) d_Va_add_72 rfl lx_42 (by omega) (by omega) (by rw [Int.toNat_natCast, g_up_ne (by decide), hf1 42 _ (by omega) (by omega) (by omega)]; exact hx) ?_
    refine ev_callV (As := [g_i ((x : Int))]) d_Va_add_73 rfl cl_Va_51 ((c_Va_size (d + 1) (g_up M1 37 (3 * bu + i) (((x : Int)))) x hx7).eqr (b := ((u_sz a : Nat) : Int)) (by unfold u_kw; unfold u_kw at hxs; rw [← hxs]; by_cases h9 : x < 100; (rw [if_pos h9, if_pos h9, g_up_ne (by decide), hf1 15 x (by omega) (by omega) (by omega)]); (rw [if_neg h9, if_neg h9, g_up_ne (by decide), hf1 38 _ (by omega) (by omega) (by omega)]))) (g_hR (by decide)) g_h0 lx_35 rfl rfl (Nat.le_of_ble_eq_true rfl) rfl rfl ?_
    refine ev_iadd (z := ((1 + (((H.take w).reverse.take i).map u_sz).sum : Nat) : Int) + ((u_sz a : Nat) : Int)) d_Va_add_76 rfl (g_w_id (by unfold g_rg; omega)) ?_
    refine ev_iastore d_Va_add_77 rfl lx_38 (by omega) (by omega) ?_
    rw [show Int.toNat (((bu : Int))) = bu by rfl]
    refine ev_iinc (z := ((i + 1 : Nat) : Int)) d_Va_add_78 rfl rfl (by decide) (by rw [g_w_id (by unfold g_rg; omega)]; omega) rfl ?_
    refine ev_goto (tgt := 23) d_Va_add_81 (by decide) ?_
    exact ev_le (ih (w - (i + 1)) [some (g_r 35), some (g_i (c : Int)), some (g_r 42), some (g_i ((H.length - w : Nat) : Int)), some (g_i ((i + 1 : Nat) : Int))] _ (by omega) ⟨i + 1, by omega, rfl, rfl, fun q b h1 h2 h3 => by (simp only [g_up]; rw [if_neg (by omega), if_neg (by omega)]; exact hf1 q b h1 h2 h3), by rw [g_up_ne (by decide), g_up_ne (by decide)]; exact h36, by rw [g_up_at]; exact hsum, fun j hj => by rw [g_up_ne (by decide)]; by_cases hji : j = i; (rw [hji, g_up_at, hx]); (rw [g_up_nj (by omega)]; exact h37 j (by omega))⟩) rfl ⟨rfl, rfl, rfl, rfl, rfl, trivial⟩
theorem c_Ma_hold (d : Nat) (M : g_M) (n : Nat) (v : Int) (hn : M 34 9 = n) (hl : n < 2005) : Con y_Ma_hold w_Ma_hold (g_rm (d)) LX M [g_r 34, g_i v] LX (g_up (g_up M 42 n v) 34 9 ((n : Int) + 1)) none := by
  refine con_of (av := [g_r 34, g_i v]) (ls0 := [some (g_r 34), some (g_i v)]) (by decide) rfl (Nat.le_of_ble_eq_true rfl) (g_hls (av := [g_r 34, g_i v]) (k := 0)) (fun _ h9 => List.mem_cons_of_mem _ h9) ?_
  refine ev_aload_n (i := 0) d_Ma_hold_0 rfl rfl rfl ?_
  refine ev_getI (z := (n : Int)) d_Ma_hold_1 rfl lk_Ma_64 lx_34 rfl (hn) ?_
  refine ev_sipush d_Ma_hold_4 rfl (by decide +kernel) ⟨by decide, by decide⟩ ?_
  refine ev_icmp_lt_t (tgt := 16) d_Ma_hold_7 (by decide) (by omega) ?_
  refine ev_aload_n (i := 0) d_Ma_hold_16 rfl rfl rfl ?_
  refine ev_getR d_Ma_hold_17 rfl lk_Ma_42 lx_34 rfl ?_
  refine ev_aload_n (i := 0) d_Ma_hold_20 rfl rfl rfl ?_
  refine ev_getI (z := (n : Int)) d_Ma_hold_21 rfl lk_Ma_64 lx_34 rfl (hn) ?_
  refine ev_iload_n (i := 1) d_Ma_hold_24 rfl rfl rfl ?_
  refine ev_iastore d_Ma_hold_25 rfl lx_42 (by omega) (by omega) ?_
  rw [show Int.toNat (((n : Int))) = n by rfl]
  refine ev_aload_n (i := 0) d_Ma_hold_26 rfl rfl rfl ?_
  refine ev_dup d_Ma_hold_27 rfl rfl ?_
  refine ev_getI (z := (n : Int)) d_Ma_hold_28 rfl lk_Ma_64 lx_34 rfl (by rw [g_up_ne (by decide)]; exact hn) ?_
  refine ev_iconst d_Ma_hold_31 rfl ⟨by decide, by decide⟩ ?_
  refine ev_iadd (z := (n : Int) + 1) d_Ma_hold_32 rfl (g_w_id (by unfold g_rg; omega)) ?_
  refine ev_putI d_Ma_hold_33 rfl lk_Ma_64 fp_Ma_9 (Or.inl rfl) lx_34 rfl ?_
  exact ev_retV d_Ma_hold_36 rfl
