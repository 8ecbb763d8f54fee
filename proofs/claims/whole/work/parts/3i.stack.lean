/-! the reference's stack of terms -/
/-- what a walk over terms leaves as it was: all but the stack -/
def q_eq (M M2 : g_M) : Prop := ∀ k b : Nat, k ≠ 62 → k ≠ 63 → ¬ (k = 45 ∧ b = 22) → M2 k b = M k b
theorem q_eq.rf (M : g_M) : q_eq M M := fun _ _ _ _ _ => rfl
theorem q_eq.tr {M M1 M2 : g_M} (h : q_eq M M1) (h2 : q_eq M1 M2) : q_eq M M2 := fun k b h3 h4 h5 => (h2 k b h3 h4 h5).trans (h k b h3 h4 h5)
theorem q_eq.fn {M M2 : g_M} (h : q_eq M M2) {k : Nat} (h1 : k ≠ 62) (h2 : k ≠ 63) (h3 : k ≠ 45) : M2 k = M k := by
  funext b
  exact h k b h1 h2 (fun h9 => h3 h9.1)
/-- the stack, its top first -/
def q_st (M : g_M) (S : List Nat) : Prop := M 45 22 = S.length ∧ ∀ (i x : Nat), S[i]? = some x → M 62 (S.length - 1 - i) = x
theorem q_nil {M : g_M} (h : M 45 22 = 0) : q_st M [] := ⟨h, fun i x hx => by simp at hx⟩
theorem q_up (M : g_M) (n : Nat) (x y z : Int) : q_eq M (g_up (g_up (g_up M 62 n x) 63 n y) 45 22 z) := by
  intro k b h1 h2 h3
  simp only [g_up]
  rw [if_neg h3, if_neg (fun h => h2 h.1), if_neg (fun h => h1 h.1)]
theorem q_push {M : g_M} {S : List Nat} (x : Nat) (y : Int) (h : q_st M S) : q_st (g_up (g_up (g_up M 62 S.length x) 63 S.length y) 45 22 ((S.length : Int) + 1)) (x :: S) := by
  refine ⟨by simp [g_up], fun i z hz => ?_⟩
  match i with
  | 0 =>
    simp at hz
    simp [g_up, hz]
  | i + 1 =>
    have hz' : S[i]? = some z := by simpa using hz
    have hl : i < S.length := (List.getElem?_eq_some_iff.mp hz').1
    have := h.2 i z hz'
    have e : (x :: S).length - 1 - (i + 1) = S.length - 1 - i := by simp; omega
    rw [e]
    simp only [g_up]
    rw [if_neg (by omega), if_neg (by omega), if_neg (by omega)]
    exact this
theorem q_pop {M : g_M} {S : List Nat} {x : Nat} (h : q_st M (x :: S)) : M 62 S.length = x ∧ q_st (g_up M 45 22 (S.length : Int)) S := by
  refine ⟨by simpa using h.2 0 x rfl, by simp [g_up], fun i z hz => ?_⟩
  have hl : i < S.length := (List.getElem?_eq_some_iff.mp hz).1
  have := h.2 (i + 1) z (by simpa using hz)
  have e : (x :: S).length - 1 - (i + 1) = S.length - 1 - i := by simp; omega
  rw [e] at this
  simp only [g_up]
  rw [if_neg (by omega)]
  exact this
theorem q_pe (M : g_M) (z : Int) : q_eq M (g_up M 45 22 z) := by
  intro k b _ _ h3
  simp only [g_up]
  rw [if_neg h3]
/-- how many parts a term has -/
abbrev q_w (M : g_M) (t : Nat) : Int := if M 52 t < 8 then 0 else if M 52 t < 16 then M 47 (M 52 t - 8).toNat else M 50 (M 52 t - 16).toNat
/-- the parts of a term, from the k-th on -/
def q_ks (M : g_M) (t w : Nat) (k : Nat) : List Nat := ((List.range w).drop k).map (fun i => (M 53 (3 * t + i)).toNat)
theorem q_ks_0 (M : g_M) (t w : Nat) : q_ks M t w w = [] := by
  unfold q_ks
  rw [List.drop_eq_nil_of_le (by simp)]
  rfl
theorem q_ks_s (M : g_M) (t w k : Nat) (h : k < w) : q_ks M t w k = (M 53 (3 * t + k)).toNat :: q_ks M t w (k + 1) := by
  unfold q_ks
  rw [List.drop_eq_getElem_cons (by simpa using h)]
  simp
theorem q_ks_len (M : g_M) (t w k : Nat) : (q_ks M t w k).length = w - k := by
  simp [q_ks]
theorem c_Mo_push (d : Nat) (M : g_M) (S : List Nat) (x y : Int) (hS : q_st M S) (hl : S.length < 200) : Con y_Mo_push w_Mo_push (g_rm (d)) LX M [g_r 45, g_i x, g_i y] LX (g_up (g_up (g_up M 62 S.length x) 63 S.length y) 45 22 ((S.length : Int) + 1)) none := by
  refine con_of (av := [g_r 45, g_i x, g_i y]) (ls0 := [some (g_r 45), some (g_i x), some (g_i y)]) (by decide) rfl (Nat.le_of_ble_eq_true rfl) (g_hls (av := [g_r 45, g_i x, g_i y]) (k := 0)) (fun _ h9 => List.mem_cons_of_mem _ h9) ?_
  refine ev_aload_n (i := 0) d_Mo_push_0 rfl rfl rfl ?_
  refine ev_getR d_Mo_push_1 rfl lk_Mo_58 lx_45 rfl ?_
  refine ev_aload_n (i := 0) d_Mo_push_4 rfl rfl rfl ?_
  refine ev_getI (z := (S.length : Int)) d_Mo_push_5 rfl lk_Mo_141 lx_45 rfl (by simp [g_up, hS.1]) ?_
  refine ev_iload_n (i := 1) d_Mo_push_8 rfl rfl rfl ?_
  refine ev_iastore d_Mo_push_9 rfl lx_62 (by omega) (by omega) ?_
  rw [show Int.toNat (((S.length : Int))) = S.length by rfl]
  refine ev_aload_n (i := 0) d_Mo_push_10 rfl rfl rfl ?_
  refine ev_getR d_Mo_push_11 rfl lk_Mo_61 lx_45 rfl ?_
  refine ev_aload_n (i := 0) d_Mo_push_14 rfl rfl rfl ?_
  refine ev_getI (z := (S.length : Int)) d_Mo_push_15 rfl lk_Mo_141 lx_45 rfl (by simp [g_up, hS.1]) ?_
  refine ev_iload_n (i := 2) d_Mo_push_18 rfl rfl rfl ?_
  refine ev_iastore d_Mo_push_19 rfl lx_63 (by omega) (by omega) ?_
  rw [show Int.toNat (((S.length : Int))) = S.length by rfl]
  refine ev_aload_n (i := 0) d_Mo_push_20 rfl rfl rfl ?_
  refine ev_dup d_Mo_push_21 rfl rfl ?_
  refine ev_getI (z := (S.length : Int)) d_Mo_push_22 rfl lk_Mo_141 lx_45 rfl (by simp [g_up, hS.1]) ?_
  refine ev_iconst d_Mo_push_25 rfl ⟨by decide, by decide⟩ ?_
  refine ev_iadd (z := ((S.length : Int)) + 1) d_Mo_push_26 rfl (g_w_id (by unfold g_rg; omega)) ?_
  refine ev_putI d_Mo_push_27 rfl lk_Mo_141 fp_Mo_22 (Or.inl rfl) lx_45 rfl ?_
  exact ev_retV d_Mo_push_30 rfl
theorem c_Mo_places (d : Nat) (M : g_M) (t : Nat) (ht : t < 100) (h0 : 0 ≤ M 52 t) (h1 : M 52 t < 22) : Con y_Mo_places w_Mo_places (g_rm (d)) LX M [g_r 45, g_i (t : Int)] LX M (some (g_i (q_w M t))) := by
  refine con_of (av := [g_r 45, g_i (t : Int)]) (ls0 := [some (g_r 45), some (g_i (t : Int)), none]) (by decide) rfl (Nat.le_of_ble_eq_true rfl) (g_hls (av := [g_r 45, g_i (t : Int)]) (k := 1)) (fun _ h9 => List.mem_cons_of_mem _ h9) ?_
  refine ev_aload_n (i := 0) d_Mo_places_0 rfl rfl rfl ?_
  refine ev_getR d_Mo_places_1 rfl lk_Mo_28 lx_45 rfl ?_
  refine ev_iload_n (i := 1) d_Mo_places_4 rfl rfl rfl ?_
  refine ev_iaload (z := M 52 t) d_Mo_places_5 rfl lx_52 (by omega) (by omega) (rfl) ?_
  refine ev_istore_n (i := 2) d_Mo_places_6 rfl rfl (by decide) rfl ?_
  refine ev_iload_n (i := 2) d_Mo_places_7 rfl rfl rfl ?_
  refine ev_bipush d_Mo_places_8 rfl (by decide +kernel) ⟨by decide, by decide⟩ ?_
  refine ev_icmp_ge (tgt := 17) d_Mo_places_10 (by decide) rfl (fun h1 => ?_) (fun h1 => ?_)
  · refine ev_iload_n (i := 2) d_Mo_places_17 rfl rfl rfl ?_
    refine ev_bipush d_Mo_places_18 rfl (by decide +kernel) ⟨by decide, by decide⟩ ?_
    refine ev_icmp_ge (tgt := 35) d_Mo_places_20 (by decide) rfl (fun h2 => ?_) (fun h2 => ?_)
    · refine ev_aload_n (i := 0) d_Mo_places_35 rfl rfl rfl ?_
      refine ev_getR d_Mo_places_36 rfl lk_Mo_22 lx_45 rfl ?_
      refine ev_iload_n (i := 2) d_Mo_places_39 rfl rfl rfl ?_
      refine ev_bipush d_Mo_places_40 rfl (by decide +kernel) ⟨by decide, by decide⟩ ?_
      refine ev_isub (z := (M 52 t) - 16) d_Mo_places_42 rfl (g_w_id (by unfold g_rg; omega)) ?_
      refine ev_iaload (z := M 50 (M 52 t - 16).toNat) d_Mo_places_43 rfl lx_50 (by omega) (by omega) (rfl) ?_
      exact ev_retI d_Mo_places_44 (by simp only [q_w]; omega) rfl (Or.inl rfl)
    · refine ev_aload_n (i := 0) d_Mo_places_23 rfl rfl rfl ?_
      refine ev_getR d_Mo_places_24 rfl lk_Mo_13 lx_45 rfl ?_
      refine ev_iload_n (i := 2) d_Mo_places_27 rfl rfl rfl ?_
      refine ev_bipush d_Mo_places_28 rfl (by decide +kernel) ⟨by decide, by decide⟩ ?_
      refine ev_isub (z := (M 52 t) - 8) d_Mo_places_30 rfl (g_w_id (by unfold g_rg; omega)) ?_
      refine ev_iaload (z := M 47 (M 52 t - 8).toNat) d_Mo_places_31 rfl lx_47 (by omega) (by omega) (rfl) ?_
      refine ev_goto (tgt := 44) d_Mo_places_32 (by decide) ?_
      exact ev_retI d_Mo_places_44 (by simp only [q_w]; omega) rfl (Or.inl rfl)
  · refine ev_iconst d_Mo_places_13 rfl ⟨by decide, by decide⟩ ?_
    refine ev_goto (tgt := 44) d_Mo_places_14 (by decide) ?_
    exact ev_retI d_Mo_places_44 (by simp only [q_w]; omega) rfl (Or.inl rfl)
