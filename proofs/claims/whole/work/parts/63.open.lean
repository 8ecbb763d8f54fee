/-! the class's frames: a term, its room, how many of its parts are done -/
def u_fi (M : g_M) : List (Nat × Nat × Nat) → List (Int × Nat)
  | [] => []
  | e :: F => ((q_kids M e.1).drop e.2.2).map (fun y : Nat => ((y : Int), e.2.1 + 1)) ++ (u_op M e.1, e.2.1 + 1) :: u_fi M F
def u_fm (M1 : g_M) (F : List (Nat × Nat × Nat)) : Prop := M1 34 7 = F.length ∧ ∀ (i : Nat) (e : Nat × Nat × Nat), F[i]? = some e → M1 39 (F.length - 1 - i) = e.1 ∧ M1 40 (F.length - 1 - i) = e.2.1 ∧ M1 41 (F.length - 1 - i) = e.2.2
def u_fv (M : g_M) (F : List (Nat × Nat × Nat)) : Prop := ∀ e ∈ F, (e.1 : Int) < M 45 8 ∧ 8 ≤ M 52 e.1 ∧ (e.2.2 : Int) ≤ q_w M e.1
theorem u_no_a : ∀ (L : List Nat) (fr : Nat) (K : List (Int × Nat)), u_no (L.map (fun y : Nat => ((y : Int), fr)) ++ K) = u_no K
  | [], fr, K => rfl
  | y :: L, fr, K => by rw [List.map_cons, List.cons_append, u_no, if_pos (by omega), u_no_a L fr K, Nat.zero_add]
theorem u_no_fi {M : g_M} (hP : r_P M) : ∀ F : List (Nat × Nat × Nat), u_fv M F → u_no (u_fi M F) = F.length
  | [], _ => rfl
  | e :: F, h => by
    obtain ⟨h1, h2, h3⟩ := h e List.mem_cons_self
    have ho := (u_op_w hP h1 h2).1
    rw [u_fi, u_no_a, u_no, if_neg (by omega), u_no_fi hP F (fun e he => h e (List.mem_cons_of_mem _ he)), List.length_cons, Nat.add_comm]
theorem u_fm_cg {M M2 : g_M} {F : List (Nat × Nat × Nat)} (h7 : M2 34 7 = M 34 7) (h : ∀ k : Nat, k = 39 ∨ k = 40 ∨ k = 41 → M2 k = M k) (hF : u_fm M F) : u_fm M2 F := by
  unfold u_fm at hF ⊢
  rw [h7, h 39 (by decide), h 40 (by decide), h 41 (by decide)]
  exact hF
theorem u_fm_push {M : g_M} {F : List (Nat × Nat × Nat)} (h : u_fm M F) (t r : Nat) : u_fm (g_up (g_up (g_up (g_up M 39 F.length (t : Int)) 40 F.length (r : Int)) 41 F.length 0) 34 7 ((F.length : Int) + 1)) ((t, r, 0) :: F) := by
  refine ⟨by rw [g_up_at, List.length_cons]; omega, fun i e hi => ?_⟩
  match i with
  | 0 =>
    have he : (t, r, 0) = e := by simpa using hi
    subst he
    rw [List.length_cons, show F.length + 1 - 1 - 0 = F.length by omega]
    refine ⟨?_, ?_, ?_⟩
    · rw [g_up_ne (by decide), g_up_ne (by decide), g_up_ne (by decide), g_up_at]
    · rw [g_up_ne (by decide), g_up_ne (by decide), g_up_at]
    · rw [g_up_ne (by decide), g_up_at]; rfl
  | i + 1 =>
    have hi' : F[i]? = some e := by simpa using hi
    have hl := (List.getElem?_eq_some_iff.mp hi').1
    obtain ⟨a, b, c⟩ := h.2 i e hi'
    rw [List.length_cons, show F.length + 1 - 1 - (i + 1) = F.length - 1 - i by omega]
    refine ⟨?_, ?_, ?_⟩
    · rw [g_up_ne (by decide), g_up_ne (by decide), g_up_ne (by decide), g_up_nj (by omega)]; exact a
    · rw [g_up_ne (by decide), g_up_ne (by decide), g_up_nj (by omega), g_up_ne (by decide)]; exact b
    · rw [g_up_ne (by decide), g_up_nj (by omega), g_up_ne (by decide), g_up_ne (by decide)]; exact c
theorem u_fm_top {M : g_M} {t r dn : Nat} {F : List (Nat × Nat × Nat)} (h : u_fm M ((t, r, dn) :: F)) : M 34 7 = (F.length : Int) + 1 ∧ M 39 F.length = t ∧ M 40 F.length = r ∧ M 41 F.length = dn ∧ u_fm (g_up M 34 7 (F.length : Int)) F := by
  obtain ⟨h1, h2⟩ := h
  obtain ⟨a, b, c⟩ := h2 0 (t, r, dn) rfl
  rw [show ((t, r, dn) :: F).length - 1 - 0 = F.length by rw [List.length_cons]; omega] at a b c
  refine ⟨by rw [h1, List.length_cons]; omega, a, b, c, g_up_at _ _ _ _, fun i e hi => ?_⟩
  have hl := (List.getElem?_eq_some_iff.mp hi).1
  have h3 := h2 (i + 1) e (by simpa using hi)
  rw [show ((t, r, dn) :: F).length - 1 - (i + 1) = F.length - 1 - i by rw [List.length_cons]; omega] at h3
  rw [g_up_ne (by decide), g_up_ne (by decide), g_up_ne (by decide)]
  exact h3
theorem u_fm_next {M : g_M} {t r dn : Nat} {F : List (Nat × Nat × Nat)} (h : u_fm M ((t, r, dn) :: F)) : u_fm (g_up M 41 F.length ((dn : Int) + 1)) ((t, r, dn + 1) :: F) := by
  obtain ⟨h1, h2⟩ := h
  refine ⟨by rw [g_up_ne (by decide)]; exact h1, fun i e hi => ?_⟩
  match i with
  | 0 =>
    have he : (t, r, dn + 1) = e := by simpa using hi
    subst he
    obtain ⟨a, b, -⟩ := h2 0 (t, r, dn) rfl
    rw [show ((t, r, dn) :: F).length - 1 - 0 = F.length by rw [List.length_cons]; omega] at a b
    rw [show ((t, r, dn + 1) :: F).length - 1 - 0 = F.length by rw [List.length_cons]; omega]
    exact ⟨by rw [g_up_ne (by decide)]; exact a, by rw [g_up_ne (by decide)]; exact b, by rw [g_up_at]; rfl⟩
  | i + 1 =>
    have hi' : F[i]? = some e := by simpa using hi
    have hl := (List.getElem?_eq_some_iff.mp hi').1
    obtain ⟨a, b, c⟩ := h2 (i + 1) e (by simpa using hi')
    rw [show ((t, r, dn) :: F).length - 1 - (i + 1) = F.length - 1 - i by rw [List.length_cons]; omega] at a b c
    rw [show ((t, r, dn + 1) :: F).length - 1 - (i + 1) = F.length - 1 - i by rw [List.length_cons]; omega]
    exact ⟨by rw [g_up_ne (by decide)]; exact a, by rw [g_up_ne (by decide)]; exact b, by rw [g_up_nj (by omega)]; exact c⟩
theorem u_fi_next {M : g_M} {t r dn y : Nat} {F : List (Nat × Nat × Nat)} (h : (dn : Int) < q_w M t) (hy : M 53 (3 * t + dn) = y) : u_fi M ((t, r, dn) :: F) = ((y : Int), r + 1) :: u_fi M ((t, r, dn + 1) :: F) := by
  have hl : dn < (q_kids M t).length := by rw [q_kids_map, List.length_map, List.length_range]; omega
  rw [u_fi, u_fi]
  simp only
  rw [List.drop_eq_getElem_cons hl, List.map_cons, List.cons_append]
  congr 2
  simp only [q_kids_map, List.getElem_map, List.getElem_range]
  rw [hy]
  rfl
theorem u_fi_last {M : g_M} {t r dn : Nat} {F : List (Nat × Nat × Nat)} (h : q_w M t ≤ (dn : Int)) : u_fi M ((t, r, dn) :: F) = (u_op M t, r + 1) :: u_fi M F := by
  have hl : (q_kids M t).length ≤ dn := by rw [q_kids_map, List.length_map, List.length_range]; omega
  rw [u_fi]
  simp only
  rw [List.drop_of_length_le hl]
  rfl
/-- what variables stand for, in the class -/
def u_bc (M1 : g_M) (B : Nat → Nat → u_F) : Prop := ∀ r, r < 200 → u_b2 M1 r (B (r + 1))
theorem u_bc_cg {M M1 : g_M} {B : Nat → Nat → u_F} (h43 : M1 43 = M 43) (hr : ∀ t x, u_rk M t x → u_rk M1 t x) (h : u_bc M B) : u_bc M1 B := fun r h2 => u_b2_cg h43 hr (h r h2)
theorem u_bc_n {M M2 : g_M} {B : Nat → Nat → u_F} {st : Nat} {b : Nat → u_F} (h : u_bc M B) (hg : g43 st M M2) (hb : u_b2 M2 st b) : u_bc M2 (fun q => if q = st + 1 then b else B q) := by
  intro r hr v c l hv hx
  by_cases he : r = st
  · subst he
    simp only [if_true] at hx ⊢
    exact hb v c l hv hx
  · simp only [if_neg (show ¬ r + 1 = st + 1 by omega)] at hx ⊢
    obtain ⟨x, h1, h2⟩ := h r hr v c l hv hx
    exact ⟨x, by rw [hg 43 _ (by omega)]; exact h1, hg.rk h2⟩
def u_Ms (M M1 : g_M) (F : List (Nat × Nat × Nat)) (H : List u_F) (B : Nat → Nat → u_F) (st bu : Nat) : Prop := u_c M M1 ∧ u_fm M1 F ∧ u_fv M F ∧ M1 34 9 = H.length ∧ u_hd M1 H ∧ u_bc M1 B ∧ M1 34 11 = st ∧ M1 35 5 = bu ∧ M1 34 12 = 0 ∧ M1 34 14 = 0
/-- the class's memory tells the state s -/
def u_Cs (M M1 : g_M) (s : u_S) : Prop := ∃ F, u_fi M F = s.1 ∧ u_Ms M M1 F s.2.1 s.2.2.1 s.2.2.2.1 s.2.2.2.2
/-- the class's memory tells that the run ended -/
def u_Ce (M M2 : g_M) (st : Nat) : Prop := M2 34 12 = 1 ∧ u_c M M2 ∧ M2 34 11 = (st : Int) ∧ M2 34 14 = 0
theorem u_Ms_e {M M1 : g_M} {F : List (Nat × Nat × Nat)} {H : List u_F} {B : Nat → Nat → u_F} {st bu : Nat} (h : u_Ms M M1 F H B st bu) : u_Ce M (g_up M1 34 12 1) st := by
  obtain ⟨h1, -, -, -, -, -, h7, -, -, h10⟩ := h
  exact ⟨g_up_at _ _ _ _, h1.tr (u_c_up M1 (by decide) 12 1), by rw [g_up_nj (by decide)]; exact h7, by rw [g_up_nj (by decide)]; exact h10⟩
/-- the clauses between two of a function's own do not count -/
theorem u_en_gap {M : g_M} {f w : Nat} {as : Nat → u_F} {b bc : Nat → u_F} {cc : Nat} (h : u_en M f w as b cc = (none, bc)) : ∀ j : Nat, s_cn M f (cc + j) = s_cn M f cc → u_en M f w as b (cc + j) = (none, bc)
  | 0, _ => h
  | j + 1, hs => by
    have h1 := s_cn_mono M f cc j
    have h2 : s_cn M f (cc + (j + 1)) = if M 56 (cc + j) = f then s_cn M f (cc + j) + 1 else s_cn M f (cc + j) := rfl
    by_cases hf : M 56 (cc + j) = f
    · rw [if_pos hf] at h2; omega
    · rw [if_neg hf] at h2
      exact u_en_n (u_en_gap h j (by omega)) hf
theorem u_en_own {M : g_M} {f w : Nat} {as : Nat → u_F} {b bc : Nat → u_F} {cc c : Nat} (h : u_en M f w as b cc = (none, bc)) (hs : s_cn M f c = s_cn M f cc) (hl : cc ≤ c) : u_en M f w as b c = (none, bc) := by
  have h1 := u_en_gap h (c - cc) (by rw [show cc + (c - cc) = c by omega]; exact hs)
  rw [show cc + (c - cc) = c by omega] at h1
  exact h1
theorem s_cn_own {M : g_M} {f : Int} {cc c : Nat} (hs : s_cn M f c = s_cn M f cc) (hf : M 56 c = f) : cc ≤ c := by
  rcases Nat.lt_or_ge c cc with h | h
  · have h1 := s_cn_mono M f (c + 1) (cc - (c + 1))
    rw [show c + 1 + (cc - (c + 1)) = cc by omega] at h1
    have h2 : s_cn M f (c + 1) = if M 56 c = f then s_cn M f c + 1 else s_cn M f c := rfl
    rw [if_pos hf] at h2
    omega
  · exact h
theorem c_Ma_open_v (d : Nat) (M : g_M) (t r v x n : Nat) (ht : t < 100) (h10 : M 10 t = 0) (h11 : M 11 t = v) (hv : v < 8) (hr : r < 200) (hx : M 43 (8 * r + v) = x) (hn : M 34 9 = n) (hl : n < 2005) : Con y_Ma_open w_Ma_open (g_rm (d + 1)) LX M [g_r 34, g_i (t : Int), g_i (r : Int)] LX (g_up (g_up M 42 n (x : Int)) 34 9 ((n : Int) + 1)) none := by
  refine con_of (av := [g_r 34, g_i (t : Int), g_i (r : Int)]) (ls0 := [some (g_r 34), some (g_i (t : Int)), some (g_i (r : Int))]) (by decide) rfl (Nat.le_of_ble_eq_true rfl) (g_hls (av := [g_r 34, g_i (t : Int), g_i (r : Int)]) (k := 0)) (fun _ h9 => List.mem_cons_of_mem _ h9) ?_
  refine ev_aload_n (i := 0) d_Ma_open_0 rfl rfl rfl ?_
  refine ev_getR d_Ma_open_1 rfl lk_Ma_15 lx_34 rfl ?_
  refine ev_iload_n (i := 1) d_Ma_open_4 rfl rfl rfl ?_
  refine ev_callV (As := [g_i (t : Int)]) d_Ma_open_5 rfl cl_Ma_115 ((c_Te_isVariable (d + 0) M t ht)) (g_hR (by decide)) g_h0 lx_9 rfl rfl (Nat.le_of_ble_eq_true rfl) rfl rfl ?_
  refine ev_if_eq_f (tgt := 34) d_Ma_open_8 (by decide) rfl (by rw [if_pos h10]; decide) ?_
  refine ev_aload_n (i := 0) d_Ma_open_11 rfl rfl rfl ?_
  refine ev_aload_n (i := 0) d_Ma_open_12 rfl rfl rfl ?_
  refine ev_getR d_Ma_open_13 rfl lk_Ma_45 lx_34 rfl ?_
  refine ev_iload_n (i := 2) d_Ma_open_16 rfl rfl rfl ?_
  refine ev_bipush d_Ma_open_17 rfl (by decide +kernel) ⟨by decide, by decide⟩ ?_
  refine ev_imul (z := (r : Int) * 8) d_Ma_open_19 rfl (g_w_id (by unfold g_rg; omega)) ?_
  refine ev_aload_n (i := 0) d_Ma_open_20 rfl rfl rfl ?_
  refine ev_getR d_Ma_open_21 rfl lk_Ma_15 lx_34 rfl ?_
  refine ev_iload_n (i := 1) d_Ma_open_24 rfl rfl rfl ?_
  refine ev_callV (As := [g_i (t : Int)]) d_Ma_open_25 rfl cl_Ma_109 ((c_Te_head (d + 0) M t ht).eqr (b := (v : Int)) (h11)) (g_hR (by decide)) g_h0 lx_9 rfl rfl (Nat.le_of_ble_eq_true rfl) rfl rfl ?_
  refine ev_iadd (z := ((8 * r + v : Nat) : Int)) d_Ma_open_28 rfl (by rw [g_w_id (by unfold g_rg; omega)]; omega) ?_
  refine ev_iaload (z := (x : Int)) d_Ma_open_29 rfl lx_43 (by omega) (by omega) (by rw [Int.toNat_natCast]; exact hx) ?_
  refine ev_callV (As := [g_i ((x : Int))]) d_Ma_open_30 rfl cl_Ma_81 ((c_Ma_hold (d + 0) M n (x : Int) hn hl)) (g_hR (by decide)) g_h0 lx_34 rfl rfl (Nat.le_of_ble_eq_true rfl) rfl rfl ?_
  exact ev_retV d_Ma_open_33 rfl
theorem c_Ma_open_n (d : Nat) (M : g_M) (t r n : Nat) (ht : t < 100) (h10 : M 10 t ≠ 0) (hn : M 34 7 = n) (hl : n < 1001) : Con y_Ma_open w_Ma_open (g_rm (d + 1)) LX M [g_r 34, g_i (t : Int), g_i (r : Int)] LX (g_up (g_up (g_up (g_up M 39 n (t : Int)) 40 n (r : Int)) 41 n 0) 34 7 ((n : Int) + 1)) none := by
  refine con_of (av := [g_r 34, g_i (t : Int), g_i (r : Int)]) (ls0 := [some (g_r 34), some (g_i (t : Int)), some (g_i (r : Int))]) (by decide) rfl (Nat.le_of_ble_eq_true rfl) (g_hls (av := [g_r 34, g_i (t : Int), g_i (r : Int)]) (k := 0)) (fun _ h9 => List.mem_cons_of_mem _ h9) ?_
  refine ev_aload_n (i := 0) d_Ma_open_0 rfl rfl rfl ?_
  refine ev_getR d_Ma_open_1 rfl lk_Ma_15 lx_34 rfl ?_
  refine ev_iload_n (i := 1) d_Ma_open_4 rfl rfl rfl ?_
  refine ev_callV (As := [g_i (t : Int)]) d_Ma_open_5 rfl cl_Ma_115 ((c_Te_isVariable (d + 0) M t ht)) (g_hR (by decide)) g_h0 lx_9 rfl rfl (Nat.le_of_ble_eq_true rfl) rfl rfl ?_
  refine ev_if_eq_t (tgt := 34) d_Ma_open_8 (by decide) (by rw [if_neg h10]) ?_
  refine ev_aload_n (i := 0) d_Ma_open_34 rfl rfl rfl ?_
  refine ev_getI (z := (n : Int)) d_Ma_open_35 rfl lk_Ma_61 lx_34 rfl (hn) ?_
  refine ev_sipush d_Ma_open_38 rfl (by decide +kernel) ⟨by decide, by decide⟩ ?_
  refine ev_icmp_lt_t (tgt := 50) d_Ma_open_41 (by decide) (by omega) ?_
  refine ev_aload_n (i := 0) d_Ma_open_50 rfl rfl rfl ?_
  refine ev_getR d_Ma_open_51 rfl lk_Ma_32 lx_34 rfl ?_
  refine ev_aload_n (i := 0) d_Ma_open_54 rfl rfl rfl ?_
  refine ev_getI (z := (n : Int)) d_Ma_open_55 rfl lk_Ma_61 lx_34 rfl (hn) ?_
  refine ev_iload_n (i := 1) d_Ma_open_58 rfl rfl rfl ?_
  refine ev_iastore d_Ma_open_59 rfl lx_39 (by omega) (by omega) ?_
  rw [show Int.toNat (((n : Int))) = n by rfl]
  refine ev_aload_n (i := 0) d_Ma_open_60 rfl rfl rfl ?_
  refine ev_getR d_Ma_open_61 rfl lk_Ma_36 lx_34 rfl ?_
  refine ev_aload_n (i := 0) d_Ma_open_64 rfl rfl rfl ?_
  refine ev_getI (z := (n : Int)) d_Ma_open_65 rfl lk_Ma_61 lx_34 rfl (by rw [g_up_ne (by decide)]; exact hn) ?_
  refine ev_iload_n (i := 2) d_Ma_open_68 rfl rfl rfl ?_
  refine ev_iastore d_Ma_open_69 rfl lx_40 (by omega) (by omega) ?_
  rw [show Int.toNat (((n : Int))) = n by rfl]
  refine ev_aload_n (i := 0) d_Ma_open_70 rfl rfl rfl ?_
  refine ev_getR d_Ma_open_71 rfl lk_Ma_39 lx_34 rfl ?_
  refine ev_aload_n (i := 0) d_Ma_open_74 rfl rfl rfl ?_
  refine ev_getI (z := (n : Int)) d_Ma_open_75 rfl lk_Ma_61 lx_34 rfl (by rw [g_up_ne (by decide), g_up_ne (by decide)]; exact hn) ?_
  refine ev_iconst d_Ma_open_78 rfl ⟨by decide, by decide⟩ ?_
  refine ev_iastore d_Ma_open_79 rfl lx_41 (by omega) (by omega) ?_
  rw [show Int.toNat (((n : Int))) = n by rfl]
  refine ev_aload_n (i := 0) d_Ma_open_80 rfl rfl rfl ?_
  refine ev_dup d_Ma_open_81 rfl rfl ?_
  refine ev_getI (z := (n : Int)) d_Ma_open_82 rfl lk_Ma_61 lx_34 rfl (by rw [g_up_ne (by decide), g_up_ne (by decide), g_up_ne (by decide)]; exact hn) ?_
  refine ev_iconst d_Ma_open_85 rfl ⟨by decide, by decide⟩ ?_
  refine ev_iadd (z := (n : Int) + 1) d_Ma_open_86 rfl (g_w_id (by unfold g_rg; omega)) ?_
  refine ev_putI d_Ma_open_87 rfl lk_Ma_61 fp_Ma_7 (Or.inl rfl) lx_34 rfl ?_
  exact ev_retV d_Ma_open_90 rfl
/-- open does one step -/
theorem c_Ma_open_s (d : Nat) {M M1 : g_M} (hP : r_P M) {n t r : Nat} {K : List (Int × Nat)} {H : List u_F} {B : Nat → Nat → u_F} {st bu : Nat} (hM : u_Cs M M1 (K, H, B, st, bu)) (hok : u_ok M n (((t : Int), r + 1) :: K, H, B, st, bu)) : ConR y_Ma_open w_Ma_open (g_rm (d + 1)) LX M1 [g_r 34, g_i (t : Int), g_i (r : Int)] LX (fun M2 v2 => v2 = none ∧ (u_st M (((t : Int), r + 1) :: K, H, B, st, bu)).2 = false ∧ u_Cs M M2 (u_st M (((t : Int), r + 1) :: K, H, B, st, bu)).1) := by
  obtain ⟨b1, b2, b3, b4, b5, b6⟩ := u_ok_t hP hok
  have hT := hP.2.2.1.2.1
  obtain ⟨F, hF, m1, m2, m3, m4, m5, m6, m7, m8, m9, m10⟩ := hM
  simp only at hF m4 m5 m6 m7 m8
  obtain ⟨y, e, hy, hv, hno⟩ | ⟨f, w, e, -⟩ | ⟨c, w, e, -⟩ := b6
  · have e1 : t = y := by omega
    subst e1
    obtain ⟨q1, q2, q3, q4, q5, -, -⟩ := hT.2.2 t hy
    obtain ⟨r1, -⟩ := hP.2.2.1.2.2.1 t hy
    have hn := hT.2.1
    by_cases h8 : M 52 t < 8
    · obtain ⟨v, hv8⟩ : ∃ v : Nat, M 52 t = v := ⟨(M 52 t).toNat, by omega⟩
      have hg := hv v (by rw [v_l_v hT hy h8, hv8]; exact List.mem_cons_self)
      obtain ⟨c, l, hcl, -⟩ := u_gd_nd hg.1
      obtain ⟨x, hx, hxr⟩ := m6 r (by omega) v c l (by omega) hcl
      have hc := conR_of (c_Ma_open_v d M1 t r v x H.length (by omega) (by rw [m1 10 _ (by decide)]; omega) (by rw [m1 11 _ (by decide)]; omega) (by omega) (by omega) hx m4 (by omega))
      refine hc.mono fun M2 r' ⟨h1, h2⟩ => ?_
      rw [u_st_v hv8 (by omega)]
      have eo : ∀ k b : Nat, k ≠ 42 → ¬ (k = 34 ∧ b = 9) → M2 k b = M1 k b := fun k b hk hk2 => by rw [h1]; simp only [g_up]; rw [if_neg hk2, if_neg (fun h => hk h.1)]
      have ef : ∀ k : Nat, k ≠ 42 → k ≠ 34 → M2 k = M1 k := fun k hk hk2 => funext fun b => eo k b hk (fun h => hk2 h.1)
      have rk : ∀ t x, u_rk M1 t x → u_rk M2 t x := fun t x h => u_rk_cg (M := M1) (M2 := M2) (fun k hk => ef k (by omega) (by omega)) (eo 35 5 (by decide) (by decide)) h
      refine ⟨h2, rfl, F, hF, m1.tr (fun k b hk => eo k b (by omega) (by omega)), u_fm_cg (M := M1) (eo 34 7 (by decide) (by decide)) (fun k hk => ef k (by omega) (by omega)) m2, m3, by rw [h1, g_up_at, List.length_cons]; omega, u_hd_push rk (fun i hi => by rw [h1, g_up_ne (by decide), g_up_nj (by omega)]) (by rw [h1, g_up_ne (by decide), g_up_at]) (rk _ x hxr) m5, u_bc_cg (ef 43 (by decide) (by decide)) rk m6, (eo 34 11 (by decide) (by decide)).trans m7, (eo 35 5 (by decide) (by decide)).trans m8, (eo 34 12 (by decide) (by decide)).trans m9, (eo 34 14 (by decide) (by decide)).trans m10⟩
    · have hh : 1 ≤ M 54 t := by omega
      have hfl : F.length ≤ 1000 := by rw [← u_no_fi hP F m3, hF]; omega
      have hc := conR_of (c_Ma_open_n d M1 t r F.length (by omega) (by rw [m1 10 _ (by decide)]; omega) m2.1 (by omega))
      refine hc.mono fun M2 r' ⟨h1, h2⟩ => ?_
      rw [u_st_n (by omega)]
      have hFm := u_fm_push m2 t r
      rw [← h1] at hFm
      have eo : ∀ k b : Nat, k ≠ 39 → k ≠ 40 → k ≠ 41 → ¬ (k = 34 ∧ b = 7) → M2 k b = M1 k b := fun k b a1 a2 a3 a4 => by rw [h1]; simp only [g_up]; rw [if_neg a4, if_neg (fun h => a3 h.1), if_neg (fun h => a2 h.1), if_neg (fun h => a1 h.1)]
      have ef : ∀ k : Nat, k ≠ 39 → k ≠ 40 → k ≠ 41 → k ≠ 34 → M2 k = M1 k := fun k a1 a2 a3 a4 => funext fun b => eo k b a1 a2 a3 (fun h => a4 h.1)
      have rk : ∀ t x, u_rk M1 t x → u_rk M2 t x := fun t x h => u_rk_cg (M := M1) (M2 := M2) (fun k hk => ef k (by omega) (by omega) (by omega) (by omega)) (eo 35 5 (by decide) (by decide) (by decide) (by decide)) h
      refine ⟨h2, rfl, (t, r, 0) :: F, by rw [u_fi, hF]; rfl, m1.tr (fun k b hk => eo k b (by omega) (by omega) (by omega) (by omega)), hFm, fun e he => ?_, (eo 34 9 (by decide) (by decide) (by decide) (by decide)).trans m4, u_hd_cg rk (fun i hi => by rw [ef 42 (by decide) (by decide) (by decide) (by decide)]) m5, u_bc_cg (ef 43 (by decide) (by decide) (by decide) (by decide)) rk m6, (eo 34 11 (by decide) (by decide) (by decide) (by decide)).trans m7, (eo 35 5 (by decide) (by decide) (by decide) (by decide)).trans m8, (eo 34 12 (by decide) (by decide) (by decide) (by decide)).trans m9, (eo 34 14 (by decide) (by decide) (by decide) (by decide)).trans m10⟩
      rcases List.mem_cons.mp he with rfl | he
      · exact ⟨hy, by show 8 ≤ M 52 t; omega, by show ((0 : Nat) : Int) ≤ q_w M t; omega⟩
      · exact m3 e he
  · omega
  · omega
theorem g_up_ne2 {M : g_M} {k j b q : Nat} {z : Int} (h : k ≠ j) : g_up M j b z k q = M k q := by rw [g_up_ne h]
theorem u_bld {M M1 M2 M3 : g_M} {K : List (Int × Nat)} {F : List (Nat × Nat × Nat)} {H : List u_F} {B : Nat → Nat → u_F} {st bu w : Nat} {t : u_F} (hF : u_fi M F = K) (m1 : u_c M M1) (m2 : u_fm M1 F) (m3 : u_fv M F) (m5 : u_hd M1 H) (m6 : u_bc M1 B) (m7 : M1 34 11 = st) (m9 : M1 34 12 = 0) (m10 : M1 34 14 = 0) (hwl : w ≤ H.length)
    (f1 : ∀ q b : Nat, q ≠ 36 → q ≠ 37 → q ≠ 38 → ¬ (q = 35 ∧ b = 5) → M2 q b = g_up M1 34 9 ((H.length - w : Nat) : Int) q b) (f2 : M2 35 5 = (bu : Int) + 1) (f3 : ∀ t x, u_rk (g_up M1 34 9 ((H.length - w : Nat) : Int)) t x → u_rk M2 t x) (f4 : u_rk M2 t (100 + bu)) (e : M3 = g_up (g_up M2 42 (H.length - w) ((100 + bu : Nat) : Int)) 34 9 (((H.length - w : Nat) : Int) + 1)) : u_Cs M M3 (K, t :: H.drop w, B, st, bu + 1) := by
  have g1 : ∀ q b : Nat, q ≠ 36 → q ≠ 37 → q ≠ 38 → ¬ (q = 35 ∧ b = 5) → ¬ (q = 34 ∧ b = 9) → M2 q b = M1 q b := fun q b a1 a2 a3 a4 a5 => by
    rw [f1 q b a1 a2 a3 a4]
    simp only [g_up]
    rw [if_neg a5]
  have e3 : ∀ q b : Nat, q ≠ 42 → ¬ (q = 34 ∧ b = 9) → M3 q b = M2 q b := fun q b a1 a2 => by
    rw [e]
    simp only [g_up]
    rw [if_neg a2, if_neg (fun h => a1 h.1)]
  have ef : ∀ k : Nat, k ≠ 34 → k ≠ 35 → k ≠ 36 → k ≠ 37 → k ≠ 38 → k ≠ 42 → M3 k = M1 k := fun k a1 a2 a3 a4 a5 a6 => funext fun b => by
    rw [e3 k b a6 (fun h => a1 h.1), g1 k b a3 a4 a5 (fun h => a2 h.1) (fun h => a1 h.1)]
  have e34 : ∀ b : Nat, b ≠ 9 → M3 34 b = M1 34 b := fun b hb => by rw [e3 34 b (by decide) (fun h => hb h.2), g1 34 b (by decide) (by decide) (by decide) (by omega) (fun h => hb h.2)]
  have r1 : ∀ t x, u_rk M1 t x → u_rk (g_up M1 34 9 ((H.length - w : Nat) : Int)) t x := fun t x h => u_rk_cg (M := M1) (M2 := g_up M1 34 9 ((H.length - w : Nat) : Int)) (fun k hk => g_up_ne (by omega)) (g_up_ne2 (by decide)) h
  have r3 : ∀ t x, u_rk M2 t x → u_rk M3 t x := fun t x h => u_rk_cg (M := M2) (M2 := M3) (fun k hk => funext fun b => e3 k b (by omega) (by omega)) (e3 35 5 (by decide) (by decide)) h
  have r : ∀ t x, u_rk M1 t x → u_rk M3 t x := fun t x h => r3 t x (f3 t x (r1 t x h))
  have hl : (H.drop w).length = H.length - w := List.length_drop
  refine ⟨F, hF, m1.tr (fun k b hk => by rw [ef k (by omega) (by omega) (by omega) (by omega) (by omega) (by omega)]), u_fm_cg (M := M1) (e34 7 (by decide)) (fun k hk => ef k (by omega) (by omega) (by omega) (by omega) (by omega) (by omega)) m2, m3, ?_, ?_, u_bc_cg (ef 43 (by decide) (by decide) (by decide) (by decide) (by decide) (by decide)) r m6, (e34 11 (by decide)).trans m7, by rw [e3 35 5 (by decide) (by decide), f2]; rfl, (e34 12 (by decide)).trans m9, (e34 14 (by decide)).trans m10⟩
  · show M3 34 9 = (((t :: H.drop w).length : Nat) : Int)
    rw [e, g_up_at, List.length_cons, hl]
    omega
  · refine u_hd_push (M := M1) r (fun i hi => ?_) ?_ (r3 t _ f4) (u_hd_drop m5 w)
    · rw [e, g_up_ne (by decide), g_up_nj (by omega), g1 42 i (by decide) (by decide) (by decide) (by omega) (by omega)]
    · rw [e, g_up_ne (by decide), hl, g_up_at]
theorem c_Ma_build (d : Nat) (M : g_M) (M1 : g_M) (n c w fr st bu : Nat) (K : List (Int × Nat)) (H : List u_F) (B : Nat → Nat → u_F) (hP : r_P M) (hM : u_Cs M M1 (K, H, B, st, bu)) (hok : u_ok M n ((-1 - (c : Int), fr) :: K, H, B, st, bu)) (hc8 : c < 8) (hw47 : M 47 c = w) : ConR y_Ma_build w_Ma_build (g_rm (d + 4)) LX M1 [g_r 34, g_i (c : Int), g_i (w : Int)] LX (fun M2 v2 => v2 = none ∧ (((u_st M ((-1 - (c : Int), fr) :: K, H, B, st, bu)).2 = true ∧ u_Ce M M2 (u_st M ((-1 - (c : Int), fr) :: K, H, B, st, bu)).1.2.2.2.1) ∨ ((u_st M ((-1 - (c : Int), fr) :: K, H, B, st, bu)).2 = false ∧ u_Cs M M2 (u_st M ((-1 - (c : Int), fr) :: K, H, B, st, bu)).1))) := by
  refine con_ofR (av := [g_r 34, g_i (c : Int), g_i (w : Int)]) (ls0 := [some (g_r 34), some (g_i (c : Int)), some (g_i (w : Int)), none]) (by decide) rfl (Nat.le_of_ble_eq_true rfl) (g_hls (av := [g_r 34, g_i (c : Int), g_i (w : Int)]) (k := 1)) (fun _ h9 => List.mem_cons_of_mem _ h9) ?_
  obtain ⟨b1, b2, b3, b4, b5, b6⟩ := u_ok_t hP hok
  obtain ⟨F, hF, m1, m2, m3, m4, m5, m6, m7, m8, m9, m10⟩ := hM
  simp only at hF m4 m5 m6 m7 m8
  have b7 : w ≤ 3 ∧ w ≤ H.length ∧ M 3 c = w := by
    obtain ⟨y, e, -⟩ | ⟨f, w', e, -⟩ | ⟨c', w', e, e0, e1, e2, e3, e4, -⟩ := b6
    · omega
    · omega
    · have ec : c = c' := by omega
      subst ec
      exact ⟨by omega, by omega, by rw [(r_P_47 hP e0).2.2]; exact hw47⟩
  obtain ⟨hw3, hwl, hw⟩ := b7
  refine ev_aload_n (i := 0) d_Ma_build_0 rfl rfl rfl ?_
  refine ev_getR d_Ma_build_1 rfl lk_Ma_28 lx_34 rfl ?_
  refine ev_callV (As := []) d_Ma_build_4 rfl cl_Ma_118 ((c_Va_isFull (d + 3) M1 bu m8)) (g_hR (by decide)) g_h0 lx_35 rfl rfl (Nat.le_of_ble_eq_true rfl) rfl rfl ?_
  refine ev_bne (tgt := 18) d_Ma_build_7 (by decide) rfl (fun h600 => ?_) (fun h600 => ?_)
  · have e600 : bu = 600 := by omega
    subst e600
    refine ev_aload_n (i := 0) d_Ma_build_18 rfl rfl rfl ?_
    refine ev_iconst d_Ma_build_19 rfl ⟨by decide, by decide⟩ ?_
    refine ev_putI d_Ma_build_20 rfl lk_Ma_67 fp_Ma_12 (Or.inr ⟨rfl, by omega⟩) lx_34 rfl ?_
    exact ev_retVR d_Ma_build_23 (⟨rfl, Or.inl ⟨by rw [u_st_m0 hc8], by rw [u_st_m0 hc8]; exact u_Ms_e ⟨m1, m2, m3, m4, m5, m6, m7, m8, m9, m10⟩⟩⟩)
  · refine ev_aload_n (i := 0) d_Ma_build_10 rfl rfl rfl ?_
    refine ev_getI (z := (H.length : Int)) d_Ma_build_11 rfl lk_Ma_64 lx_34 rfl (m4) ?_
    refine ev_iload_n (i := 2) d_Ma_build_14 rfl rfl rfl ?_
    refine ev_icmp_ge_t (tgt := 24) d_Ma_build_15 (by decide) (by omega) ?_
    refine ev_aload_n (i := 0) d_Ma_build_24 rfl rfl rfl ?_
    refine ev_dup d_Ma_build_25 rfl rfl ?_
    refine ev_getI (z := (H.length : Int)) d_Ma_build_26 rfl lk_Ma_64 lx_34 rfl (m4) ?_
    refine ev_iload_n (i := 2) d_Ma_build_29 rfl rfl rfl ?_
    refine ev_isub (z := ((H.length - w : Nat) : Int)) d_Ma_build_30 rfl (by rw [g_w_id (by unfold g_rg; omega)]; omega) ?_
    refine ev_putI d_Ma_build_31 rfl lk_Ma_64 fp_Ma_9 (Or.inl rfl) lx_34 rfl ?_
    refine ev_aload_n (i := 0) d_Ma_build_34 rfl rfl rfl ?_
    refine ev_getR d_Ma_build_35 rfl lk_Ma_28 lx_34 rfl ?_
    refine ev_iload_n (i := 1) d_Ma_build_38 rfl rfl rfl ?_
    refine ev_aload_n (i := 0) d_Ma_build_39 rfl rfl rfl ?_
    refine ev_getR d_Ma_build_40 rfl lk_Ma_42 lx_34 rfl ?_
    refine ev_aload_n (i := 0) d_Ma_build_43 rfl rfl rfl ?_
    refine ev_getI (z := ((H.length - w : Nat) : Int)) d_Ma_build_44 rfl lk_Ma_64 lx_34 rfl (g_up_at _ _ _ _) ?_
    refine ev_callVR (As := [g_i (c : Int), g_r 42, g_i (((H.length - w : Nat) : Int))]) d_Ma_build_47 rfl cl_Ma_122 (c_Va_add d (g_up M1 34 9 ((H.length - w : Nat) : Int)) H c w bu (u_hd_cg (M := M1) (M2 := (g_up M1 34 9 ((H.length - w : Nat) : Int))) (fun t x h => u_rk_cg (M := M1) (M2 := (g_up M1 34 9 ((H.length - w : Nat) : Int))) (fun k hk => g_up_ne (by omega)) (g_up_ne2 (by decide)) h) (fun i hi => by rw [g_up_ne (by decide)]) m5) hc8 hwl (by omega) hw3 (by rw [g_up_ne (by decide), m1 3 c (by decide)]; exact hw) (by rw [g_up_ne (by decide)]; exact m8) (by omega) (fun i a hi => (hok.2.2.1 a (List.mem_of_getElem? hi)).2)) (g_hR (by decide)) g_h0 lx_35 rfl rfl (Nat.le_of_ble_eq_true rfl) rfl rfl (fun M2 v9 g9 => ?_)
    obtain ⟨rfl, f1, f2, f3, f4, f5⟩ := g9
    have hcM2 : u_c M M2 := (m1.tr (u_c_up M1 (k := 34) (by decide) 9 _)).tr (fun k b hk => f1 k b (by omega) (by omega) (by omega) (by omega))
    refine ev_istore_n (i := 3) d_Ma_build_50 rfl rfl (by decide) rfl ?_
    refine ev_aload_n (i := 0) d_Ma_build_51 rfl rfl rfl ?_
    refine ev_getR d_Ma_build_52 rfl lk_Ma_28 lx_34 rfl ?_
    refine ev_iload_n (i := 3) d_Ma_build_55 rfl rfl rfl ?_
    refine ev_callV (As := [g_i ((100 + bu : Nat) : Int)]) d_Ma_build_56 rfl cl_Ma_126 ((c_Va_size (d + 2) M2 (100 + bu) (by omega)).eqr (b := ((u_sz (.tag c (u_ls (H.take w).reverse)) : Nat) : Int)) (f5)) (g_hR (by decide)) g_h0 lx_35 rfl rfl (Nat.le_of_ble_eq_true rfl) rfl rfl ?_
    refine ev_bipush d_Ma_build_59 rfl (by decide +kernel) ⟨by decide, by decide⟩ ?_
    refine ev_icmp_le (tgt := 70) d_Ma_build_61 (by decide) rfl (fun h60 => ?_) (fun h60 => ?_)
    · refine ev_aload_n (i := 0) d_Ma_build_70 rfl rfl rfl ?_
      refine ev_iload_n (i := 3) d_Ma_build_71 rfl rfl rfl ?_
      refine ev_callV (As := [g_i ((100 + bu : Nat) : Int)]) d_Ma_build_72 rfl cl_Ma_81 ((c_Ma_hold (d + 3) M2 (H.length - w) ((100 + bu : Nat) : Int) (by rw [f1 34 9 (by decide) (by decide) (by decide) (by decide), g_up_at]) (by omega))) (g_hR (by decide)) g_h0 lx_34 rfl rfl (Nat.le_of_ble_eq_true rfl) rfl rfl ?_
      exact ev_retVR d_Ma_build_75 (⟨rfl, Or.inr ⟨by rw [u_st_m hc8 (by omega) hw47 (by omega)], by rw [u_st_m hc8 (by omega) hw47 (by omega)]; exact u_bld hF m1 m2 m3 m5 m6 m7 m9 m10 hwl f1 f2 f3 f4 rfl⟩⟩)
    · refine ev_aload_n (i := 0) d_Ma_build_64 rfl rfl rfl ?_
      refine ev_iconst d_Ma_build_65 rfl ⟨by decide, by decide⟩ ?_
      refine ev_putI d_Ma_build_66 rfl lk_Ma_67 fp_Ma_12 (Or.inr ⟨rfl, by omega⟩) lx_34 rfl ?_
      exact ev_retVR d_Ma_build_69 (⟨rfl, Or.inl ⟨by rw [u_st_mb hc8 (by omega) hw47 (by omega)], by rw [u_st_mb hc8 (by omega) hw47 (by omega)]; exact ⟨g_up_at _ _ _ _, hcM2.tr (u_c_up M2 (k := 34) (by decide) 12 1), by rw [g_up_nj (by decide), f1 34 11 (by decide) (by decide) (by decide) (by decide), g_up_nj (by decide)]; exact m7, by rw [g_up_nj (by decide), f1 34 14 (by decide) (by decide) (by decide) (by decide), g_up_nj (by decide)]; exact m10⟩⟩⟩)
