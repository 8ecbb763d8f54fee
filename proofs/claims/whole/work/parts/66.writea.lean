theorem u_gd_rp {mk wt : Nat → Int} {pt : Nat → Nat → Int} {wd wd' : Nat → Int} {ok : Nat → Prop} : ∀ (t : u_F) (b : Bool) (c i x : Nat), (b = false → mk x = (c : Int)) → u_gd wd t b c i → u_rp mk wt pt wd' ok t b x i → u_gd wd' t b c i
  | .tag c' l, true, c, i, x, _, h, h2 => ⟨h.1, u_gd_rp l false c' 0 x (fun _ => h2.2.1) h.2 h2.2.2.2⟩
  | .append a l, false, c, i, x, hc, h, h2 => by
    obtain ⟨⟨y, g1, g2⟩, g3, g4⟩ := h2
    exact ⟨u_gd_rp a true 0 0 y (fun h9 => absurd h9 (by decide)) h.1 g2, h.2.1, u_gd_rp l false c (i + 1) x hc h.2.2 g4⟩
  | .nil, false, c, i, x, hc, h, h2 => by
    have h3 : wd' (mk x).toNat = (i : Int) := h2
    rw [hc rfl, Int.toNat_natCast] at h3
    exact h3
  | .tag _ _, false, _, _, _, _, h, _ => absurd h id
  | .append _ _, true, _, _, _, _, h, _ => absurd h id
  | .nil, true, _, _, _, _, h, _ => absurd h id
  | .line, b, _, _, _, _, h, _ => by cases b <;> exact absurd h id
  | .align _, b, _, _, _, _, h, _ => by cases b <;> exact absurd h id
  | .text _, b, _, _, _, _, h, _ => by cases b <;> exact absurd h id
  | .nest _ _, b, _, _, _, _, h, _ => by cases b <;> exact absurd h id
  | .group _ _, b, _, _, _, _, h, _ => by cases b <;> exact absurd h id
/-- a closed term stands for its tree -/
theorem u_t_rk {M M1 : g_M} (hP : r_P M) (hc : u_c M M1) : ∀ (t : Nat), u_cl M t → u_rk M1 (u_t M t) t := by
  have hT := hP.2.2.1.2.1
  intro t
  induction t using Nat.strongRecOn with
  | ind t ih =>
    intro h
    obtain ⟨q1, q2, h3, h4, h5, -, -⟩ := hT.2.2 t h.1
    obtain ⟨r1, r2, r3, r4, r5, -⟩ := hP.2.2.1.2.2.1 t h.1
    have hh := u_cl_hd hT h
    have hn := hT.2.1
    have ht := h.1
    have ht100 : t < 100 := by omega
    obtain ⟨c, hcc⟩ : ∃ c : Nat, M 52 t - 8 = c := ⟨(M 52 t - 8).toNat, by omega⟩
    have hs := u_t_sz hT t h.1
    rw [u_t_eq hT h.1, hcc, Int.toNat_natCast] at hs ⊢
    have hl : (q_kids M t).length = (q_w M t).toNat := by rw [q_kids_map, List.length_map, List.length_range]
    have k1 : u_km M1 t = c := by
      unfold u_km
      rw [if_pos ht100, hc 11 t (by decide)]
      omega
    refine ⟨Or.inl ht100, k1, ?_, u_rp_ls _ 0 (fun k a hk => ?_) (by rw [List.length_map, hl]; omega) ?_⟩
    · unfold u_kw
      rw [if_pos ht100, hc 15 t (by decide), r5, ← hs]
      rfl
    · rw [List.getElem?_map] at hk
      have hk2 : k < (q_kids M t).length := by
        cases hk9 : (q_kids M t)[k]? with
        | none => rw [hk9] at hk; simp at hk
        | some y => exact (List.getElem?_eq_some_iff.mp hk9).1
      have hkw : (k : Int) < q_w M t := by omega
      obtain ⟨y, hy⟩ : ∃ y : Nat, M 53 (3 * t + k) = y := ⟨(M 53 (3 * t + k)).toNat, by have := h5 k hkw; omega⟩
      have ek : (q_kids M t)[k]? = some y := by
        rw [List.getElem?_eq_getElem hk2]
        simp only [q_kids_map, List.getElem_map, List.getElem_range]
        rw [hy]
        rfl
      rw [ek] at hk
      have ea : u_t M y = a := by simpa using hk
      subst ea
      have hyk : y ∈ q_kids M t := List.mem_of_getElem? ek
      refine ⟨y, ?_, ih y (q_kid_lt hT h.1 y hyk) (u_cl_kid hT h y hyk)⟩
      unfold u_kp
      rw [if_pos ht100, Nat.zero_add, hc 13 _ (by decide), (r3 k hkw).1, hy]
    · rw [k1, Int.toNat_natCast, hc 3 c (by decide), (r_P_47 hP (c := c) (by omega)).2.2, List.length_map, hl, Nat.zero_add, q_w_c hh.1 hh.2, hcc, Int.toNat_natCast]
      rw [q_w_c hh.1 hh.2, hcc, Int.toNat_natCast] at h3
      omega
/-- what a write of the class changes -/
def u_wk (M M2 : g_M) : Prop := ∀ k b : Nat, k ≠ 42 → k ≠ 44 → ¬ (k = 34 ∧ b = 14) → M2 k b = M k b
theorem u_wk.rf (M : g_M) : u_wk M M := fun _ _ _ _ _ => rfl
theorem u_wk.tr {M M1 M2 : g_M} (h : u_wk M M1) (h2 : u_wk M1 M2) : u_wk M M2 := fun k b h3 h4 h5 => (h2 k b h3 h4 h5).trans (h k b h3 h4 h5)
theorem u_wk.fn {M M2 : g_M} (h : u_wk M M2) {k : Nat} (h1 : k ≠ 42) (h2 : k ≠ 44) (h3 : k ≠ 34) : M2 k = M k := funext fun b => h k b h1 h2 (fun h9 => h3 h9.1)
theorem u_wk_42 (M : g_M) (n : Nat) (z : Int) : u_wk M (g_up M 42 n z) := fun k b h1 _ _ => by simp only [g_up]; rw [if_neg (fun h9 => h1 h9.1)]
theorem u_wk_44 (M : g_M) (n : Nat) (z : Int) : u_wk M (g_up M 44 n z) := fun k b _ h2 _ => by simp only [g_up]; rw [if_neg (fun h9 => h2 h9.1)]
theorem u_wk_14 (M : g_M) (z : Int) : u_wk M (g_up M 34 14 z) := fun k b _ _ h3 => by simp only [g_up]; rw [if_neg h3]
theorem u_wk.c {M M2 : g_M} (h : u_wk M M2) : u_c M M2 := fun k b hk => h k b (by omega) (by omega) (by omega)
def u_sk (M : g_M) (S : List Nat) : Prop := ∀ i x : Nat, S[i]? = some x → M 42 (S.length - 1 - i) = x
theorem u_sk_push {M : g_M} {S : List Nat} (x : Nat) (h : u_sk M S) : u_sk (g_up M 42 S.length (x : Int)) (x :: S) := by
  intro i z hz
  match i with
  | 0 =>
    have e : x = z := by simpa using hz
    subst e
    rw [List.length_cons, show S.length + 1 - 1 - 0 = S.length by omega, g_up_at]
  | i + 1 =>
    have hz' : S[i]? = some z := by simpa using hz
    have hl : i < S.length := (List.getElem?_eq_some_iff.mp hz').1
    rw [List.length_cons, show S.length + 1 - 1 - (i + 1) = S.length - 1 - i by omega, g_up_nj (by omega)]
    exact h i z hz'
theorem u_sk_pop {M : g_M} {S : List Nat} {x : Nat} (h : u_sk M (x :: S)) : M 42 S.length = x ∧ u_sk M S := by
  refine ⟨by simpa using h 0 x rfl, fun i z hz => ?_⟩
  have hl : i < S.length := (List.getElem?_eq_some_iff.mp hz).1
  have := h (i + 1) z (by simpa using hz)
  rw [List.length_cons, show S.length + 1 - 1 - (i + 1) = S.length - 1 - i by omega] at this
  exact this
theorem u_sk_cg {M M2 : g_M} {S : List Nat} (h : M2 42 = M 42) (hs : u_sk M S) : u_sk M2 S := by
  unfold u_sk at hs ⊢
  rw [h]
  exact hs
theorem c_Ma_writeAnswer (d : Nat) (M1 : g_M) (x bu : Nat) (t : u_F) (hbu : M1 35 5 = bu) (hb6 : bu ≤ 600) (h14 : M1 34 14 = 0) (ht : u_rk M1 t x) (hg : u_gd (M1 3) t true 0 0) (h60 : u_sz t ≤ 60) : ConR y_Ma_writeAnswer w_Ma_writeAnswer (g_rm (d + 3)) LX M1 [g_r 34, g_i (x : Int)] LX (fun M2 v2 => v2 = none ∧ u_wk M1 M2 ∧ M2 34 14 = (u_sz t : Nat) ∧ ∀ i a : Nat, (u_pr t)[i]? = some a → M2 44 i = a) := by
  refine con_ofR (av := [g_r 34, g_i (x : Int)]) (ls0 := [some (g_r 34), some (g_i (x : Int)), none, none, none]) (by decide) rfl (Nat.le_of_ble_eq_true rfl) (g_hls (av := [g_r 34, g_i (x : Int)]) (k := 3)) (fun _ h9 => List.mem_cons_of_mem _ h9) ?_
  refine ev_aload_n (i := 0) d_Ma_writeAnswer_0 rfl rfl rfl ?_
  refine ev_getR d_Ma_writeAnswer_1 rfl lk_Ma_42 lx_34 rfl ?_
  refine ev_iconst d_Ma_writeAnswer_4 rfl ⟨by decide, by decide⟩ ?_
  refine ev_iload_n (i := 1) d_Ma_writeAnswer_5 rfl rfl rfl ?_
  refine ev_iastore d_Ma_writeAnswer_6 rfl lx_42 (by omega) (by omega) ?_
  rw [show Int.toNat (0) = 0 by rfl]
  refine ev_iconst d_Ma_writeAnswer_7 rfl ⟨by decide, by decide⟩ ?_
  refine ev_istore_n (i := 2) d_Ma_writeAnswer_8 rfl rfl (by decide) rfl ?_
  refine ev_wh (fun n ls1 M2 => ∃ (A S : List Nat) (F : List u_F), n = (F.flatMap u_pr).length ∧ ls1 = [some (g_r 34), some (g_i (x : Int)), some (g_i (S.length : Int)), none, none] ∧ u_wk M1 M2 ∧ u_sk M2 S ∧ u_ss (u_rk M1) S F ∧ (∀ f ∈ F, u_gd (M1 3) f true 0 0) ∧ A ++ F.flatMap u_pr = u_pr t ∧ M2 34 14 = A.length ∧ ∀ i a : Nat, A[i]? = some a → M2 44 i = a) ?_ (n := (u_pr t).length) (⟨[], [x], [t], by simp, rfl, u_wk_42 M1 0 _, fun i z hz => by match i, hz with | 0, hz => (have e : x = z := by simpa using hz); subst e; exact g_up_at _ _ _ _, ⟨ht, trivial⟩, fun f hf => by rw [List.mem_singleton.mp hf]; exact hg, by simp, by rw [g_up_ne (by decide)]; exact h14, fun i a hi => by simp at hi⟩)
  intro n ls1 M2 hP0 ih
  obtain ⟨A, S, F, hn, rfl, hw2, hS, hs, hFg, hA, h42, hAn⟩ := hP0
  have hAl : A.length + (F.flatMap u_pr).length ≤ 60 := by rw [← List.length_append, hA, u_pr_len]; exact h60
  have hSF := u_ss_len S F hs
  have hFl := u_pr_pos F hFg
  refine ev_iload_n (i := 2) d_Ma_writeAnswer_9 rfl rfl rfl ?_
  refine ev_if_le (tgt := 104) d_Ma_writeAnswer_10 (by decide) rfl (fun hz => ?_) (fun hz => ?_)
  · have eS : S = [] := List.eq_nil_of_length_eq_zero (by omega)
    subst eS
    have eF : F = [] := List.eq_nil_of_length_eq_zero (by rw [← hSF]; rfl)
    subst eF
    rw [List.flatMap_nil, List.append_nil] at hA
    subst hA
    exact ev_retVR d_Ma_writeAnswer_104 (⟨rfl, hw2, by rw [h42, u_pr_len], hAn⟩)
  · obtain ⟨y, S, rfl⟩ : ∃ y S1, S = y :: S1 := by
      cases S with
      | nil => simp at hz
      | cons y S1 => exact ⟨y, S1, rfl⟩
    obtain ⟨p1, p2⟩ := u_sk_pop hS
    obtain ⟨f, F, rfl, hyr, hss⟩ := u_ss_c hs
    have hx7 := u_rk_x hyr hbu hb6
    obtain ⟨c, l, rfl, hgl, hc8⟩ := u_gd_nd (hFg f List.mem_cons_self)
    obtain ⟨hok, hmk, -, hrow⟩ := hyr
    obtain ⟨g1, g2, g3, g4, g5⟩ := u_gd_ks 3 l 0 hgl rfl
    obtain ⟨w, hw⟩ : ∃ w : Nat, (u_ks l).length = w := ⟨_, rfl⟩
    rw [hw, Nat.add_zero] at g1 g2
    rw [hw] at g5
    rw [List.flatMap_cons, List.length_append, u_pr, List.length_cons] at hAl
    rw [List.flatMap_cons, u_pr, List.cons_append] at hA
    rw [List.length_cons, List.length_cons] at hSF
    have hFl2 := u_pr_pos F (fun f hf => hFg f (List.mem_cons_of_mem _ hf))
    refine ev_aload_n (i := 0) d_Ma_writeAnswer_13 rfl rfl rfl ?_
    refine ev_getI (z := (A.length : Int)) d_Ma_writeAnswer_14 rfl lk_Ma_55 lx_34 rfl (h42) ?_
    refine ev_bipush d_Ma_writeAnswer_17 rfl (by decide +kernel) ⟨by decide, by decide⟩ ?_
    refine ev_icmp_ge_f (tgt := 104) d_Ma_writeAnswer_19 (by decide) rfl (by omega) ?_
    refine ev_iinc (z := (S.length : Int)) d_Ma_writeAnswer_22 rfl rfl (by decide) (by rw [g_w_id (by unfold g_rg; rw [List.length_cons]; omega), List.length_cons]; omega) rfl ?_
    refine ev_aload_n (i := 0) d_Ma_writeAnswer_25 rfl rfl rfl ?_
    refine ev_getR d_Ma_writeAnswer_26 rfl lk_Ma_42 lx_34 rfl ?_
    refine ev_iload_n (i := 2) d_Ma_writeAnswer_29 rfl rfl rfl ?_
    refine ev_iaload (z := (y : Int)) d_Ma_writeAnswer_30 rfl lx_42 (by omega) (by omega) (by rw [Int.toNat_natCast]; exact p1) ?_
    refine ev_istore_n (i := 3) d_Ma_writeAnswer_31 rfl rfl (by decide) rfl ?_
    refine ev_aload_n (i := 0) d_Ma_writeAnswer_32 rfl rfl rfl ?_
    refine ev_getR d_Ma_writeAnswer_33 rfl lk_Ma_48 lx_34 rfl ?_
    refine ev_aload_n (i := 0) d_Ma_writeAnswer_36 rfl rfl rfl ?_
    refine ev_getI (z := (A.length : Int)) d_Ma_writeAnswer_37 rfl lk_Ma_55 lx_34 rfl (h42) ?_
    refine ev_aload_n (i := 0) d_Ma_writeAnswer_40 rfl rfl rfl ?_
    refine ev_getR d_Ma_writeAnswer_41 rfl lk_Ma_28 lx_34 rfl ?_
    refine ev_iload_n (i := 3) d_Ma_writeAnswer_44 rfl rfl rfl ?_
    refine ev_callV (As := [g_i ((y : Int))]) d_Ma_writeAnswer_45 rfl cl_Ma_150 ((c_Va_maker (d + 1) M2 y hx7).eqr (b := (c : Int)) (by unfold u_km; unfold u_km at hmk; rw [hw2.fn (k := 11) (by decide) (by decide) (by decide), hw2.fn (k := 36) (by decide) (by decide) (by decide)]; exact hmk)) (g_hR (by decide)) g_h0 lx_35 rfl rfl (Nat.le_of_ble_eq_true rfl) rfl rfl ?_
    refine ev_iastore d_Ma_writeAnswer_48 rfl lx_44 (by omega) (by omega) ?_
    rw [show Int.toNat (((A.length : Int))) = A.length by rfl]
    refine ev_aload_n (i := 0) d_Ma_writeAnswer_49 rfl rfl rfl ?_
    refine ev_dup d_Ma_writeAnswer_50 rfl rfl ?_
    refine ev_getI (z := (A.length : Int)) d_Ma_writeAnswer_51 rfl lk_Ma_55 lx_34 rfl (by rw [g_up_ne (by decide)]; exact h42) ?_
    refine ev_iconst d_Ma_writeAnswer_54 rfl ⟨by decide, by decide⟩ ?_
    refine ev_iadd (z := (A.length : Int) + 1) d_Ma_writeAnswer_55 rfl (g_w_id (by unfold g_rg; omega)) ?_
    refine ev_putI d_Ma_writeAnswer_56 rfl lk_Ma_55 fp_Ma_14 (Or.inl rfl) lx_34 rfl ?_
    refine ev_aload_n (i := 0) d_Ma_writeAnswer_59 rfl rfl rfl ?_
    refine ev_getR d_Ma_writeAnswer_60 rfl lk_Ma_28 lx_34 rfl ?_
    refine ev_iload_n (i := 3) d_Ma_writeAnswer_63 rfl rfl rfl ?_
    refine ev_callV (As := [g_i ((y : Int))]) d_Ma_writeAnswer_64 rfl cl_Ma_154 ((c_Va_width (d + 0) (g_up (g_up M2 44 A.length (c : Int)) 34 14 ((A.length : Int) + 1)) y c w hx7 (by unfold u_km; unfold u_km at hmk; rw [g_up_ne (by decide), g_up_ne (by decide), g_up_ne (by decide), g_up_ne (by decide), hw2.fn (k := 11) (by decide) (by decide) (by decide), hw2.fn (k := 36) (by decide) (by decide) (by decide)]; exact hmk) hc8 (by rw [g_up_ne (by decide), g_up_ne (by decide), hw2.fn (k := 3) (by decide) (by decide) (by decide)]; exact g1.symm))) (g_hR (by decide)) g_h0 lx_35 rfl rfl (Nat.le_of_ble_eq_true rfl) rfl rfl ?_
    refine ev_iconst d_Ma_writeAnswer_67 rfl ⟨by decide, by decide⟩ ?_
    refine ev_isub (z := (w : Int) - 1) d_Ma_writeAnswer_68 rfl (g_w_id (by unfold g_rg; omega)) ?_
    refine ev_istore (i := 4) d_Ma_writeAnswer_69 rfl (by decide) rfl ?_
    refine ev_wh (fun n ls1 M3 => ∃ (k : Nat) (S2 : List Nat), k ≤ w ∧ n = k ∧ ls1 = [some (g_r 34), some (g_i (x : Int)), some (g_i (S2.length : Int)), some (g_i (y : Int)), some (g_i ((k : Int) - 1))] ∧ u_wk (g_up (g_up M2 44 A.length (c : Int)) 34 14 ((A.length : Int) + 1)) M3 ∧ u_sk M3 S2 ∧ u_ss (u_rk M1) S2 ((u_ks l).drop k ++ F) ∧ M3 34 14 = (A.length : Int) + 1 ∧ M3 44 = (g_up (g_up M2 44 A.length (c : Int)) 34 14 ((A.length : Int) + 1)) 44) ?_ (n := w) (⟨w, S, Nat.le_refl _, rfl, rfl, u_wk.rf _, u_sk_cg (M := M2) (by rw [g_up_ne (by decide), g_up_ne (by decide)]) p2, by rw [List.drop_of_length_le (by omega)]; exact hss, g_up_at _ _ _ _, rfl⟩)
    intro n ls1 M3 hP3 ih2
    obtain ⟨k, S2, hk, hn3, rfl, hq3, hS3, hs3, h34, h44⟩ := hP3
    have hS2l : S2.length ≤ 63 := by rw [u_ss_len _ _ hs3, List.length_append, List.length_drop]; omega
    refine ev_iload (i := 4) d_Ma_writeAnswer_71 rfl rfl ?_
    refine ev_if_lt (tgt := 101) d_Ma_writeAnswer_73 (by decide) rfl (fun hz2 => ?_) (fun hz2 => ?_)
    · refine ev_goto (tgt := 9) d_Ma_writeAnswer_101 (by decide) ?_
      have e0 : k = 0 := by omega
      subst e0
      rw [List.drop_zero] at hs3
      exact ev_le (ih (((u_ks l ++ F).flatMap u_pr).length) [some (g_r 34), some (g_i (x : Int)), some (g_i (S2.length : Int)), none, none] M3 (by rw [hn, List.flatMap_cons, List.flatMap_append, List.length_append, List.length_append, u_pr, g3, List.length_cons]; omega) ⟨A ++ [c], S2, u_ks l ++ F, rfl, rfl, hw2.tr (((u_wk_44 M2 _ _).tr (u_wk_14 _ _)).tr hq3), hS3, hs3, fun f hf => by rcases List.mem_append.mp hf with hf | hf; exact g4 f hf; exact hFg f (List.mem_cons_of_mem _ hf), by rw [List.flatMap_append, ← g3]; exact u_A_s hA, by rw [h34, List.length_append]; rfl, by rw [h44]; exact u_an hAn c (by rw [g_up_ne (by decide), g_up_at]) (fun i hi => by rw [g_up_ne (by decide), g_up_nj (by omega)])⟩) rfl ⟨rfl, rfl, rfl, trivial⟩
    · obtain ⟨k, rfl⟩ : ∃ k9, k = k9 + 1 := ⟨k - 1, by omega⟩
      obtain ⟨z, hz3, hzr⟩ := u_rp_ch k l y 0 hrow (by show ((0 + k : Nat) : Int) < M1 3 (u_km M1 y).toNat; rw [hmk, Int.toNat_natCast, ← g1]; omega)
      rw [Nat.zero_add] at hz3
      have hdk : (u_ks l).drop k ++ F = u_ch l k :: ((u_ks l).drop (k + 1) ++ F) := by
        have h9 := g5 k (by omega)
        obtain ⟨hl9, e9⟩ := List.getElem?_eq_some_iff.mp h9
        rw [List.drop_eq_getElem_cons hl9, e9, List.cons_append]
      refine ev_aload_n (i := 0) d_Ma_writeAnswer_76 rfl rfl rfl ?_
      refine ev_getR d_Ma_writeAnswer_77 rfl lk_Ma_42 lx_34 rfl ?_
      refine ev_iload_n (i := 2) d_Ma_writeAnswer_80 rfl rfl rfl ?_
      refine ev_aload_n (i := 0) d_Ma_writeAnswer_81 rfl rfl rfl ?_
      refine ev_getR d_Ma_writeAnswer_82 rfl lk_Ma_28 lx_34 rfl ?_
      refine ev_iload_n (i := 3) d_Ma_writeAnswer_85 rfl rfl rfl ?_
      refine ev_iload (i := 4) d_Ma_writeAnswer_86 rfl rfl ?_
      have hvp := (c_Va_part (d + 1) M3 y k hx7 (by omega)).eqr (b := (z : Int)) (by unfold u_kp; unfold u_kp at hz3; rw [hq3.fn (k := 13) (by decide) (by decide) (by decide), hq3.fn (k := 37) (by decide) (by decide) (by decide), g_up_ne (by decide), g_up_ne (by decide), g_up_ne (by decide), g_up_ne (by decide), hw2.fn (k := 13) (by decide) (by decide) (by decide), hw2.fn (k := 37) (by decide) (by decide) (by decide)]; exact hz3)
      rw [show (k : Int) = ((k + 1 : Nat) : Int) - 1 by omega] at hvp
      refine ev_callV (As := [g_i (y : Int), g_i (((k + 1 : Nat) : Int) - 1)]) d_Ma_writeAnswer_88 rfl cl_Ma_153 (hvp) (g_hR (by decide)) g_h0 lx_35 rfl rfl (Nat.le_of_ble_eq_true rfl) rfl rfl ?_
      refine ev_iastore d_Ma_writeAnswer_91 rfl lx_42 (by omega) (by omega) ?_
      rw [show Int.toNat ((S2.length : Int)) = S2.length by rfl]
      refine ev_iinc (z := (S2.length : Int) + 1) d_Ma_writeAnswer_92 rfl rfl (by decide) (g_w_id (by unfold g_rg; omega)) rfl ?_
      refine ev_iinc (z := (k : Int) - 1) d_Ma_writeAnswer_95 rfl rfl (by decide) (by rw [g_w_id (by unfold g_rg; omega)]; omega) rfl ?_
      refine ev_goto (tgt := 71) d_Ma_writeAnswer_98 (by decide) ?_
      exact ev_le (ih2 k [some (g_r 34), some (g_i (x : Int)), some (g_i ((z :: S2).length : Int)), some (g_i (y : Int)), some (g_i ((k : Int) - 1))] _ (by omega) ⟨k, z :: S2, by omega, rfl, rfl, hq3.tr (u_wk_42 M3 _ _), u_sk_push z hS3, by rw [hdk]; exact ⟨hzr, hs3⟩, by rw [g_up_ne (by decide)]; exact h34, by rw [g_up_ne (by decide)]; exact h44⟩) rfl ⟨rfl, rfl, congrArg (fun z => some (some (g_i z))) (by rw [List.length_cons]; omega), rfl, congrArg (fun z => some (some (g_i z))) (by omega), trivial⟩
