/-! one step, case by case -/
theorem u_st_v {M : g_M} {t fr : Nat} {K : List (Int × Nat)} {H : List u_F} {B : Nat → Nat → u_F} {st bu v : Nat} (h : M 52 t = v) (h8 : v < 8) : u_st M (((t : Int), fr) :: K, H, B, st, bu) = ((K, B fr v :: H, B, st, bu), false) := by
  rw [u_st, if_pos (by omega), Int.toNat_natCast, if_pos (by omega), h, Int.toNat_natCast]
theorem u_st_n {M : g_M} {t fr : Nat} {K : List (Int × Nat)} {H : List u_F} {B : Nat → Nat → u_F} {st bu : Nat} (h : 8 ≤ M 52 t) : u_st M (((t : Int), fr) :: K, H, B, st, bu) = (((q_kids M t).map (fun y : Nat => ((y : Int), fr)) ++ (u_op M t, fr) :: K, H, B, st, bu), false) := by
  rw [u_st, if_pos (by omega), Int.toNat_natCast, if_neg (by omega)]
theorem u_st_c0 {M : g_M} {f fr : Nat} {K : List (Int × Nat)} {H : List u_F} {B : Nat → Nat → u_F} {bu : Nat} : u_st M ((-11 - (f : Int), fr) :: K, H, B, 200, bu) = (((-11 - (f : Int), fr) :: K, H, B, 200, bu), true) := by
  rw [u_st, if_neg (by omega), if_pos (by omega), if_pos rfl]
theorem u_st_cn {M : g_M} {f fr w m : Nat} {K : List (Int × Nat)} {H : List u_F} {B : Nat → Nat → u_F} {st bu : Nat} {b : Nat → u_F} (hs : st ≠ 200) (hw : M 50 f = w) (hm : M 45 13 = m) (he : u_en M f w (fun k => (H[w - 1 - k]?).getD .nil) (B (st + 1)) m = (none, b)) : u_st M ((-11 - (f : Int), fr) :: K, H, B, st, bu) = ((K, H.drop w, (fun q => if q = st + 1 then b else B q), st + 1, bu), true) := by
  rw [u_st, if_neg (by omega), if_pos (by omega), if_neg hs, show (-11 - (-11 - (f : Int))).toNat = f by omega, hw, hm, Int.toNat_natCast, Int.toNat_natCast, he]
theorem u_st_cs {M : g_M} {f fr w m : Nat} {K : List (Int × Nat)} {H : List u_F} {B : Nat → Nat → u_F} {st bu : Nat} {c : Nat} {b : Nat → u_F} (hs : st ≠ 200) (hw : M 50 f = w) (hm : M 45 13 = m) (he : u_en M f w (fun k => (H[w - 1 - k]?).getD .nil) (B (st + 1)) m = (some c, b)) : u_st M ((-11 - (f : Int), fr) :: K, H, B, st, bu) = (((M 58 c, st + 1) :: K, H.drop w, (fun q => if q = st + 1 then b else B q), st + 1, bu), false) := by
  rw [u_st, if_neg (by omega), if_pos (by omega), if_neg hs, show (-11 - (-11 - (f : Int))).toNat = f by omega, hw, hm, Int.toNat_natCast, Int.toNat_natCast, he]
theorem u_st_m0 {M : g_M} {c fr : Nat} (hc : c < 8) {K : List (Int × Nat)} {H : List u_F} {B : Nat → Nat → u_F} {st : Nat} : u_st M ((-1 - (c : Int), fr) :: K, H, B, st, 600) = (((-1 - (c : Int), fr) :: K, H, B, st, 600), true) := by
  rw [u_st, if_neg (by omega), if_neg (by omega), if_pos rfl]
theorem u_st_mb {M : g_M} {c fr w : Nat} (hc : c < 8) {K : List (Int × Nat)} {H : List u_F} {B : Nat → Nat → u_F} {st bu : Nat} (hb : bu ≠ 600) (hw : M 47 c = w) (h : 60 < u_sz (.tag c (u_ls (H.take w).reverse))) : u_st M ((-1 - (c : Int), fr) :: K, H, B, st, bu) = ((K, H, B, st, bu + 1), true) := by
  rw [u_st, if_neg (by omega), if_neg (by omega), if_neg hb, show (-1 - (-1 - (c : Int))).toNat = c by omega, hw, Int.toNat_natCast, if_pos h]
theorem u_st_m {M : g_M} {c fr w : Nat} (hc : c < 8) {K : List (Int × Nat)} {H : List u_F} {B : Nat → Nat → u_F} {st bu : Nat} (hb : bu ≠ 600) (hw : M 47 c = w) (h : ¬ 60 < u_sz (.tag c (u_ls (H.take w).reverse))) : u_st M ((-1 - (c : Int), fr) :: K, H, B, st, bu) = ((K, .tag c (u_ls (H.take w).reverse) :: H.drop w, B, st, bu + 1), false) := by
  rw [u_st, if_neg (by omega), if_neg (by omega), if_neg hb, show (-1 - (-1 - (c : Int))).toNat = c by omega, hw, Int.toNat_natCast, if_neg h]
/-- what is open at the top -/
theorem u_ok_t {M : g_M} (hP : r_P M) {n fr : Nat} {t : Int} {K : List (Int × Nat)} {H : List u_F} {B : Nat → Nat → u_F} {st bu : Nat} (h : u_ok M n ((t, fr) :: K, H, B, st, bu)) : fr ≤ st ∧ st ≤ 200 ∧ bu ≤ 600 ∧ K.length ≤ 3003 ∧ H.length ≤ 2003 ∧
    ((∃ y : Nat, t = y ∧ (y : Int) < M 45 8 ∧ (∀ v ∈ v_l M y, u_gt M (B fr v)) ∧ u_no K + (M 54 y).toNat ≤ 5 * fr + 1) ∨ (∃ f w : Nat, t = -11 - (f : Int) ∧ (f : Int) < M 45 4 ∧ f < 6 ∧ M 50 f = w ∧ w ≤ 3 ∧ w ≤ H.length ∧ u_no K ≤ 5 * fr) ∨ (∃ c w : Nat, t = -1 - (c : Int) ∧ (c : Int) < M 45 0 ∧ c < 8 ∧ M 47 c = w ∧ w ≤ 3 ∧ w ≤ H.length ∧ u_no K ≤ 5 * fr)) := by
  have hb := u_ok_b hP h
  obtain ⟨h1, h2, h3, h4, h5, h6, h7⟩ := h
  simp only at h1 h2 h3 h4 h5 h6 h7 hb
  obtain ⟨k1, k2, k3⟩ := h1
  rw [List.length_cons] at hb
  have hc8 : M 45 0 ≤ 8 := hP.1.2.2.2.1
  have hf6 : M 45 4 ≤ 6 := hP.2.1.2.2.2.1
  refine ⟨k2, h5, h6, by omega, by omega, ?_⟩
  rcases k1 with ⟨a1, a2, a3, a4, a5⟩ | ⟨a1, a2, a3, a4⟩
  · refine Or.inl ⟨t.toNat, by omega, by omega, a3, a5⟩
  · rw [u_nd, if_neg (by omega)] at h2
    rcases a2 with ⟨b1, b2⟩ | ⟨b1, b2⟩
    · have hf : (((-11 - t).toNat : Nat) : Int) < M 45 4 := by omega
      obtain ⟨w0, w3, -⟩ := r_P_50 hP hf
      have hwd : u_wd M t = (M 50 (-11 - t).toNat).toNat := by rw [u_wd, if_pos b1]
      have := h2.1
      refine Or.inr (Or.inl ⟨(-11 - t).toNat, (M 50 (-11 - t).toNat).toNat, by omega, hf, by omega, by omega, by omega, by omega, a4⟩)
    · have hc : (((-1 - t).toNat : Nat) : Int) < M 45 0 := by omega
      obtain ⟨w0, w3, -⟩ := r_P_47 hP hc
      have hwd : u_wd M t = (M 47 (-1 - t).toNat).toNat := by rw [u_wd, if_neg (by omega)]
      have := h2.1
      refine Or.inr (Or.inr ⟨(-1 - t).toNat, (M 47 (-1 - t).toNat).toNat, by omega, hc, by omega, by omega, by omega, by omega, a4⟩)
theorem u_bk_1 {M1 : g_M} {B : Nat → Nat → u_F} (h : u_bk M1 B) {fr : Nat} (hf : fr ≤ 200) : u_b1 M1 fr (B fr) := fun v c l hv hb => h fr v c l hf hv hb
theorem u_bk_n {M1 M2 : g_M} {B : Nat → Nat → u_F} {st : Nat} {b : Nat → u_F} (h : u_bk M1 B) (hr : ∀ t x, u_rm M1 t x → u_rm M2 t x) (hb : u_b1 M2 (st + 1) b) (h74 : ∀ q : Nat, ¬ (8 * (st + 1) ≤ q ∧ q < 8 * (st + 1) + 8) → M2 74 q = M1 74 q) : u_bk M2 (fun q => if q = st + 1 then b else B q) := by
  intro fr v c l hf hv hx
  by_cases he : fr = st + 1
  · subst he
    simp only [if_true] at hx ⊢
    exact hb v c l hv hx
  · simp only [if_neg he] at hx ⊢
    obtain ⟨x, h1, h2⟩ := h fr v c l hf hv hx
    exact ⟨x, by rw [h74 _ (by omega)]; exact h1, hr _ x h2⟩
/-- evaluate does one step -/
theorem c_Mo_evaluate_s (d : Nat) {M M1 : g_M} (hP : r_P M) {n t fr : Nat} {K : List (Int × Nat)} {H : List u_F} {B : Nat → Nat → u_F} {st bu : Nat} (hM : u_Mo M M1 (K, H, B, st, bu)) (hok : u_ok M n (((t : Int), fr) :: K, H, B, st, bu)) : ConR y_Mo_evaluate w_Mo_evaluate (g_rm (d + 1)) LX M1 [g_r 45, g_i (t : Int), g_i (fr : Int)] LX (fun M2 v2 => v2 = none ∧ (u_st M (((t : Int), fr) :: K, H, B, st, bu)).2 = false ∧ u_Mo M M2 (u_st M (((t : Int), fr) :: K, H, B, st, bu)).1 ∧ M2 45 29 = M1 45 29) := by
  obtain ⟨b1, b2, b3, b4, b5, b6⟩ := u_ok_t hP hok
  have hT := hP.2.2.1.2.1
  obtain ⟨y, e, hy, hv, -⟩ | ⟨f, w, e, -⟩ | ⟨c, w, e, -⟩ := b6
  · have e1 : t = y := by omega
    subst e1
    obtain ⟨q1, q2, q3, q4, q5, -, -⟩ := hT.2.2 t hy
    have hn := hT.2.1
    obtain ⟨m1, m2, m3, m4, m5, m6⟩ := hM
    by_cases h8 : M 52 t < 8
    · obtain ⟨v, hv8⟩ : ∃ v : Nat, M 52 t = v := ⟨(M 52 t).toNat, by omega⟩
      have hg := hv v (by rw [v_l_v hT hy h8, hv8]; exact List.mem_cons_self)
      obtain ⟨c, l, hcl, -⟩ := u_gd_nd hg.1
      obtain ⟨x, hx, hxr⟩ := m4 fr v c l (by omega) (by omega) hcl
      have hc := conR_of (c_Mo_evaluate_v (d + 1) M1 H t fr v x m3.1 (by omega) (by rw [m1 52 _ (by decide) (by omega)]; exact hv8) (by omega) (by omega) hx (by omega))
      refine hc.mono fun M2 r ⟨h1, h2⟩ => ?_
      rw [u_st_v hv8 (by omega)]
      have hH := u_hk_push m3 hxr
      refine ⟨h2, rfl, ?_⟩
      have e35 : ∀ k : Nat, k ≠ 38 → M2 45 k = M1 45 k := fun k hk => by rw [h1, g_up_nj hk, g_up_ne (by decide)]
      have eo : ∀ k : Nat, k ≠ 45 → k ≠ 73 → M2 k = M1 k := fun k hk hk2 => by rw [h1, g_up_ne hk, g_up_ne hk2]
      have r : ∀ t x, u_rm M1 t x → u_rm M2 t x := fun t x h => (u_rm_cg (M := M1) (M1 := M2) (fun k hk => eo k (by omega) (by omega)) (e35 29 (by decide)) t x).mpr h
      rw [← h1] at hH
      refine ⟨⟨m1.tr (fun k b g1 g2 => ?_), u_tk_cg (M := M1) (eo 71 (by decide) (by decide)) (eo 72 (by decide) (by decide)) (e35 35 (by decide)) m2, hH, u_bk_cg r (eo 74 (by decide) (by decide)) m4, (e35 34 (by decide)).trans m5, (e35 33 (by decide)).trans m6⟩, e35 29 (by decide)⟩
      by_cases hk : k = 45
      · subst hk; exact e35 b (by omega)
      · rw [eo k hk (by omega)]
    · obtain ⟨w, hw⟩ : ∃ w : Nat, q_w M t = w := ⟨(q_w M t).toNat, by omega⟩
      have hc := c_Mo_evaluate_n d M M1 K t fr w m1 m2 (by show K.length + 4 < 3700; omega) (by omega) (by omega) q2 hw (by omega) (fun k hk => (q5 k (by omega)).1)
      refine hc.mono fun M2 r ⟨h1, h2, h3⟩ => ?_
      rw [u_st_n (by omega)]
      have r : ∀ t x, u_rm M1 t x → u_rm M2 t x := fun t x h => (h2.rm t x).mpr h
      exact ⟨h1, rfl, ⟨m1.tr h2.f, h3, u_hk_cg r (h2.fn (by decide) (by decide) (by decide)) (h2 45 38 (by decide) (by decide) (by decide)) m3, u_bk_cg r (h2.fn (by decide) (by decide) (by decide)) m4, (h2 45 34 (by decide) (by decide) (by decide)).trans m5, (h2 45 33 (by decide) (by decide) (by decide)).trans m6⟩, h2 45 29 (by decide) (by decide) (by decide)⟩
  · omega
  · omega
/-- enter does one step, or ends the run -/
theorem c_Mo_enter_s (d : Nat) {M M1 : g_M} (hP : r_P M) {n f fr : Nat} {K : List (Int × Nat)} {H : List u_F} {B : Nat → Nat → u_F} {st bu : Nat} (hM : u_Mo M M1 (K, H, B, st, bu)) (hok : u_ok M n ((-11 - (f : Int), fr) :: K, H, B, st, bu)) (hnv : M1 45 29 ≤ 730) : ConR y_Mo_enter w_Mo_enter (g_rm (d + 2)) LX M1 [g_r 45, g_i (f : Int)] LX (fun M2 v2 => ∃ r : Int, v2 = some (g_i r) ∧ ((r = 0 ∧ (u_st M ((-11 - (f : Int), fr) :: K, H, B, st, bu)).2 = true ∧ u_f M M2 ∧ M2 45 34 = (u_st M ((-11 - (f : Int), fr) :: K, H, B, st, bu)).1.2.2.2.1) ∨ (r = 1 ∧ (u_st M ((-11 - (f : Int), fr) :: K, H, B, st, bu)).2 = false ∧ u_Mo M M2 (u_st M ((-11 - (f : Int), fr) :: K, H, B, st, bu)).1 ∧ M2 45 29 = M1 45 29 ∧ (u_st M ((-11 - (f : Int), fr) :: K, H, B, st, bu)).1.2.2.2.2 = bu))) := by
  obtain ⟨b1, b2, b3, b4, b5, b6⟩ := u_ok_t hP hok
  have hT := hP.2.2.1.2.1
  obtain ⟨m1, m2, m3, m4, m5, m6⟩ := hM
  simp only at m2 m3 m4 m5 m6
  obtain ⟨y, e, -⟩ | ⟨f', w, e, hf4, hf6, hw, hw3, hwl, -⟩ | ⟨c, w, e, -, hc8, -⟩ := b6
  · omega
  · have e1 : f = f' := by omega
    subst e1
    by_cases h200 : st = 200
    · subst h200
      refine (conR_of (c_Mo_enter_0 (d + 2) M1 f m5)).mono fun M2 r ⟨h1, h2⟩ => ⟨0, h2, Or.inl ⟨rfl, by rw [u_st_c0], by rw [h1]; exact m1, by rw [u_st_c0, h1]; exact m5⟩⟩
    · obtain ⟨hm0, hm24⟩ := hP.2.2.2.2
      obtain ⟨m, hm⟩ : ∃ m : Nat, M 45 13 = m := ⟨(M 45 13).toNat, by omega⟩
      have hc := c_Mo_enter d M M1 f w m st K H (B (st + 1)) m1 hT hP.2.2.1.2.2.1 hm24.2.1 hm (by have := hm24.1; omega) hf6 hw hwl hw3 m5 (by omega) m2 (by omega) m3 (by omega) hnv (u_bk_1 m4 (by omega))
      refine hc.mono fun M2 r ⟨h1, h2⟩ => ?_
      match hE : u_en M f w (fun k => (H[w - 1 - k]?).getD .nil) (B (st + 1)) m with
      | (none, b) =>
        rw [hE] at h1 h2
        rw [u_st_cn h200 hw hm hE]
        exact ⟨0, h1, Or.inl ⟨rfl, rfl, h2.1, h2.2.2.2.1⟩⟩
      | (some c, b) =>
        rw [hE] at h1 h2
        rw [u_st_cs h200 hw hm hE]
        obtain ⟨g1, g2, g3, g4, g5, g6, g7, g8, g9⟩ := h2
        exact ⟨1, h1, Or.inr ⟨rfl, rfl, ⟨g1, g6, g7, u_bk_n m4 g5 g8 g9, g4, g3.trans m6⟩, g2, rfl⟩⟩
  · omega
theorem c_Mo_finished (d : Nat) (M : g_M) (M1 : g_M) (s0 : u_S) (nv0 : Nat) (hP : r_P M) (hM0 : u_Mo M M1 s0) (hok0 : u_ok M 0 s0) (hn0 : nv0 ≤ 129) (hnv0 : M1 45 29 = (nv0 : Int) + s0.2.2.2.2) : ConR y_Mo_finished w_Mo_finished (g_rm (d + 4)) LX M1 [g_r 45] LX (fun M2 v2 => ∃ r : Int, v2 = some (g_i r) ∧ ((r = 0 ∧ ∃ st, u_O M s0 st none ∧ M2 45 34 = (st : Int) ∧ u_f M M2) ∨ (r = 1 ∧ ∃ st a, u_O M s0 st (some a) ∧ M2 45 34 = (st : Int) ∧ u_f M M2 ∧ M2 45 29 ≤ 730 ∧ u_gt M a ∧ ∃ x : Nat, M2 73 0 = x ∧ u_rm M2 a x))) := by
  refine con_ofR (av := [g_r 45]) (ls0 := [some (g_r 45), none, none]) (by decide) rfl (Nat.le_of_ble_eq_true rfl) (g_hls (av := [g_r 45]) (k := 2)) (fun _ h9 => List.mem_cons_of_mem _ h9) ?_
  refine ev_wh (fun n ls1 M2 => ∃ (j : Nat) (s : u_S), n = 16002 - j ∧ ls1 = [some (g_r 45), none, none] ∧ u_R M j s0 s ∧ u_Mo M M2 s ∧ u_ok M j s ∧ M2 45 29 = (nv0 : Int) + s.2.2.2.2) ?_ (n := 16002) (⟨0, s0, rfl, rfl, rfl, hM0, hok0, hnv0⟩)
  intro n ls1 M2 hP0 ih
  obtain ⟨j, s, hn, rfl, hR, hM, hok, hv⟩ := hP0
  have hbb := u_ok_b hP hok
  have hj := hbb.2.2.2
  obtain ⟨K, H, B, st, bu⟩ := s
  have hMa := hM
  obtain ⟨m1, m2, m3, m4, m5, m6⟩ := hMa
  simp only at m2 m3 m4 m5 m6 hv
  have hbu6 : bu ≤ 600 := hok.2.2.2.2.2.1
  refine ev_aload_n (i := 0) d_Mo_finished_0 rfl rfl rfl ?_
  refine ev_getI (z := (K.length : Int)) d_Mo_finished_1 rfl lk_Mo_231 lx_45 rfl (m2.1) ?_
  refine ev_if_le (tgt := 119) d_Mo_finished_4 (by decide) rfl (fun hz => ?_) (fun hz => ?_)
  · have eK : K = [] := List.eq_nil_of_length_eq_zero (by omega)
    subst eK
    refine ev_iconst d_Mo_finished_119 rfl ⟨by decide, by decide⟩ ?_
    exact ev_retIR d_Mo_finished_120 (⟨1, rfl, Or.inr ⟨rfl, by have h9 : H.length = 1 := hok.2.1; exact (by match H, h9, m3, hok, hR with | [a], _, m3, hok, hR => exact ⟨st, a, ⟨j, _, hR, Or.inl ⟨rfl, rfl, rfl⟩⟩, m5, m1, by omega, hok.2.2.1 a List.mem_cons_self, by obtain ⟨x, g1, g2⟩ := m3.2 0 a rfl; exact ⟨x, g1, g2⟩⟩)⟩⟩) (Or.inr ⟨rfl, by omega⟩)
  · obtain ⟨⟨t, fr⟩, K, rfl⟩ : ∃ i K1, K = i :: K1 := by
      cases K with
      | nil => simp at hz
      | cons i K1 => exact ⟨i, K1, rfl⟩
    obtain ⟨p1, p2, p3, p4⟩ := u_tk_pop m2
    obtain ⟨b1, b2, b3, b4, b5, b6⟩ := u_ok_t hP hok
    have hMp : u_Mo M (g_up M2 45 35 (K.length : Int)) (K, H, B, st, bu) := ⟨m1.tr (g71_35 M2 _).f, p4, u_hk_cg (fun t x h => ((g71_35 M2 _).rm t x).mpr h) rfl (by rw [g_up_nj (by decide)]) m3, u_bk_cg (fun t x h => ((g71_35 M2 _).rm t x).mpr h) rfl m4, by rw [g_up_nj (by decide)]; exact m5, by rw [g_up_nj (by decide)]; exact m6⟩
    refine ev_aload_n (i := 0) d_Mo_finished_7 rfl rfl rfl ?_
    refine ev_dup d_Mo_finished_8 rfl rfl ?_
    refine ev_getI (z := (K.length : Int) + 1) d_Mo_finished_9 rfl lk_Mo_231 lx_45 rfl (p1) ?_
    refine ev_iconst d_Mo_finished_12 rfl ⟨by decide, by decide⟩ ?_
    refine ev_isub (z := (K.length : Int)) d_Mo_finished_13 rfl (by rw [g_w_id (by unfold g_rg; omega)]; omega) ?_
    refine ev_putI d_Mo_finished_14 rfl lk_Mo_231 fp_Mo_35 (Or.inl rfl) lx_45 rfl ?_
    refine ev_aload_n (i := 0) d_Mo_finished_17 rfl rfl rfl ?_
    refine ev_getR d_Mo_finished_18 rfl lk_Mo_86 lx_45 rfl ?_
    refine ev_aload_n (i := 0) d_Mo_finished_21 rfl rfl rfl ?_
    refine ev_getI (z := (K.length : Int)) d_Mo_finished_22 rfl lk_Mo_231 lx_45 rfl (g_up_at _ _ _ _) ?_
    refine ev_iaload (z := t) d_Mo_finished_25 rfl lx_71 (by omega) (by omega) (by rw [g_up_ne (by decide)]; exact p2) ?_
    refine ev_istore_n (i := 1) d_Mo_finished_26 rfl rfl (by decide) rfl ?_
    refine ev_aload_n (i := 0) d_Mo_finished_27 rfl rfl rfl ?_
    refine ev_getR d_Mo_finished_28 rfl lk_Mo_89 lx_45 rfl ?_
    refine ev_aload_n (i := 0) d_Mo_finished_31 rfl rfl rfl ?_
    refine ev_getI (z := (K.length : Int)) d_Mo_finished_32 rfl lk_Mo_231 lx_45 rfl (g_up_at _ _ _ _) ?_
    refine ev_iaload (z := (fr : Int)) d_Mo_finished_35 rfl lx_72 (by omega) (by omega) (by rw [g_up_ne (by decide)]; exact p3) ?_
    refine ev_istore_n (i := 2) d_Mo_finished_36 rfl rfl (by decide) rfl ?_
    refine ev_iload_n (i := 1) d_Mo_finished_37 rfl rfl rfl ?_
    refine ev_if_lt (tgt := 50) d_Mo_finished_38 (by decide) rfl (fun ht0 => ?_) (fun ht0 => ?_)
    · refine ev_iload_n (i := 1) d_Mo_finished_50 rfl rfl rfl ?_
      refine ev_bipush d_Mo_finished_51 rfl (by decide +kernel) ⟨by decide, by decide⟩ ?_
      refine ev_icmp_gt (tgt := 69) d_Mo_finished_53 (by decide) rfl (fun ht11 => ?_) (fun ht11 => ?_)
      · obtain ⟨y, e, hy, -, -⟩ | ⟨f, w, e, -⟩ | ⟨c, w, e, hc0, hc8, hw, hw3, hwl, -⟩ := b6
        · omega
        · omega
        subst e
        refine ev_aload_n (i := 0) d_Mo_finished_69 rfl rfl rfl ?_
        refine ev_getI (z := (bu : Int)) d_Mo_finished_70 rfl lk_Mo_256 lx_45 rfl (by rw [g_up_nj (by decide)]; exact m6) ?_
        refine ev_sipush d_Mo_finished_73 rfl (by decide +kernel) ⟨by decide, by decide⟩ ?_
        refine ev_icmp_ne (tgt := 81) d_Mo_finished_76 (by decide) rfl (fun h600 => ?_) (fun h600 => ?_)
        · have hb600 : bu ≠ 600 := by omega
          refine ev_aload_n (i := 0) d_Mo_finished_81 rfl rfl rfl ?_
          refine ev_dup d_Mo_finished_82 rfl rfl ?_
          refine ev_getI (z := (bu : Int)) d_Mo_finished_83 rfl lk_Mo_256 lx_45 rfl (by rw [g_up_nj (by decide)]; exact m6) ?_
          refine ev_iconst d_Mo_finished_86 rfl ⟨by decide, by decide⟩ ?_
          refine ev_iadd (z := (bu : Int) + 1) d_Mo_finished_87 rfl (g_w_id (by unfold g_rg; omega)) ?_
          refine ev_putI d_Mo_finished_88 rfl lk_Mo_256 fp_Mo_33 (Or.inl rfl) lx_45 rfl ?_
          refine ev_aload_n (i := 0) d_Mo_finished_91 rfl rfl rfl ?_
          refine ev_iconst d_Mo_finished_92 rfl ⟨by decide, by decide⟩ ?_
          refine ev_iload_n (i := 1) d_Mo_finished_93 rfl rfl rfl ?_
          refine ev_isub (z := (c : Int)) d_Mo_finished_94 rfl (by rw [g_w_id (by unfold g_rg; omega)]; omega) ?_
          refine ev_callVR (As := [g_i ((c : Int))]) d_Mo_finished_95 rfl cl_Mo_259 (c_Mo_hold (d + 3) (g_up (g_up M2 45 35 (((K.length : Int)))) 45 33 (((bu : Int) + 1))) H c w (nv0 + bu) (u_hk_cg (M := M2) (fun _ _ h => h) rfl (by rw [g_up_nj (by decide), g_up_nj (by decide)]) m3) hc8 hwl hw3 (by rw [g_up_ne (by decide), g_up_ne (by decide), m1 47 _ (by decide) (by omega)]; exact hw) (by rw [g_up_nj (by decide), g_up_nj (by decide), hv]; omega) (by omega) (by omega) (fun i a hi => (hok.2.2.1 a (List.mem_of_getElem? hi)).2)) (g_hR (by decide)) g_h0 lx_45 rfl rfl (Nat.le_of_ble_eq_true rfl) rfl rfl (fun M4 v9 g9 => ?_)
          obtain ⟨rfl, f1, f2, f3, f4, f5, f6, f7, f8, f9, f10, f11⟩ := g9
          refine ev_aload_n (i := 0) d_Mo_finished_98 rfl rfl rfl ?_
          refine ev_getR d_Mo_finished_99 rfl lk_Mo_83 lx_45 rfl ?_
          refine ev_aload_n (i := 0) d_Mo_finished_102 rfl rfl rfl ?_
          refine ev_getI (z := ((nv0 + bu : Nat) : Int) + 1) d_Mo_finished_103 rfl lk_Mo_237 lx_45 rfl (f2) ?_
          refine ev_iconst d_Mo_finished_106 rfl ⟨by decide, by decide⟩ ?_
          refine ev_isub (z := ((nv0 + bu : Nat) : Int)) d_Mo_finished_107 rfl (by rw [g_w_id (by unfold g_rg; omega)]; omega) ?_
          refine ev_iaload (z := ((u_sz (.tag c (u_ls (H.take w).reverse)) : Nat) : Int)) d_Mo_finished_108 rfl lx_70 (by omega) (by omega) (f9) ?_
          refine ev_bipush d_Mo_finished_109 rfl (by decide +kernel) ⟨by decide, by decide⟩ ?_
          refine ev_icmp_le (tgt := 116) d_Mo_finished_111 (by decide) rfl (fun h60 => ?_) (fun h60 => ?_)
          · have h60n : ¬ 60 < u_sz (.tag c (u_ls (H.take w).reverse)) := by omega
            have e9 := u_st_m (fr := fr) (K := K) (B := B) (st := st) hc8 hb600 hw h60n
            have hst4 : (u_st M ((-1 - (c : Int), fr) :: K, H, B, st, bu)).2 = false := by rw [e9]
            have hv4 : M4 45 29 = (nv0 : Int) + (u_st M ((-1 - (c : Int), fr) :: K, H, B, st, bu)).1.2.2.2.2 := by rw [e9, f2]; show _ = (nv0 : Int) + ((bu + 1 : Nat) : Int); omega
            have hMo4 : u_Mo M M4 (u_st M ((-1 - (c : Int), fr) :: K, H, B, st, bu)).1 := by
              rw [e9]
              refine ⟨(hMp.1.tr (fun k b h1 h2 => by simp only [g_up]; rw [if_neg (by omega)])).tr f1, ?_, f11, u_bk_cg (M := M2) (fun t x h => f10 t x h) f8 m4, ?_, ?_⟩
              · exact u_tk_cg (M := (g_up M2 45 35 (K.length : Int))) f6 f7 (by rw [f5, g_up_nj (by decide)]) p4
              · rw [f4, g_up_nj (by decide), g_up_nj (by decide)]; exact m5
              · rw [f3, g_up_at]; show (bu : Int) + 1 = ((bu + 1 : Nat) : Int); omega
            refine ev_goto (tgt := 0) d_Mo_finished_116 (by decide) ?_
            exact ev_le (ih (16002 - (j + 1)) [some (g_r 45), none, none] M4 (by omega) ⟨j + 1, _, rfl, rfl, u_R_tr j 1 _ _ _ hR (u_R_1 (by simp) hst4), hMo4, u_ok_st hP hok (by simp) hst4, hv4⟩) rfl ⟨rfl, trivial⟩
          · refine ev_iconst d_Mo_finished_114 rfl ⟨by decide, by decide⟩ ?_
            exact ev_retIR d_Mo_finished_115 (⟨0, rfl, Or.inl ⟨rfl, _, ⟨j, _, hR, Or.inr ⟨by simp, by rw [u_st_mb hc8 hb600 hw (by omega)], rfl, rfl⟩⟩, by rw [u_st_mb hc8 hb600 hw (by omega), f4, g_up_nj (by decide), g_up_nj (by decide)]; exact m5, (hMp.1.tr (fun k b h1 h2 => by simp only [g_up]; rw [if_neg (by omega)])).tr f1⟩⟩) (Or.inr ⟨rfl, by omega⟩)
        · have e600 : bu = 600 := by omega
          subst e600
          refine ev_iconst d_Mo_finished_79 rfl ⟨by decide, by decide⟩ ?_
          exact ev_retIR d_Mo_finished_80 (⟨0, rfl, Or.inl ⟨rfl, _, ⟨j, _, hR, Or.inr ⟨by simp, by rw [u_st_m0 hc8], rfl, rfl⟩⟩, by rw [u_st_m0 hc8, g_up_nj (by decide)]; exact m5, hMp.1⟩⟩) (Or.inr ⟨rfl, by omega⟩)
      · obtain ⟨y, e, hy, -, -⟩ | ⟨f, w, e, hf4, hf6, hw, hw3, hwl, -⟩ | ⟨c, w, e, -, hc8, -⟩ := b6
        · omega
        rotate_left
        · omega
        subst e
        refine ev_aload_n (i := 0) d_Mo_finished_56 rfl rfl rfl ?_
        refine ev_bipush d_Mo_finished_57 rfl (by decide +kernel) ⟨by decide, by decide⟩ ?_
        refine ev_iload_n (i := 1) d_Mo_finished_59 rfl rfl rfl ?_
        refine ev_isub (z := (f : Int)) d_Mo_finished_60 rfl (by rw [g_w_id (by unfold g_rg; omega)]; omega) ?_
        refine ev_callVR (As := [g_i ((f : Int))]) d_Mo_finished_61 rfl cl_Mo_253 (c_Mo_enter_s (d + 1) (n := j) (fr := fr) hP hMp hok (by rw [g_up_nj (by decide), hv]; omega)) (g_hR (by decide)) g_h0 lx_45 rfl rfl (Nat.le_of_ble_eq_true rfl) rfl rfl (fun M3 v9 g9 => ?_)
        obtain ⟨r, rfl, hr⟩ := g9
        refine ev_if_ne (tgt := 116) d_Mo_finished_64 (by decide) rfl (fun hr1 => ?_) (fun hr1 => ?_)
        · obtain ⟨er, -⟩ | ⟨er, hst3, hMo3, hv3a, hbu3⟩ := hr
          · omega
          have hv3 : M3 45 29 = (nv0 : Int) + (u_st M ((-11 - (f : Int), fr) :: K, H, B, st, bu)).1.2.2.2.2 := by rw [hv3a, g_up_nj (by decide), hv, hbu3]
          refine ev_goto (tgt := 0) d_Mo_finished_116 (by decide) ?_
          exact ev_le (ih (16002 - (j + 1)) [some (g_r 45), none, none] M3 (by omega) ⟨j + 1, _, rfl, rfl, u_R_tr j 1 _ _ _ hR (u_R_1 (by simp) hst3), hMo3, u_ok_st hP hok (by simp) hst3, hv3⟩) rfl ⟨rfl, trivial⟩
        · obtain ⟨er, hst3, hf3, h34⟩ | ⟨er, -⟩ := hr
          rotate_left
          · omega
          subst er
          refine ev_iconst d_Mo_finished_67 rfl ⟨by decide, by decide⟩ ?_
          exact ev_retIR d_Mo_finished_68 (⟨0, rfl, Or.inl ⟨rfl, _, ⟨j, _, hR, Or.inr ⟨by simp, hst3, rfl, rfl⟩⟩, h34, hf3⟩⟩) (Or.inr ⟨rfl, by omega⟩)
    · obtain ⟨y, e, hy, -, -⟩ | ⟨f, w, e, -⟩ | ⟨c, w, e, -⟩ := b6
      rotate_left
      · omega
      · omega
      subst e
      refine ev_aload_n (i := 0) d_Mo_finished_41 rfl rfl rfl ?_
      refine ev_iload_n (i := 1) d_Mo_finished_42 rfl rfl rfl ?_
      refine ev_iload_n (i := 2) d_Mo_finished_43 rfl rfl rfl ?_
      refine ev_callVR (As := [g_i (y : Int), g_i ((fr : Int))]) d_Mo_finished_44 rfl cl_Mo_250 (c_Mo_evaluate_s (d + 2) (n := j) hP hMp hok) (g_hR (by decide)) g_h0 lx_45 rfl rfl (Nat.le_of_ble_eq_true rfl) rfl rfl (fun M3 v9 g9 => ?_)
      obtain ⟨rfl, hst3, hMo3, hv3a⟩ := g9
      have hv3 : M3 45 29 = (nv0 : Int) + (u_st M (((y : Int), fr) :: K, H, B, st, bu)).1.2.2.2.2 := by
        rw [hv3a, g_up_nj (by decide), hv]
        rcases Int.lt_or_le (M 52 y) 8 with h9 | h9
        · rw [u_st_v (v := (M 52 y).toNat) (by have := (hP.2.2.1.2.1.2.2 y hy).1; omega) (by omega)]
        · rw [u_st_n h9]
      refine ev_goto (tgt := 116) d_Mo_finished_47 (by decide) ?_
      refine ev_goto (tgt := 0) d_Mo_finished_116 (by decide) ?_
      exact ev_le (ih (16002 - (j + 1)) [some (g_r 45), none, none] M3 (by omega) ⟨j + 1, _, rfl, rfl, u_R_tr j 1 _ _ _ hR (u_R_1 (by simp) hst3), hMo3, u_ok_st hP hok (by simp) hst3, hv3⟩) rfl ⟨rfl, trivial⟩
