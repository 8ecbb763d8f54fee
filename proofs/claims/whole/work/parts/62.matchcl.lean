/-- all but a room's variables -/
def g43 (r : Nat) (M M2 : g_M) : Prop := ∀ k b : Nat, ¬ (k = 43 ∧ 8 * r ≤ b ∧ b < 8 * r + 8) → M2 k b = M k b
theorem g43.rf (r : Nat) (M : g_M) : g43 r M M := fun _ _ _ => rfl
theorem g43.tr {r : Nat} {M M1 M2 : g_M} (h : g43 r M M1) (h2 : g43 r M1 M2) : g43 r M M2 := fun k b h3 => (h2 k b h3).trans (h k b h3)
theorem g43.up (r : Nat) (M : g_M) {v : Nat} (hv : v < 8) (z : Int) : g43 r M (g_up M 43 (8 * r + v) z) := fun k b h => by simp only [g_up]; rw [if_neg (by omega)]
theorem g43.fn {r : Nat} {M M1 : g_M} (h : g43 r M M1) {k : Nat} (hk : k ≠ 43) : M1 k = M k := funext fun b => h k b (fun h9 => hk h9.1)
theorem g43.c {r : Nat} {M M1 : g_M} (h : g43 r M M1) : u_c M M1 := fun k b h1 => h k b (by omega)
theorem g43.rk {r : Nat} {M M1 : g_M} (h : g43 r M M1) {t : u_F} {x : Nat} (hx : u_rk M t x) : u_rk M1 t x := u_rk_cg (M := M) (M2 := M1) (fun k hk => h.fn (by omega)) (h 35 5 (by omega)) hx
/-- what a room's variables stand for -/
def u_b2 (M1 : g_M) (r : Nat) (b : Nat → u_F) : Prop := ∀ (v c : Nat) (l : u_F), v < 8 → b v = .tag c l → ∃ x : Nat, M1 43 (8 * r + v) = x ∧ u_rk M1 (b v) x
theorem u_b2_up {M1 : g_M} {r : Nat} {b : Nat → u_F} (h : u_b2 M1 r b) {v x : Nat} (hv : v < 8) {t : u_F} (ht : u_rk M1 t x) : u_b2 (g_up M1 43 (8 * r + v) (x : Int)) r (fun q => if q = v then t else b q) := by
  have hr : ∀ t y, u_rk M1 t y → u_rk (g_up M1 43 (8 * r + v) (x : Int)) t y := fun t y hy => (g43.up r M1 hv x).rk hy
  intro q c l hq hb
  by_cases hqv : q = v
  · subst hqv
    simp only [if_true] at hb ⊢
    exact ⟨x, by simp [g_up], hr t x ht⟩
  · simp only [if_neg hqv] at hb ⊢
    obtain ⟨y, h1, h2⟩ := h q c l hq hb
    refine ⟨y, ?_, hr _ y h2⟩
    simp only [g_up, true_and]
    rw [if_neg (by omega)]
    exact h1
theorem u_b2_cg {M M1 : g_M} {r : Nat} {b : Nat → u_F} (h43 : M1 43 = M 43) (hr : ∀ t x, u_rk M t x → u_rk M1 t x) (h : u_b2 M r b) : u_b2 M1 r b := by
  intro v c l h1 h2
  obtain ⟨x, h3, h4⟩ := h v c l h1 h2
  exact ⟨x, by rw [h43]; exact h3, hr _ x h4⟩
/-- how a match of the class ends -/
def u_mr (M M1 : g_M) (r : Nat) (e : Bool × (Nat → u_F)) (M2 : g_M) (v2 : Option g_v) : Prop := v2 = some (g_i (if e.1 = true then 1 else 0)) ∧ g43 r M1 M2 ∧ u_b2 M2 r e.2
theorem c_Ma_matches_st (d : Nat) (M : g_M) (M1 : g_M) (p x r bu : Nat) (t : u_F) (b : Nat → u_F) (hc1 : u_c M M1) (hP : r_P M) (hp : (p : Int) < M 45 8) (hq16 : ∀ x ∈ q_pl M p, M 52 x < 16) (hbu : M1 35 5 = bu) (hb6 : bu ≤ 600) (ht : u_rk M1 t x) (hr : r < 200) (hb : u_b2 M1 r b) (hrec : ∀ k : Nat, (k : Int) < q_w M p → ∀ q : Nat, M 53 (3 * p + k) = q → ∀ (M2 : g_M) (x : Nat) (t : u_F) (b : Nat → u_F), u_c M M2 → M2 35 5 = bu → u_rk M2 t x → u_b2 M2 r b → ConR y_Ma_matches w_Ma_matches (g_rm (d + 2)) LX M2 [g_r 34, g_i (q : Int), g_i (x : Int), g_i (r : Int)] LX (u_mr M M2 r (u_m M q t b))) : ConR y_Ma_matches w_Ma_matches (g_rm (d + 3)) LX M1 [g_r 34, g_i (p : Int), g_i (x : Int), g_i (r : Int)] LX (fun M2 v2 => u_mr M M1 r (u_m M p t b) M2 v2) := by
  refine con_ofR (av := [g_r 34, g_i (p : Int), g_i (x : Int), g_i (r : Int)]) (ls0 := [some (g_r 34), some (g_i (p : Int)), some (g_i (x : Int)), some (g_i (r : Int)), none]) (by decide) rfl (Nat.le_of_ble_eq_true rfl) (g_hls (av := [g_r 34, g_i (p : Int), g_i (x : Int), g_i (r : Int)]) (k := 1)) (fun _ h9 => List.mem_cons_of_mem _ h9) ?_
  have hx7 := u_rk_x ht hbu hb6
  obtain ⟨c, l, rfl, hok, hmk, hwt, hrow⟩ := u_rp_nd ht
  have hT := hP.2.2.1.2.1
  obtain ⟨q1, q2, q3, q4, q5, -, -⟩ := hT.2.2 p hp
  obtain ⟨hr1, hr2, hr3, -⟩ := hP.2.2.1.2.2.1 p hp
  have hn100 := hT.2.1
  have hp100 : p < 100 := by omega
  obtain ⟨w, hw⟩ : ∃ w : Nat, q_w M p = w := ⟨(q_w M p).toNat, by omega⟩
  refine ev_aload_n (i := 0) d_Ma_matches_0 rfl rfl rfl ?_
  refine ev_getR d_Ma_matches_1 rfl lk_Ma_15 lx_34 rfl ?_
  refine ev_iload_n (i := 1) d_Ma_matches_4 rfl rfl rfl ?_
  refine ev_callV (As := [g_i (p : Int)]) d_Ma_matches_5 rfl cl_Ma_115 ((c_Te_isVariable (d + 2) M1 p hp100)) (g_hR (by decide)) g_h0 lx_9 rfl rfl (Nat.le_of_ble_eq_true rfl) rfl rfl ?_
  refine ev_beq (tgt := 32) d_Ma_matches_8 (by decide) rfl (fun hv0 => ?_) (fun hv0 => ?_)
  · have h8 : 8 ≤ M 52 p := by have h9 := hc1 10 p (by decide); have h8 := hr1; omega
    obtain ⟨hh, ehh⟩ : ∃ hh : Int, hh = M 52 p - 8 := ⟨_, rfl⟩
    have h16 := hq16 p (by rw [q_pl_eq hT hp]; exact List.mem_cons_self)
    have h11 : M1 11 p = hh := by rw [hc1 11 p (by decide), ehh]; have h8 := hr1; omega
    refine ev_aload_n (i := 0) d_Ma_matches_32 rfl rfl rfl ?_
    refine ev_getR d_Ma_matches_33 rfl lk_Ma_15 lx_34 rfl ?_
    refine ev_iload_n (i := 1) d_Ma_matches_36 rfl rfl rfl ?_
    refine ev_callV (As := [g_i (p : Int)]) d_Ma_matches_37 rfl cl_Ma_109 ((c_Te_head (d + 2) M1 p hp100).eqr (b := (hh : Int)) (h11)) (g_hR (by decide)) g_h0 lx_9 rfl rfl (Nat.le_of_ble_eq_true rfl) rfl rfl ?_
    refine ev_aload_n (i := 0) d_Ma_matches_40 rfl rfl rfl ?_
    refine ev_getR d_Ma_matches_41 rfl lk_Ma_28 lx_34 rfl ?_
    refine ev_iload_n (i := 2) d_Ma_matches_44 rfl rfl rfl ?_
    refine ev_callV (As := [g_i (x : Int)]) d_Ma_matches_45 rfl cl_Ma_150 ((c_Va_maker (d + 1) M1 x hx7).eqr (b := (c : Int)) (hmk)) (g_hR (by decide)) g_h0 lx_35 rfl rfl (Nat.le_of_ble_eq_true rfl) rfl rfl ?_
    refine ev_icmp_eq (tgt := 53) d_Ma_matches_48 (by decide) rfl (fun hc => ?_) (fun hc => ?_)
    · have hcy : M 52 p - 8 = (c : Int) := by omega
      have hw47 : M1 3 c = w := by rw [hc1 3 c (by decide), (r_P_47 hP (c := c) (by have h8 := hr1; omega)).2.2, ← hw, q_w_c h8 h16, hcy]; rfl
      refine ev_iconst d_Ma_matches_53 rfl ⟨by decide, by decide⟩ ?_
      refine ev_istore (i := 4) d_Ma_matches_54 rfl (by decide) rfl ?_
      refine ev_wh (fun n ls1 M2 => ∃ (k : Nat) (bk : Nat → u_F), k ≤ w ∧ n = w - k ∧ ls1 = [some (g_r 34), some (g_i (p : Int)), some (g_i (x : Int)), some (g_i (r : Int)), some (g_i (k : Int))] ∧ g43 r M1 M2 ∧ u_fd (fun k b => u_m M (M 53 (3 * p + k)).toNat (u_ch l k) b) k b = (true, bk) ∧ u_b2 M2 r bk) ?_ (n := w) (⟨0, b, Nat.zero_le _, rfl, rfl, g43.rf _ _, rfl, hb⟩)
      intro n ls1 M2 hP0 ih
      obtain ⟨k, bk, hk, hn, rfl, hg2, hfd, hb2⟩ := hP0
      have hc2 := hc1.tr hg2.c
      refine ev_iload (i := 4) d_Ma_matches_56 rfl rfl ?_
      refine ev_aload_n (i := 0) d_Ma_matches_58 rfl rfl rfl ?_
      refine ev_getR d_Ma_matches_59 rfl lk_Ma_15 lx_34 rfl ?_
      refine ev_iload_n (i := 1) d_Ma_matches_62 rfl rfl rfl ?_
      refine ev_callV (As := [g_i (p : Int)]) d_Ma_matches_63 rfl cl_Ma_94 ((c_Te_width (d + 2) M2 p hp100).eqr (b := (w : Int)) (by rw [hc2 12 p (by decide), hr2]; exact hw)) (g_hR (by decide)) g_h0 lx_9 rfl rfl (Nat.le_of_ble_eq_true rfl) rfl rfl ?_
      refine ev_icmp_ge (tgt := 105) d_Ma_matches_66 (by decide) rfl (fun hz => ?_) (fun hz => ?_)
      · have ek : k = w := by omega
        refine ev_iconst d_Ma_matches_105 rfl ⟨by decide, by decide⟩ ?_
        exact ev_retIR d_Ma_matches_106 (⟨by rw [u_m_c hT hp h8, if_pos hcy, hw, Int.toNat_natCast, ← ek, hfd]; rfl, hg2, by rw [u_m_c hT hp h8, if_pos hcy, hw, Int.toNat_natCast, ← ek, hfd]; exact hb2⟩) (Or.inr ⟨rfl, by omega⟩)
      · have h5 := q5 k (by omega)
        obtain ⟨q, hq⟩ : ∃ q : Nat, M 53 (3 * p + k) = q := ⟨(M 53 (3 * p + k)).toNat, by omega⟩
        obtain ⟨y, hy, hty⟩ := u_rp_ch k l x 0 hrow (by show ((0 + k : Nat) : Int) < M1 3 (u_km M1 x).toNat; rw [hmk, Int.toNat_natCast, hw47]; omega)
        rw [Nat.zero_add] at hy
        refine ev_aload_n (i := 0) d_Ma_matches_69 rfl rfl rfl ?_
        refine ev_aload_n (i := 0) d_Ma_matches_70 rfl rfl rfl ?_
        refine ev_getR d_Ma_matches_71 rfl lk_Ma_15 lx_34 rfl ?_
        refine ev_iload_n (i := 1) d_Ma_matches_74 rfl rfl rfl ?_
        refine ev_iload (i := 4) d_Ma_matches_75 rfl rfl ?_
        refine ev_callV (As := [g_i (p : Int), g_i (k : Int)]) d_Ma_matches_77 rfl cl_Ma_97 ((c_Te_part (d + 2) M2 p k hp100 (by omega)).eqr (b := (q : Int)) (by rw [hc2 13 _ (by decide), (hr3 k (by omega)).1]; exact hq)) (g_hR (by decide)) g_h0 lx_9 rfl rfl (Nat.le_of_ble_eq_true rfl) rfl rfl ?_
        refine ev_aload_n (i := 0) d_Ma_matches_80 rfl rfl rfl ?_
        refine ev_getR d_Ma_matches_81 rfl lk_Ma_28 lx_34 rfl ?_
        refine ev_iload_n (i := 2) d_Ma_matches_84 rfl rfl rfl ?_
        refine ev_iload (i := 4) d_Ma_matches_85 rfl rfl ?_
        refine ev_callV (As := [g_i (x : Int), g_i (k : Int)]) d_Ma_matches_87 rfl cl_Ma_153 ((c_Va_part (d + 1) M2 x k hx7 (by omega)).eqr (b := (y : Int)) (by unfold u_kp; unfold u_kp at hy; rw [hg2.fn (k := 13) (by decide), hg2.fn (k := 37) (by decide)]; exact hy)) (g_hR (by decide)) g_h0 lx_35 rfl rfl (Nat.le_of_ble_eq_true rfl) rfl rfl ?_
        refine ev_iload_n (i := 3) d_Ma_matches_90 rfl rfl rfl ?_
        refine ev_callVR (As := [g_i (q : Int), g_i (y : Int), g_i (r : Int)]) d_Ma_matches_91 rfl cl_Ma_147 (hrec k (by omega) q hq M2 y (u_ch l k) bk hc2 ((hg2 35 5 (by omega)).trans hbu) (hg2.rk hty) hb2) (g_hR (by decide)) g_h0 lx_34 rfl rfl (Nat.le_of_ble_eq_true rfl) rfl rfl (fun M3 v9 g9 => ?_)
        obtain ⟨rfl, hgm, hbm⟩ := g9
        refine ev_bne (tgt := 99) d_Ma_matches_94 (by decide) rfl (fun hm => ?_) (fun hm => ?_)
        · refine ev_iinc (z := ((k + 1 : Nat) : Int)) d_Ma_matches_99 rfl rfl (by decide) (by rw [g_w_id (by unfold g_rg; omega)]; omega) rfl ?_
          refine ev_goto (tgt := 56) d_Ma_matches_102 (by decide) ?_
          exact ev_le (ih (w - (k + 1)) [some (g_r 34), some (g_i (p : Int)), some (g_i (x : Int)), some (g_i (r : Int)), some (g_i ((k + 1 : Nat) : Int))] M3 (by omega) ⟨k + 1, _, by omega, rfl, rfl, hg2.tr hgm, by rw [u_fd_y hfd]; show u_m M (M 53 (3 * p + k)).toNat (u_ch l k) bk = _; rw [hq, Int.toNat_natCast]; exact Prod.ext hm rfl, hbm⟩) rfl ⟨rfl, rfl, rfl, rfl, rfl, trivial⟩
        · have hEnd : u_m M p (Std.Format.tag c l) b = (false, (u_m M q (u_ch l k) bk).2) := by
            rw [u_m_c hT hp h8, if_pos hcy, hw, Int.toNat_natCast, show w = k + 1 + (w - (k + 1)) by omega]
            refine u_fd_n ?_ _
            rw [u_fd_y hfd]
            show u_m M (M 53 (3 * p + k)).toNat (u_ch l k) bk = _
            rw [hq, Int.toNat_natCast]
            exact Prod.ext (by simpa using hm) rfl
          refine ev_iconst d_Ma_matches_97 rfl ⟨by decide, by decide⟩ ?_
          exact ev_retIR d_Ma_matches_98 (⟨by rw [hEnd]; rfl, hg2.tr hgm, by rw [hEnd]; exact hbm⟩) (Or.inr ⟨rfl, by omega⟩)
    · have hcn : ¬ M 52 p - 8 = (c : Int) := by omega
      refine ev_iconst d_Ma_matches_51 rfl ⟨by decide, by decide⟩ ?_
      exact ev_retIR d_Ma_matches_52 (⟨by rw [u_m_c hT hp h8, if_neg hcn]; rfl, g43.rf _ _, by rw [u_m_c hT hp h8, if_neg hcn]; exact hb⟩) (Or.inr ⟨rfl, by omega⟩)
  · have h8v : M 52 p < 8 := by have h9 := hc1 10 p (by decide); have h8 := hr1; omega
    obtain ⟨v, hv⟩ : ∃ v : Nat, M 52 p = v := ⟨(M 52 p).toNat, by omega⟩
    have hv8 : v < 8 := by omega
    obtain ⟨hh, ehh⟩ : ∃ hh : Int, hh = (v : Int) := ⟨_, rfl⟩
    have h11 : M1 11 p = hh := by rw [hc1 11 p (by decide), ehh, ← hv]; have h8 := hr1; omega
    refine ev_aload_n (i := 0) d_Ma_matches_11 rfl rfl rfl ?_
    refine ev_getR d_Ma_matches_12 rfl lk_Ma_45 lx_34 rfl ?_
    refine ev_iload_n (i := 3) d_Ma_matches_15 rfl rfl rfl ?_
    refine ev_bipush d_Ma_matches_16 rfl (by decide +kernel) ⟨by decide, by decide⟩ ?_
    refine ev_imul (z := (r : Int) * 8) d_Ma_matches_18 rfl (g_w_id (by unfold g_rg; omega)) ?_
    refine ev_aload_n (i := 0) d_Ma_matches_19 rfl rfl rfl ?_
    refine ev_getR d_Ma_matches_20 rfl lk_Ma_15 lx_34 rfl ?_
    refine ev_iload_n (i := 1) d_Ma_matches_23 rfl rfl rfl ?_
    refine ev_callV (As := [g_i (p : Int)]) d_Ma_matches_24 rfl cl_Ma_109 ((c_Te_head (d + 2) M1 p hp100).eqr (b := (hh : Int)) (h11)) (g_hR (by decide)) g_h0 lx_9 rfl rfl (Nat.le_of_ble_eq_true rfl) rfl rfl ?_
    refine ev_iadd (z := ((8 * r + v : Nat) : Int)) d_Ma_matches_27 rfl (by rw [ehh, g_w_id (by unfold g_rg; omega)]; omega) ?_
    refine ev_iload_n (i := 2) d_Ma_matches_28 rfl rfl rfl ?_
    refine ev_iastore d_Ma_matches_29 rfl lx_43 (by omega) (by omega) ?_
    rw [show Int.toNat ((((8 * r + v : Nat) : Int))) = 8 * r + v by exact Int.toNat_natCast _]
    refine ev_iconst d_Ma_matches_30 rfl ⟨by decide, by decide⟩ ?_
    exact ev_retIR d_Ma_matches_31 (⟨by rw [u_m_v h8v]; rfl, g43.up r M1 hv8 _, by rw [u_m_v h8v, hv, Int.toNat_natCast]; exact u_b2_up hb hv8 ht⟩) (Or.inr ⟨rfl, by omega⟩)
theorem c_Ma_matches {M : g_M} (hP : r_P M) {r bu : Nat} (hb6 : bu ≤ 600) (hr : r < 200) : ∀ (p : Nat), (p : Int) < M 45 8 → (∀ x ∈ q_pl M p, M 52 x < 16) → ∀ (d : Nat) (M1 : g_M) (x : Nat) (t : u_F) (b : Nat → u_F), u_c M M1 → M1 35 5 = bu → u_rk M1 t x → u_b2 M1 r b → ConR y_Ma_matches w_Ma_matches (g_rm (d + p + 3)) LX M1 [g_r 34, g_i (p : Int), g_i (x : Int), g_i (r : Int)] LX (u_mr M M1 r (u_m M p t b)) := by
  have hT := hP.2.2.1.2.1
  intro p
  induction p using Nat.strongRecOn with
  | ind p ih =>
    intro hp h16 d M1 x t b h1 h2 h3 h4
    obtain ⟨-, -, q3, q4, q5, -, -⟩ := hT.2.2 p hp
    refine c_Ma_matches_st (d + p) M M1 p x r bu t b h1 hP hp h16 h2 hb6 h3 hr h4 (fun k hk q hq M2 x t b g1 g2 g3 g4 => ?_)
    have h5 := q5 k hk
    have hkid : q ∈ q_kids M p := by rw [q_kids_map, List.mem_map]; exact ⟨k, List.mem_range.mpr (by omega), by rw [hq]; rfl⟩
    have h6 := ih q (by omega) (by omega) (fun x hx => h16 x (by rw [q_pl_eq hT hp]; exact List.mem_cons_of_mem _ (List.mem_flatMap.mpr ⟨q, hkid, hx⟩))) (d + (p - 1 - q)) M2 x t b g1 g2 g3 g4
    rw [show d + (p - 1 - q) + q + 3 = d + p + 2 by omega] at h6
    exact h6
theorem c_Ma_matches_d (d : Nat) {M : g_M} (hP : r_P M) {r bu : Nat} (hb6 : bu ≤ 600) (hr : r < 200) {p : Nat} (hp : (p : Int) < M 45 8) (h16 : ∀ x ∈ q_pl M p, M 52 x < 16) {M1 : g_M} {x : Nat} {t : u_F} {b : Nat → u_F} (h1 : u_c M M1) (h2 : M1 35 5 = bu) (h3 : u_rk M1 t x) (h4 : u_b2 M1 r b) : ConR y_Ma_matches w_Ma_matches (g_rm (d + 102)) LX M1 [g_r 34, g_i (p : Int), g_i (x : Int), g_i (r : Int)] LX (u_mr M M1 r (u_m M p t b)) := by
  have h5 := hP.2.2.1.2.1.2.1
  have h6 := c_Ma_matches hP hb6 hr p hp h16 (d + (99 - p)) M1 x t b h1 h2 h3 h4
  rw [show d + (99 - p) + p + 3 = d + 102 by omega] at h6
  exact h6
theorem c_Ma_matchesAll (d : Nat) (M : g_M) (M1 : g_M) (f c w r bu : Nat) (H : List u_F) (b : Nat → u_F) (hc1 : u_c M M1) (hP : r_P M) (hcl : r_c M c) (hc24 : c < 24) (hcf : M 56 c = f) (hw : M 50 f = w) (hw3 : w ≤ 3) (hwl : w ≤ H.length) (hHl : H.length ≤ 2005) (hH : u_hd M1 H) (h9 : M1 34 9 = ((H.length - w : Nat) : Int)) (hbu : M1 35 5 = bu) (hb6 : bu ≤ 600) (hr : r < 200) (hb : u_b2 M1 r b) : ConR y_Ma_matchesAll w_Ma_matchesAll (g_rm (d + 103)) LX M1 [g_r 34, g_i (c : Int), g_i (w : Int), g_i (r : Int)] LX (fun M2 v2 => u_mr M M1 r (u_mc M c (fun k => (H[w - 1 - k]?).getD Std.Format.nil) b w) M2 v2) := by
  refine con_ofR (av := [g_r 34, g_i (c : Int), g_i (w : Int), g_i (r : Int)]) (ls0 := [some (g_r 34), some (g_i (c : Int)), some (g_i (w : Int)), some (g_i (r : Int)), none]) (by decide) rfl (Nat.le_of_ble_eq_true rfl) (g_hls (av := [g_r 34, g_i (c : Int), g_i (w : Int), g_i (r : Int)]) (k := 1)) (fun _ h9 => List.mem_cons_of_mem _ h9) ?_
  refine ev_iconst d_Ma_matchesAll_0 rfl ⟨by decide, by decide⟩ ?_
  refine ev_istore (i := 4) d_Ma_matchesAll_1 rfl (by decide) rfl ?_
  refine ev_wh (fun n ls1 M2 => ∃ (k : Nat) (bk : Nat → u_F), k ≤ w ∧ n = w - k ∧ ls1 = [some (g_r 34), some (g_i (c : Int)), some (g_i (w : Int)), some (g_i (r : Int)), some (g_i (k : Int))] ∧ g43 r M1 M2 ∧ u_fd (fun k b => u_m M (M 57 (3 * c + k)).toNat ((fun k => (H[w - 1 - k]?).getD Std.Format.nil) k) b) k b = (true, bk) ∧ u_b2 M2 r bk) ?_ (n := w) (⟨0, b, Nat.zero_le _, rfl, rfl, g43.rf _ _, rfl, hb⟩)
  intro n ls1 M2 hP0 ih
  obtain ⟨k, bk, hk, hn, rfl, hg2, hfd, hb2⟩ := hP0
  have hc2 := hc1.tr hg2.c
  refine ev_iload (i := 4) d_Ma_matchesAll_3 rfl rfl ?_
  refine ev_iload_n (i := 2) d_Ma_matchesAll_5 rfl rfl rfl ?_
  refine ev_icmp_ge (tgt := 47) d_Ma_matchesAll_6 (by decide) rfl (fun hz => ?_) (fun hz => ?_)
  · have ek : k = w := by omega
    subst ek
    refine ev_iconst d_Ma_matchesAll_47 rfl ⟨by decide, by decide⟩ ?_
    exact ev_retIR d_Ma_matchesAll_48 (⟨by rw [u_mc_fd, hfd]; rfl, hg2, by rw [u_mc_fd, hfd]; exact hb2⟩) (Or.inr ⟨rfl, by omega⟩)
  · have hkw2 : k < w := by omega
    have hpa := hcl.2.2.2.2.2.2.1 k (by rw [hcf, Int.toNat_natCast, hw]; omega)
    obtain ⟨p, hp⟩ : ∃ p : Nat, M 57 (3 * c + k) = p := ⟨(M 57 (3 * c + k)).toNat, by omega⟩
    rw [hp, Int.toNat_natCast] at hpa
    obtain ⟨x, t, htk, hxk, htx⟩ := u_hd_at hH hwl hkw2
    have hgk : (fun k b => u_m M (M 57 (3 * c + k)).toNat ((fun k => (H[w - 1 - k]?).getD Std.Format.nil) k) b) k bk = u_m M p t bk := by
      show u_m M (M 57 (3 * c + k)).toNat ((H[w - 1 - k]?).getD Std.Format.nil) bk = _
      rw [hp, Int.toNat_natCast, htk]
      rfl
    refine ev_aload_n (i := 0) d_Ma_matchesAll_9 rfl rfl rfl ?_
    refine ev_aload_n (i := 0) d_Ma_matchesAll_10 rfl rfl rfl ?_
    refine ev_getR d_Ma_matchesAll_11 rfl lk_Ma_19 lx_34 rfl ?_
    refine ev_iload_n (i := 1) d_Ma_matchesAll_14 rfl rfl rfl ?_
    refine ev_iload (i := 4) d_Ma_matchesAll_15 rfl rfl ?_
    refine ev_callV (As := [g_i (c : Int), g_i (k : Int)]) d_Ma_matchesAll_17 rfl cl_Ma_144 ((c_Cl_pattern (d + 102) M2 c k hc24 (by omega)).eqr (b := (p : Int)) (by rw [hc2 21 _ (by decide), hpa.1])) (g_hR (by decide)) g_h0 lx_19 rfl rfl (Nat.le_of_ble_eq_true rfl) rfl rfl ?_
    refine ev_aload_n (i := 0) d_Ma_matchesAll_20 rfl rfl rfl ?_
    refine ev_getR d_Ma_matchesAll_21 rfl lk_Ma_42 lx_34 rfl ?_
    refine ev_aload_n (i := 0) d_Ma_matchesAll_24 rfl rfl rfl ?_
    refine ev_getI (z := ((H.length - w : Nat) : Int)) d_Ma_matchesAll_25 rfl lk_Ma_64 lx_34 rfl ((hg2 34 9 (by omega)).trans h9) ?_
    refine ev_iload (i := 4) d_Ma_matchesAll_28 rfl rfl ?_
    refine ev_iadd (z := ((H.length - w + k : Nat) : Int)) d_Ma_matchesAll_30 rfl (by rw [g_w_id (by unfold g_rg; omega)]; omega) ?_
    refine ev_iaload (z := (x : Int)) d_Ma_matchesAll_31 rfl lx_42 (by omega) (by omega) (by rw [Int.toNat_natCast, hg2.fn (k := 42) (by decide)]; exact hxk) ?_
    refine ev_iload_n (i := 3) d_Ma_matchesAll_32 rfl rfl rfl ?_
    refine ev_callVR (As := [g_i (p : Int), g_i ((x : Int)), g_i (r : Int)]) d_Ma_matchesAll_33 rfl cl_Ma_147 (c_Ma_matches_d d hP hb6 hr (by omega) hpa.2.2.2.2.2 hc2 ((hg2 35 5 (by omega)).trans hbu) (hg2.rk htx) hb2) (g_hR (by decide)) g_h0 lx_34 rfl rfl (Nat.le_of_ble_eq_true rfl) rfl rfl (fun M3 v9 g9 => ?_)
    obtain ⟨rfl, hgm, hbm⟩ := g9
    refine ev_bne (tgt := 41) d_Ma_matchesAll_36 (by decide) rfl (fun hm => ?_) (fun hm => ?_)
    · refine ev_iinc (z := ((k + 1 : Nat) : Int)) d_Ma_matchesAll_41 rfl rfl (by decide) (by rw [g_w_id (by unfold g_rg; omega)]; omega) rfl ?_
      refine ev_goto (tgt := 3) d_Ma_matchesAll_44 (by decide) ?_
      exact ev_le (ih (w - (k + 1)) [some (g_r 34), some (g_i (c : Int)), some (g_i (w : Int)), some (g_i (r : Int)), some (g_i ((k + 1 : Nat) : Int))] M3 (by omega) ⟨k + 1, _, by omega, rfl, rfl, hg2.tr hgm, (u_fd_y hfd).trans (hgk.trans (Prod.ext hm rfl)), hbm⟩) rfl ⟨rfl, rfl, rfl, rfl, rfl, trivial⟩
    · have hEnd : u_fd (fun k b => u_m M (M 57 (3 * c + k)).toNat ((fun k => (H[w - 1 - k]?).getD Std.Format.nil) k) b) w b = (false, (u_m M p t bk).2) := by
        have h8 : u_fd (fun k b => u_m M (M 57 (3 * c + k)).toNat ((fun k => (H[w - 1 - k]?).getD Std.Format.nil) k) b) (k + 1) b = (false, (u_m M p t bk).2) := (u_fd_y hfd).trans (hgk.trans (Prod.ext (by simpa using hm) rfl))
        have h9 := u_fd_n h8 (w - (k + 1))
        rw [show k + 1 + (w - (k + 1)) = w by omega] at h9
        exact h9
      refine ev_iconst d_Ma_matchesAll_39 rfl ⟨by decide, by decide⟩ ?_
      exact ev_retIR d_Ma_matchesAll_40 (⟨by rw [u_mc_fd, hEnd]; rfl, hg2.tr hgm, by rw [u_mc_fd, hEnd]; exact hbm⟩) (Or.inr ⟨rfl, by omega⟩)
