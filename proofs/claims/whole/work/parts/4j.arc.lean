theorem q_a_cg {M M2 : g_M} (h : ∀ k : Nat, 46 ≤ k ∧ k < 59 → M2 k = M k) (x y : Nat) : q_a M2 x y = q_a M x y := by
  have key : ∀ f x y, q_al M2 f x y = q_al M f x y := by
    intro f
    induction f with
    | zero => intro x y; rfl
    | succ f ih =>
      intro x y
      simp only [q_al, q_w, ih, h 52 (by decide), h 53 (by decide), h 47 (by decide), h 50 (by decide)]
  exact key (x + 1) x y
theorem q_kids_cg {M M2 : g_M} (h : ∀ k : Nat, 46 ≤ k ∧ k < 59 → M2 k = M k) (t : Nat) : q_kids M2 t = q_kids M t := by
  unfold q_kids q_ks q_w
  rw [h 52 (by decide), h 47 (by decide), h 50 (by decide), h 53 (by decide)]
theorem z_arc_cg {M M2 : g_M} (h : ∀ k : Nat, 46 ≤ k ∧ k < 59 → M2 k = M k) (p x : Nat) : z_arc M2 p x = z_arc M p x := by
  have e1 : ∀ u, q_a M2 u x = q_a M u x := fun u => q_a_cg h u x
  have e2 : q_pl M2 = q_pl M := funext fun t => q_pl_cg h t
  unfold z_arc q_in
  simp only [e1, e2, q_kids_cg h]
theorem k_c_cg {M M2 : g_M} (h : ∀ k : Nat, 46 ≤ k ∧ k < 59 → M2 k = M k) (t : Nat) : k_c M2 t = k_c M t := by
  unfold k_c
  rw [q_pl_cg h, h 52 (by decide)]
theorem e_c_46 (M : g_M) (l : List Nat) : ∀ k : Nat, 46 ≤ k ∧ k < 59 → e_c M l k = M k := fun k hk => e_c_ne (by omega) (by omega)
theorem e_c_at (M : g_M) {l : List Nat} {k x : Nat} (h : l[k]? = some x) : e_c M l 31 k = x := by
  have hl : k < l.length := (List.getElem?_eq_some_iff.mp h).1
  unfold e_c
  rw [if_pos ⟨rfl, hl⟩, h]
  rfl
theorem c_En_collectCallsIn_u {M : g_M} (hP : r_P M) (t d : Nat) (ht : (t : Int) < M 45 8) : Con y_En_collectCallsIn w_En_collectCallsIn (g_rm (d + 101)) LX (e_c M []) [g_r 30, g_i (t : Int)] LX (e_c M (k_c M t)) none := by
  have hT := hP.2.2.1.2.1
  have hnt := hT.2.1
  have hlen := q_pl_len hT t ht
  have h40 := (hT.2.2 t ht).2.2.2.2.2.1
  have h := c_En_collectCallsIn hP t (d + (100 - t)) [] ht (by rw [List.length_nil]; omega)
  rw [show d + (100 - t) + t + 1 = d + 101 by omega, List.nil_append] at h
  exact h
theorem c_En_collectCalls (d : Nat) (M : g_M) (c b : Nat) (hP : r_P M) (hc : c < 24) (hb : M 22 c = b) (hbt : (b : Int) < M 45 8) : Con y_En_collectCalls w_En_collectCalls (g_rm (d + 102)) LX M [g_r 30, g_i (c : Int)] LX (e_c M (k_c M b)) none := by
  refine con_of (av := [g_r 30, g_i (c : Int)]) (ls0 := [some (g_r 30), some (g_i (c : Int))]) (by decide) rfl (Nat.le_of_ble_eq_true rfl) (g_hls (av := [g_r 30, g_i (c : Int)]) (k := 0)) (fun _ h9 => List.mem_cons_of_mem _ h9) ?_
  refine ev_aload_n (i := 0) d_En_collectCalls_0 rfl rfl rfl ?_
  refine ev_iconst d_En_collectCalls_1 rfl ⟨by decide, by decide⟩ ?_
  refine ev_putI d_En_collectCalls_2 rfl lk_En_37 fp_En_4 (Or.inl rfl) lx_30 rfl ?_
  refine ev_aload_n (i := 0) d_En_collectCalls_5 rfl rfl rfl ?_
  refine ev_aload_n (i := 0) d_En_collectCalls_6 rfl rfl rfl ?_
  refine ev_getR d_En_collectCalls_7 rfl lk_En_19 lx_30 rfl ?_
  refine ev_iload_n (i := 1) d_En_collectCalls_10 rfl rfl rfl ?_
  refine ev_callV (As := [g_i (c : Int)]) d_En_collectCalls_11 rfl cl_En_41 ((c_Cl_body (d + 101) (g_up M 30 4 0) c hc).eqr (b := (b : Int)) (hb)) (g_hR (by decide)) g_h0 lx_19 rfl rfl (Nat.le_of_ble_eq_true rfl) rfl rfl ?_
  refine ev_callV (As := [g_i (b : Int)]) d_En_collectCalls_14 rfl cl_En_47 ((e_c_0 M) ▸ c_En_collectCallsIn_u hP b d hbt) (g_hR (by decide)) g_h0 lx_30 rfl rfl (Nat.le_of_ble_eq_true rfl) rfl rfl ?_
  exact ev_retV d_En_collectCalls_17 rfl
theorem c_En_callInBody (d : Nat) (M : g_M) (c b k x : Nat) (hP : r_P M) (hc : c < 24) (hb : M 22 c = b) (hbt : (b : Int) < M 45 8) (hk : (k_c M b)[k]? = some x) (hk40 : k < 40) : Con y_En_callInBody w_En_callInBody (g_rm (d + 103)) LX M [g_r 30, g_i (c : Int), g_i (k : Int)] LX (e_c M (k_c M b)) (some (g_i (x : Int))) := by
  refine con_of (av := [g_r 30, g_i (c : Int), g_i (k : Int)]) (ls0 := [some (g_r 30), some (g_i (c : Int)), some (g_i (k : Int))]) (by decide) rfl (Nat.le_of_ble_eq_true rfl) (g_hls (av := [g_r 30, g_i (c : Int), g_i (k : Int)]) (k := 0)) (fun _ h9 => List.mem_cons_of_mem _ h9) ?_
  refine ev_aload_n (i := 0) d_En_callInBody_0 rfl rfl rfl ?_
  refine ev_iload_n (i := 1) d_En_callInBody_1 rfl rfl rfl ?_
  refine ev_callV (As := [g_i (c : Int)]) d_En_callInBody_2 rfl cl_En_33 (c_En_collectCalls d M c b hP hc hb hbt) (g_hR (by decide)) g_h0 lx_30 rfl rfl (Nat.le_of_ble_eq_true rfl) rfl rfl ?_
  refine ev_iload_n (i := 2) d_En_callInBody_5 rfl rfl rfl ?_
  refine ev_if_lt_f (tgt := 26) d_En_callInBody_6 (by decide) rfl (by omega) ?_
  refine ev_iload_n (i := 2) d_En_callInBody_9 rfl rfl rfl ?_
  refine ev_aload_n (i := 0) d_En_callInBody_10 rfl rfl rfl ?_
  refine ev_getI (z := ((k_c M b).length : Int)) d_En_callInBody_11 rfl lk_En_37 lx_30 rfl (e_c_n M _) ?_
  refine ev_icmp_ge_f (tgt := 26) d_En_callInBody_14 (by decide) rfl (by have hl := (List.getElem?_eq_some_iff.mp hk).1; omega) ?_
  refine ev_aload_n (i := 0) d_En_callInBody_17 rfl rfl rfl ?_
  refine ev_getR d_En_callInBody_18 rfl lk_En_23 lx_30 rfl ?_
  refine ev_iload_n (i := 2) d_En_callInBody_21 rfl rfl rfl ?_
  refine ev_iaload (z := (x : Int)) d_En_callInBody_22 rfl lx_31 (by omega) (by omega) (e_c_at M hk) ?_
  refine ev_goto (tgt := 27) d_En_callInBody_23 (by decide) ?_
  exact ev_retI d_En_callInBody_27 (by first | rfl | omega | simp_all) rfl (Or.inl rfl)
theorem c_En_callInBody_n (d : Nat) (M : g_M) (c b : Nat) (k : Int) (hP : r_P M) (hc : c < 24) (hb : M 22 c = b) (hbt : (b : Int) < M 45 8) (hk : k < 0 ∨ ((k_c M b).length : Int) ≤ k) : Con y_En_callInBody w_En_callInBody (g_rm (d + 103)) LX M [g_r 30, g_i (c : Int), g_i k] LX (e_c M (k_c M b)) (some (g_i (-1))) := by
  refine con_of (av := [g_r 30, g_i (c : Int), g_i k]) (ls0 := [some (g_r 30), some (g_i (c : Int)), some (g_i k)]) (by decide) rfl (Nat.le_of_ble_eq_true rfl) (g_hls (av := [g_r 30, g_i (c : Int), g_i k]) (k := 0)) (fun _ h9 => List.mem_cons_of_mem _ h9) ?_
  refine ev_aload_n (i := 0) d_En_callInBody_0 rfl rfl rfl ?_
  refine ev_iload_n (i := 1) d_En_callInBody_1 rfl rfl rfl ?_
  refine ev_callV (As := [g_i (c : Int)]) d_En_callInBody_2 rfl cl_En_33 (c_En_collectCalls d M c b hP hc hb hbt) (g_hR (by decide)) g_h0 lx_30 rfl rfl (Nat.le_of_ble_eq_true rfl) rfl rfl ?_
  refine ev_iload_n (i := 2) d_En_callInBody_5 rfl rfl rfl ?_
  refine ev_if_lt (tgt := 26) d_En_callInBody_6 (by decide) rfl (fun c1 => ?_) (fun c1 => ?_)
  · refine ev_iconst d_En_callInBody_26 rfl ⟨by decide, by decide⟩ ?_
    exact ev_retI d_En_callInBody_27 (by first | rfl | omega | simp_all) rfl (Or.inl rfl)
  · refine ev_iload_n (i := 2) d_En_callInBody_9 rfl rfl rfl ?_
    refine ev_aload_n (i := 0) d_En_callInBody_10 rfl rfl rfl ?_
    refine ev_getI (z := ((k_c M b).length : Int)) d_En_callInBody_11 rfl lk_En_37 lx_30 rfl (e_c_n M _) ?_
    refine ev_icmp_ge_t (tgt := 26) d_En_callInBody_14 (by decide) (by omega) ?_
    refine ev_iconst d_En_callInBody_26 rfl ⟨by decide, by decide⟩ ?_
    exact ev_retI d_En_callInBody_27 (by first | rfl | omega | simp_all) rfl (Or.inl rfl)
theorem c_Fu_arc (d : Nat) (M : g_M) (c b k x f wf wx i j p y : Nat) (hP : r_P M) (hc : c < 24) (hcm : (c : Int) < M 19 7) (hb : M 22 c = b) (hbt : (b : Int) < M 45 8) (hk : (k_c M b)[k]? = some x) (hk40 : k < 40) (hf : M 20 c = f) (hf6 : f < 6) (hwf : M 7 f = wf) (hwf3 : wf ≤ 3) (hx100 : x < 100) (hwx : M 12 x = wx) (hwx3 : wx ≤ 3) (hi : i < wf) (hj : j < wx) (hp : M 21 (3 * c + i) = p) (hy : M 13 (3 * x + j) = y) (hpt : (p : Int) < M 45 8) (hyt : (y : Int) < M 45 8) (hno : ∀ u ∈ q_pl M p, M 52 u < 16) : Con y_Fu_arc w_Fu_arc (g_rm (d + 204)) LX M [g_r 0, g_i (c : Int), g_i (k : Int), g_i (i : Int), g_i (j : Int)] LX (e_c M (k_c M b)) (some (g_i (z_arc M p y))) := by
  refine con_of (av := [g_r 0, g_i (c : Int), g_i (k : Int), g_i (i : Int), g_i (j : Int)]) (ls0 := [some (g_r 0), some (g_i (c : Int)), some (g_i (k : Int)), some (g_i (i : Int)), some (g_i (j : Int)), none, none]) (by decide) rfl (Nat.le_of_ble_eq_true rfl) (g_hls (av := [g_r 0, g_i (c : Int), g_i (k : Int), g_i (i : Int), g_i (j : Int)]) (k := 2)) (fun _ h9 => List.mem_cons_of_mem _ h9) ?_
  refine ev_aload_n (i := 0) d_Fu_arc_0 rfl rfl rfl ?_
  refine ev_getR d_Fu_arc_1 rfl lk_Fu_33 lx_0 rfl ?_
  refine ev_iload_n (i := 1) d_Fu_arc_4 rfl rfl rfl ?_
  refine ev_callV (As := [g_i (c : Int)]) d_Fu_arc_5 rfl cl_Fu_149 (c_Cl_has (d + 203) M (c : Int)) (g_hR (by decide)) g_h0 lx_19 rfl rfl (Nat.le_of_ble_eq_true rfl) rfl rfl ?_
  refine ev_if_ne_t (tgt := 21) d_Fu_arc_8 (by decide) (by rw [if_pos ⟨by omega, hcm⟩]; decide) ?_
  refine ev_aload_n (i := 0) d_Fu_arc_21 rfl rfl rfl ?_
  refine ev_getR d_Fu_arc_22 rfl lk_Fu_58 lx_0 rfl ?_
  refine ev_iload_n (i := 1) d_Fu_arc_25 rfl rfl rfl ?_
  refine ev_iload_n (i := 2) d_Fu_arc_26 rfl rfl rfl ?_
  refine ev_callV (As := [g_i (c : Int), g_i (k : Int)]) d_Fu_arc_27 rfl cl_Fu_152 (c_En_callInBody (d + 100) M c b k x hP hc hb hbt hk hk40) (g_hR (by decide)) g_h0 lx_30 rfl rfl (Nat.le_of_ble_eq_true rfl) rfl rfl ?_
  refine ev_istore (i := 5) d_Fu_arc_30 rfl (by decide) rfl ?_
  refine ev_iload (i := 5) d_Fu_arc_32 rfl rfl ?_
  refine ev_iconst d_Fu_arc_34 rfl ⟨by decide, by decide⟩ ?_
  refine ev_icmp_ne_t (tgt := 48) d_Fu_arc_35 (by decide) (by omega) ?_
  refine ev_aload_n (i := 0) d_Fu_arc_48 rfl rfl rfl ?_
  refine ev_getR d_Fu_arc_49 rfl lk_Fu_18 lx_0 rfl ?_
  refine ev_aload_n (i := 0) d_Fu_arc_52 rfl rfl rfl ?_
  refine ev_getR d_Fu_arc_53 rfl lk_Fu_33 lx_0 rfl ?_
  refine ev_iload_n (i := 1) d_Fu_arc_56 rfl rfl rfl ?_
  refine ev_callV (As := [g_i (c : Int)]) d_Fu_arc_57 rfl cl_Fu_158 ((c_Cl_owner (d + 203) (e_c M (k_c M b)) c hc).eqr (b := (f : Int)) (by rw [e_c_ne (by decide) (by decide)]; exact hf)) (g_hR (by decide)) g_h0 lx_19 rfl rfl (Nat.le_of_ble_eq_true rfl) rfl rfl ?_
  refine ev_callV (As := [g_i (f : Int)]) d_Fu_arc_60 rfl cl_Fu_112 ((c_Sg_width_f (d + 203) (e_c M (k_c M b)) f hf6).eqr (b := (wf : Int)) (by rw [e_c_ne (by decide) (by decide)]; exact hwf)) (g_hR (by decide)) g_h0 lx_5 rfl rfl (Nat.le_of_ble_eq_true rfl) rfl rfl ?_
  refine ev_istore (i := 6) d_Fu_arc_63 rfl (by decide) rfl ?_
  refine ev_iload_n (i := 3) d_Fu_arc_65 rfl rfl rfl ?_
  refine ev_if_lt_f (tgt := 94) d_Fu_arc_66 (by decide) rfl (by omega) ?_
  refine ev_iload_n (i := 3) d_Fu_arc_69 rfl rfl rfl ?_
  refine ev_iload (i := 6) d_Fu_arc_70 rfl rfl ?_
  refine ev_icmp_ge_f (tgt := 94) d_Fu_arc_72 (by decide) rfl (by omega) ?_
  refine ev_iload (i := 4) d_Fu_arc_75 rfl rfl ?_
  refine ev_if_lt_f (tgt := 94) d_Fu_arc_77 (by decide) rfl (by omega) ?_
  refine ev_iload (i := 4) d_Fu_arc_80 rfl rfl ?_
  refine ev_aload_n (i := 0) d_Fu_arc_82 rfl rfl rfl ?_
  refine ev_getR d_Fu_arc_83 rfl lk_Fu_24 lx_0 rfl ?_
  refine ev_iload (i := 5) d_Fu_arc_86 rfl rfl ?_
  refine ev_callV (As := [g_i (x : Int)]) d_Fu_arc_88 rfl cl_Fu_161 ((c_Te_width (d + 203) (e_c M (k_c M b)) x hx100).eqr (b := (wx : Int)) (by rw [e_c_ne (by decide) (by decide)]; exact hwx)) (g_hR (by decide)) g_h0 lx_9 rfl rfl (Nat.le_of_ble_eq_true rfl) rfl rfl ?_
  refine ev_icmp_lt_t (tgt := 104) d_Fu_arc_91 (by decide) (by omega) ?_
  refine ev_aload_n (i := 0) d_Fu_arc_104 rfl rfl rfl ?_
  refine ev_getR d_Fu_arc_105 rfl lk_Fu_58 lx_0 rfl ?_
  refine ev_aload_n (i := 0) d_Fu_arc_108 rfl rfl rfl ?_
  refine ev_getR d_Fu_arc_109 rfl lk_Fu_33 lx_0 rfl ?_
  refine ev_iload_n (i := 1) d_Fu_arc_112 rfl rfl rfl ?_
  refine ev_iload_n (i := 3) d_Fu_arc_113 rfl rfl rfl ?_
  refine ev_callV (As := [g_i (c : Int), g_i (i : Int)]) d_Fu_arc_114 rfl cl_Fu_164 ((c_Cl_pattern (d + 203) (e_c M (k_c M b)) c i hc (by omega)).eqr (b := (p : Int)) (by rw [e_c_ne (by decide) (by decide)]; exact hp)) (g_hR (by decide)) g_h0 lx_19 rfl rfl (Nat.le_of_ble_eq_true rfl) rfl rfl ?_
  refine ev_aload_n (i := 0) d_Fu_arc_117 rfl rfl rfl ?_
  refine ev_getR d_Fu_arc_118 rfl lk_Fu_24 lx_0 rfl ?_
  refine ev_iload (i := 5) d_Fu_arc_121 rfl rfl ?_
  refine ev_iload (i := 4) d_Fu_arc_123 rfl rfl ?_
  refine ev_callV (As := [g_i (x : Int), g_i (j : Int)]) d_Fu_arc_125 rfl cl_Fu_167 ((c_Te_part (d + 203) (e_c M (k_c M b)) x j hx100 (by omega)).eqr (b := (y : Int)) (by rw [e_c_ne (by decide) (by decide)]; exact hy)) (g_hR (by decide)) g_h0 lx_9 rfl rfl (Nat.le_of_ble_eq_true rfl) rfl rfl ?_
  refine ev_callV (As := [g_i (p : Int), g_i (y : Int)]) d_Fu_arc_128 rfl cl_Fu_170 ((c_En_arcBetween (r_P_fr hP (e_c_fr (k_c M b))) p (d + 0) y (by rw [e_c_ne (by decide) (by decide)]; exact hpt) (by rw [e_c_ne (by decide) (by decide)]; exact hyt) (fun u hu => by rw [q_pl_cg (e_c_46 M _)] at hu; rw [e_c_ne (by decide) (by decide)]; exact hno u hu)).eqr (b := z_arc M p y) (z_arc_cg (e_c_46 M _) p y)) (g_hR (by decide)) g_h0 lx_30 rfl rfl (Nat.le_of_ble_eq_true rfl) rfl rfl ?_
  exact ev_retI d_Fu_arc_131 (by first | rfl | omega | simp_all) rfl (Or.inl rfl)
theorem c_Fu_arc_x1 (d : Nat) (M : g_M) (c b : Nat) (k i j : Int) (hP : r_P M) (hc : c < 24) (hcm : (c : Int) < M 19 7) (hb : M 22 c = b) (hbt : (b : Int) < M 45 8) (hk : k < 0 ∨ ((k_c M b).length : Int) ≤ k) : CoX y_Fu_arc w_Fu_arc (g_ra (d + 204) 1 6) LX M [g_r 0, g_i (c : Int), g_i k, g_i i, g_i j] (e_c M (k_c M b)) x_E1 := by
  refine conX_of (av := [g_r 0, g_i (c : Int), g_i k, g_i i, g_i j]) (ls0 := [some (g_r 0), some (g_i (c : Int)), some (g_i k), some (g_i i), some (g_i j), none, none]) (by decide) rfl (Nat.le_of_ble_eq_true rfl) (g_hls (av := [g_r 0, g_i (c : Int), g_i k, g_i i, g_i j]) (k := 2)) (fun _ h9 => List.mem_cons_of_mem _ h9) rfl ⟨by show 6 ≤ d + 204; omega, by show 90 ≤ 40 * (d + 204); omega⟩ ⟨Nat.le_refl _, Nat.le_refl _⟩ ?_
  refine ev_aload_n (i := 0) d_Fu_arc_0 rfl rfl rfl ?_
  refine ev_getR d_Fu_arc_1 rfl lk_Fu_33 lx_0 rfl ?_
  refine ev_iload_n (i := 1) d_Fu_arc_4 rfl rfl rfl ?_
  refine ev_callV (As := [g_i (c : Int)]) d_Fu_arc_5 rfl cl_Fu_149 (c_Cl_has (d + 203) M (c : Int)) (g_hR (by decide)) ⟨Nat.zero_le _, Nat.zero_le _⟩ lx_19 rfl rfl (Nat.le_of_ble_eq_true rfl) rfl rfl ?_
  refine ev_if_ne_t (tgt := 21) d_Fu_arc_8 (by decide) (by rw [if_pos ⟨by omega, hcm⟩]; decide) ?_
  refine ev_aload_n (i := 0) d_Fu_arc_21 rfl rfl rfl ?_
  refine ev_getR d_Fu_arc_22 rfl lk_Fu_58 lx_0 rfl ?_
  refine ev_iload_n (i := 1) d_Fu_arc_25 rfl rfl rfl ?_
  refine ev_iload_n (i := 2) d_Fu_arc_26 rfl rfl rfl ?_
  refine ev_callV (As := [g_i (c : Int), g_i k]) d_Fu_arc_27 rfl cl_Fu_152 (c_En_callInBody_n (d + 100) M c b k hP hc hb hbt hk) (g_hR (by decide)) ⟨Nat.zero_le _, Nat.zero_le _⟩ lx_30 rfl rfl (Nat.le_of_ble_eq_true rfl) rfl rfl ?_
  refine ev_istore (i := 5) d_Fu_arc_30 rfl (by decide) rfl ?_
  refine ev_iload (i := 5) d_Fu_arc_32 rfl rfl ?_
  refine ev_iconst d_Fu_arc_34 rfl ⟨by decide, by decide⟩ ?_
  refine ev_icmp_ne_f (tgt := 48) d_Fu_arc_35 (by decide) rfl (by decide) ?_
  exact ev_done ⟨rfl, rfl, rfl, rfl, rfl, 77, 156, 81, _, x_ex1, List.mem_of_getElem? (i := 10) rfl, d_Fu_arc_38, d_Fu_arc_41, d_Fu_arc_42, d_Fu_arc_44, d_Fu_arc_47⟩
theorem c_Fu_arc_x2 (d : Nat) (M : g_M) (c b k x f wf wx : Nat) (i j : Int) (hP : r_P M) (hc : c < 24) (hcm : (c : Int) < M 19 7) (hb : M 22 c = b) (hbt : (b : Int) < M 45 8) (hk : (k_c M b)[k]? = some x) (hk40 : k < 40) (hf : M 20 c = f) (hf6 : f < 6) (hwf : M 7 f = wf) (hwf3 : wf ≤ 3) (hx100 : x < 100) (hwx : M 12 x = wx) (hwx3 : wx ≤ 3) (hij : ¬ (0 ≤ i ∧ i < wf ∧ 0 ≤ j ∧ j < wx)) : CoX y_Fu_arc w_Fu_arc (g_ra (d + 204) 1 6) LX M [g_r 0, g_i (c : Int), g_i (k : Int), g_i i, g_i j] (e_c M (k_c M b)) x_E1 := by
  refine conX_of (av := [g_r 0, g_i (c : Int), g_i (k : Int), g_i i, g_i j]) (ls0 := [some (g_r 0), some (g_i (c : Int)), some (g_i (k : Int)), some (g_i i), some (g_i j), none, none]) (by decide) rfl (Nat.le_of_ble_eq_true rfl) (g_hls (av := [g_r 0, g_i (c : Int), g_i (k : Int), g_i i, g_i j]) (k := 2)) (fun _ h9 => List.mem_cons_of_mem _ h9) rfl ⟨by show 6 ≤ d + 204; omega, by show 90 ≤ 40 * (d + 204); omega⟩ ⟨Nat.le_refl _, Nat.le_refl _⟩ ?_
  refine ev_aload_n (i := 0) d_Fu_arc_0 rfl rfl rfl ?_
  refine ev_getR d_Fu_arc_1 rfl lk_Fu_33 lx_0 rfl ?_
  refine ev_iload_n (i := 1) d_Fu_arc_4 rfl rfl rfl ?_
  refine ev_callV (As := [g_i (c : Int)]) d_Fu_arc_5 rfl cl_Fu_149 (c_Cl_has (d + 203) M (c : Int)) (g_hR (by decide)) ⟨Nat.zero_le _, Nat.zero_le _⟩ lx_19 rfl rfl (Nat.le_of_ble_eq_true rfl) rfl rfl ?_
  refine ev_if_ne_t (tgt := 21) d_Fu_arc_8 (by decide) (by rw [if_pos ⟨by omega, hcm⟩]; decide) ?_
  refine ev_aload_n (i := 0) d_Fu_arc_21 rfl rfl rfl ?_
  refine ev_getR d_Fu_arc_22 rfl lk_Fu_58 lx_0 rfl ?_
  refine ev_iload_n (i := 1) d_Fu_arc_25 rfl rfl rfl ?_
  refine ev_iload_n (i := 2) d_Fu_arc_26 rfl rfl rfl ?_
  refine ev_callV (As := [g_i (c : Int), g_i (k : Int)]) d_Fu_arc_27 rfl cl_Fu_152 (c_En_callInBody (d + 100) M c b k x hP hc hb hbt hk hk40) (g_hR (by decide)) ⟨Nat.zero_le _, Nat.zero_le _⟩ lx_30 rfl rfl (Nat.le_of_ble_eq_true rfl) rfl rfl ?_
  refine ev_istore (i := 5) d_Fu_arc_30 rfl (by decide) rfl ?_
  refine ev_iload (i := 5) d_Fu_arc_32 rfl rfl ?_
  refine ev_iconst d_Fu_arc_34 rfl ⟨by decide, by decide⟩ ?_
  refine ev_icmp_ne_t (tgt := 48) d_Fu_arc_35 (by decide) (by omega) ?_
  refine ev_aload_n (i := 0) d_Fu_arc_48 rfl rfl rfl ?_
  refine ev_getR d_Fu_arc_49 rfl lk_Fu_18 lx_0 rfl ?_
  refine ev_aload_n (i := 0) d_Fu_arc_52 rfl rfl rfl ?_
  refine ev_getR d_Fu_arc_53 rfl lk_Fu_33 lx_0 rfl ?_
  refine ev_iload_n (i := 1) d_Fu_arc_56 rfl rfl rfl ?_
  refine ev_callV (As := [g_i (c : Int)]) d_Fu_arc_57 rfl cl_Fu_158 ((c_Cl_owner (d + 203) (e_c M (k_c M b)) c hc).eqr (b := (f : Int)) (by rw [e_c_ne (by decide) (by decide)]; exact hf)) (g_hR (by decide)) ⟨Nat.zero_le _, Nat.zero_le _⟩ lx_19 rfl rfl (Nat.le_of_ble_eq_true rfl) rfl rfl ?_
  refine ev_callV (As := [g_i (f : Int)]) d_Fu_arc_60 rfl cl_Fu_112 ((c_Sg_width_f (d + 203) (e_c M (k_c M b)) f hf6).eqr (b := (wf : Int)) (by rw [e_c_ne (by decide) (by decide)]; exact hwf)) (g_hR (by decide)) ⟨Nat.zero_le _, Nat.zero_le _⟩ lx_5 rfl rfl (Nat.le_of_ble_eq_true rfl) rfl rfl ?_
  refine ev_istore (i := 6) d_Fu_arc_63 rfl (by decide) rfl ?_
  refine ev_iload_n (i := 3) d_Fu_arc_65 rfl rfl rfl ?_
  refine ev_if_lt (tgt := 94) d_Fu_arc_66 (by decide) rfl (fun c1 => ?_) (fun c1 => ?_)
  · exact ev_done ⟨rfl, rfl, rfl, rfl, rfl, 77, 162, 81, _, x_ex1, List.mem_of_getElem? (i := 11) rfl, d_Fu_arc_94, d_Fu_arc_97, d_Fu_arc_98, d_Fu_arc_100, d_Fu_arc_103⟩
  · refine ev_iload_n (i := 3) d_Fu_arc_69 rfl rfl rfl ?_
    refine ev_iload (i := 6) d_Fu_arc_70 rfl rfl ?_
    refine ev_icmp_ge (tgt := 94) d_Fu_arc_72 (by decide) rfl (fun c2 => ?_) (fun c2 => ?_)
    · exact ev_done ⟨rfl, rfl, rfl, rfl, rfl, 77, 162, 81, _, x_ex1, List.mem_of_getElem? (i := 11) rfl, d_Fu_arc_94, d_Fu_arc_97, d_Fu_arc_98, d_Fu_arc_100, d_Fu_arc_103⟩
    · refine ev_iload (i := 4) d_Fu_arc_75 rfl rfl ?_
      refine ev_if_lt (tgt := 94) d_Fu_arc_77 (by decide) rfl (fun c3 => ?_) (fun c3 => ?_)
      · exact ev_done ⟨rfl, rfl, rfl, rfl, rfl, 77, 162, 81, _, x_ex1, List.mem_of_getElem? (i := 11) rfl, d_Fu_arc_94, d_Fu_arc_97, d_Fu_arc_98, d_Fu_arc_100, d_Fu_arc_103⟩
      · refine ev_iload (i := 4) d_Fu_arc_80 rfl rfl ?_
        refine ev_aload_n (i := 0) d_Fu_arc_82 rfl rfl rfl ?_
        refine ev_getR d_Fu_arc_83 rfl lk_Fu_24 lx_0 rfl ?_
        refine ev_iload (i := 5) d_Fu_arc_86 rfl rfl ?_
        refine ev_callV (As := [g_i (x : Int)]) d_Fu_arc_88 rfl cl_Fu_161 ((c_Te_width (d + 203) (e_c M (k_c M b)) x hx100).eqr (b := (wx : Int)) (by rw [e_c_ne (by decide) (by decide)]; exact hwx)) (g_hR (by decide)) ⟨Nat.zero_le _, Nat.zero_le _⟩ lx_9 rfl rfl (Nat.le_of_ble_eq_true rfl) rfl rfl ?_
        refine ev_icmp_lt_f (tgt := 104) d_Fu_arc_91 (by decide) rfl (by omega) ?_
        exact ev_done ⟨rfl, rfl, rfl, rfl, rfl, 77, 162, 81, _, x_ex1, List.mem_of_getElem? (i := 11) rfl, d_Fu_arc_94, d_Fu_arc_97, d_Fu_arc_98, d_Fu_arc_100, d_Fu_arc_103⟩
