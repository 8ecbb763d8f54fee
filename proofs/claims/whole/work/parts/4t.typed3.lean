/-- all but the stack and the reference's types of variables -/
def e65 (M M1 : g_M) : Prop := ∀ k b : Nat, k ≠ 62 → k ≠ 63 → k ≠ 65 → ¬ (k = 45 ∧ b = 22) → M1 k b = M k b
theorem e65.rf (M : g_M) : e65 M M := fun _ _ _ _ _ _ => rfl
theorem e65.tr {M M1 M2 : g_M} (h : e65 M M1) (h2 : e65 M1 M2) : e65 M M2 := fun k b h3 h4 h5 h6 => (h2 k b h3 h4 h5 h6).trans (h k b h3 h4 h5 h6)
theorem q_eq.e65 {M M2 : g_M} (h : q_eq M M2) : e65 M M2 := fun k b h1 h2 _ h4 => h k b h1 h2 h4
theorem e65.fn {M M1 : g_M} (h : e65 M M1) {k : Nat} (h1 : k ≠ 62) (h2 : k ≠ 63) (h3 : k ≠ 65) (h4 : k ≠ 45) : M1 k = M k := funext fun b => h k b h1 h2 h3 (fun h9 => h4 h9.1)
theorem e65.up {M M1 : g_M} (h : e65 M M1) (i : Nat) (z : Int) : e65 M (g_up M1 65 i z) := fun k b h1 h2 h3 h4 => by rw [g_up_ne h3]; exact h k b h1 h2 h3 h4
theorem e65.e46 {M M1 : g_M} (h : e65 M M1) : ∀ k : Nat, 46 ≤ k ∧ k < 59 → M1 k = M k := fun k hk => h.fn (by omega) (by omega) (by omega) (by omega)
theorem q_w_65 {M M1 : g_M} (h : e65 M M1) (t : Nat) : q_w M1 t = q_w M t := by
  unfold q_w
  rw [h.e46 52 (by decide), h.e46 47 (by decide), h.e46 50 (by decide)]
theorem q_s2_65 {M : g_M} {S : List (Nat × Int)} (h : q_s2 M S) (i : Nat) (z : Int) : q_s2 (g_up M 65 i z) S := h
/-- the pairs of a made or called term -/
theorem q_pt2_iff (M : g_M) (V : Nat → Int) (x : Nat) : ∀ w : Nat, (∀ e ∈ q_pt2 M x w, q_t (zv M V) e.1 e.2 = true) ↔ ∀ k : Nat, k < w → q_t (zv M V) (M 53 (3 * x + k)).toNat (q_py M x k) = true
  | 0 => ⟨fun _ k hk => by omega, fun _ e he => by simp [q_pt2] at he⟩
  | w + 1 => by
    rw [q_pt2]
    constructor
    · intro h k hk
      by_cases hkw : k = w
      · subst hkw
        exact h _ List.mem_cons_self
      · exact (q_pt2_iff M V x w).mp (fun e he => h e (List.mem_cons_of_mem _ he)) k (by omega)
    · intro h e he
      rcases List.mem_cons.mp he with rfl | he
      · exact h w (by omega)
      · exact (q_pt2_iff M V x w).mpr (fun k hk => h k (by omega)) e he
/-- the variables of pairs -/
def v_e (M : g_M) (S : List (Nat × Int)) : List Nat := S.flatMap (fun e => v_l M e.1)
theorem v_e_pt2 (M : g_M) (x : Nat) : ∀ w : Nat, ∀ v, v ∈ v_e M (q_pt2 M x w) ↔ v ∈ (List.range w).flatMap (fun i => v_l M (M 53 (3 * x + i)).toNat)
  | 0, v => by simp [q_pt2, v_e]
  | w + 1, v => by
    have ih := v_e_pt2 M x w v
    unfold v_e at ih ⊢
    rw [q_pt2, List.flatMap_cons, List.mem_append, ih, List.range_succ, List.flatMap_append, List.mem_append, List.flatMap_cons, List.flatMap_nil, List.append_nil]
    exact or_comm
theorem v_e_nd (M : g_M) (x : Nat) : ∀ w : Nat, ((List.range w).flatMap (fun i => v_l M (M 53 (3 * x + i)).toNat)).Nodup → (v_e M (q_pt2 M x w)).Nodup
  | 0, _ => by simp [q_pt2, v_e]
  | w + 1, h => by
    rw [List.range_succ, List.flatMap_append, List.flatMap_cons, List.flatMap_nil, List.append_nil] at h
    obtain ⟨h1, h2, h3⟩ := List.nodup_append.mp h
    have ih := v_e_nd M x w h1
    have e : v_e M (q_pt2 M x (w + 1)) = v_l M (M 53 (3 * x + w)).toNat ++ v_e M (q_pt2 M x w) := by
      unfold v_e
      rw [q_pt2, List.flatMap_cons]
    rw [e]
    refine List.nodup_append.mpr ⟨h2, ih, fun a ha b hb hab => ?_⟩
    exact h3 b ((v_e_pt2 M x w b).mp hb) a ha hab.symm
/-- what is still to be looked at -/
def z_j (M : g_M) (t : Nat) (u : Int) (S : List (Nat × Int)) (A V1 : Nat → Int) : Prop := ∃ D : List Nat, (D ++ v_e M S).Nodup ∧ (∀ v ∈ D ++ v_e M S, v ∈ v_l M t) ∧ (∀ v, v ∉ D → V1 v = A v) ∧ (∀ V : Nat → Int, (∀ e ∈ S, q_t (zv M V) e.1 e.2 = true) → (∀ v ∈ D, V v = V1 v) → q_t (zv M V) t u = true) ∧ ∀ V : Nat → Int, q_t (zv M V) t u = true → ∀ e ∈ S, q_t (zv M V) e.1 e.2 = true
theorem z_j_0 {M : g_M} {t : Nat} {u : Int} {A : Nat → Int} (hn : (v_l M t).Nodup) : z_j M t u [(t, u)] A A := by
  have e : v_e M [(t, u)] = v_l M t := by
    unfold v_e
    rw [List.flatMap_cons, List.flatMap_nil, List.append_nil]
  refine ⟨[], by rw [List.nil_append, e]; exact hn, fun v hv => by rw [List.nil_append, e] at hv; exact hv, fun _ _ => rfl, fun V h _ => h (t, u) List.mem_cons_self, fun V h e9 he => ?_⟩
  rw [List.mem_singleton.mp he]
  exact h
theorem z_j_v {M : g_M} (hT : q_T M) {t x : Nat} {u y : Int} {S : List (Nat × Int)} {A V1 : Nat → Int} (hx : (x : Int) < M 45 8) (h8 : M 52 x < 8) (h : z_j M t u ((x, y) :: S) A V1) : z_j M t u S A (fun b => if b = (M 52 x).toNat then y else V1 b) := by
  obtain ⟨D, d1, d2, d3, d4, d5⟩ := h
  have e : v_e M ((x, y) :: S) = (M 52 x).toNat :: v_e M S := by
    unfold v_e
    rw [List.flatMap_cons, v_l_v hT hx h8]
    rfl
  rw [e] at d1 d2
  obtain ⟨n1, n2, n3⟩ := List.nodup_append.mp d1
  have n4 := List.nodup_cons.mp n2
  have hvD : (M 52 x).toNat ∉ D := fun h9 => n3 _ h9 _ List.mem_cons_self rfl
  refine ⟨(M 52 x).toNat :: D, ?_, fun v hv => d2 v ?_, fun v hv => ?_, fun V h1 h2 => ?_, fun V hV e9 he => d5 V hV e9 (List.mem_cons_of_mem _ he)⟩
  · rw [List.cons_append]
    refine List.nodup_cons.mpr ⟨fun h9 => ?_, List.nodup_append.mpr ⟨n1, n4.2, fun a ha b hb => n3 a ha b (List.mem_cons_of_mem _ hb)⟩⟩
    rcases List.mem_append.mp h9 with h9 | h9
    · exact hvD h9
    · exact n4.1 h9
  · rw [List.cons_append] at hv
    rcases List.mem_cons.mp hv with rfl | hv
    · exact List.mem_append_right _ List.mem_cons_self
    · rcases List.mem_append.mp hv with hv | hv
      · exact List.mem_append_left _ hv
      · exact List.mem_append_right _ (List.mem_cons_of_mem _ hv)
  · have hne : v ≠ (M 52 x).toNat := fun h9 => hv (h9 ▸ List.mem_cons_self)
    show (if v = (M 52 x).toNat then y else V1 v) = A v
    rw [if_neg hne]
    exact d3 v (fun h9 => hv (List.mem_cons_of_mem _ h9))
  · refine d4 V (fun e9 he => ?_) (fun v hv => ?_)
    · rcases List.mem_cons.mp he with rfl | he
      · rw [zv_v hT hx h8, decide_eq_true_iff, h2 _ List.mem_cons_self]
        show (if _ then y else _) = y
        rw [if_pos rfl]
      · exact h1 e9 he
    · rw [h2 v (List.mem_cons_of_mem _ hv)]
      show (if v = (M 52 x).toNat then y else V1 v) = V1 v
      rw [if_neg (fun h9 : v = (M 52 x).toNat => hvD (h9 ▸ hv))]
theorem z_j_n {M : g_M} (hT : q_T M) {t x : Nat} {u y : Int} {S : List (Nat × Int)} {A V1 : Nat → Int} (hx : (x : Int) < M 45 8) (h8 : 8 ≤ M 52 x) (hy : (if M 52 x < 16 then M 46 (M 52 x - 8).toNat else M 49 (M 52 x - 16).toNat) = y) (h : z_j M t u ((x, y) :: S) A V1) : z_j M t u (q_pt2 M x (q_w M x).toNat ++ S) A V1 := by
  obtain ⟨D, d1, d2, d3, d4, d5⟩ := h
  obtain ⟨-, -, w3, w4, -⟩ := hT.2.2 x hx
  have hvl := v_l_n hT hx h8
  rw [List.flatMap_map] at hvl
  have e : v_e M ((x, y) :: S) = v_l M x ++ v_e M S := by
    unfold v_e
    rw [List.flatMap_cons]
  have e2 : v_e M (q_pt2 M x (q_w M x).toNat ++ S) = v_e M (q_pt2 M x (q_w M x).toNat) ++ v_e M S := by
    unfold v_e
    rw [List.flatMap_append]
  have hmem : ∀ v, v ∈ v_e M (q_pt2 M x (q_w M x).toNat) ↔ v ∈ v_l M x := fun v => by rw [v_e_pt2, hvl]
  rw [e] at d1 d2
  obtain ⟨n1, n2, n3⟩ := List.nodup_append.mp d1
  obtain ⟨m1, m2, m3⟩ := List.nodup_append.mp n2
  have key : ∀ V : Nat → Int, q_t (zv M V) x y = true ↔ ∀ e9 ∈ q_pt2 M x (q_w M x).toNat, q_t (zv M V) e9.1 e9.2 = true := by
    intro V
    rw [zv_n hT hx h8, q_pt2_iff]
    exact ⟨fun h k hk => h.2 k (by omega), fun h => ⟨hy, fun k hk => h k (by omega)⟩⟩
  refine ⟨D, ?_, fun v hv => d2 v ?_, d3, fun V h1 h2 => d4 V (fun e9 he => ?_) h2, fun V hV e9 he => ?_⟩
  · rw [e2]
    refine List.nodup_append.mpr ⟨n1, List.nodup_append.mpr ⟨v_e_nd M x _ (hvl ▸ m1), m2, fun a ha b hb => m3 a ((hmem a).mp ha) b hb⟩, fun a ha b hb => n3 a ha b ?_⟩
    rcases List.mem_append.mp hb with hb | hb
    · exact List.mem_append_left _ ((hmem b).mp hb)
    · exact List.mem_append_right _ hb
  · rw [e2] at hv
    rcases List.mem_append.mp hv with hv | hv
    · exact List.mem_append_left _ hv
    · rcases List.mem_append.mp hv with hv | hv
      · exact List.mem_append_right _ (List.mem_append_left _ ((hmem v).mp hv))
      · exact List.mem_append_right _ (List.mem_append_right _ hv)
  · rcases List.mem_cons.mp he with rfl | he
    · exact (key V).mpr (fun e8 he8 => h1 e8 (List.mem_append_left _ he8))
    · exact h1 e9 (List.mem_append_right _ he)
  · rcases List.mem_append.mp he with he | he
    · exact (key V).mp (d5 V hV (x, y) List.mem_cons_self) e9 he
    · exact d5 V hV e9 (List.mem_cons_of_mem _ he)
theorem c_Mo_isTyped_1 (d : Nat) (M : g_M) (M0 : g_M) (t : Nat) (u : Int) (hT : q_T M) (he0 : e65 M M0) (ht : (t : Int) < M 45 8) (hnd : (v_l M t).Nodup) : ConR y_Mo_isTyped w_Mo_isTyped (g_rm (d + 2)) LX M0 [g_r 45, g_i (t : Int), g_i u, g_i 1] LX (fun M2 v2 => ∃ r : Int, v2 = some (g_i r) ∧ (r = 0 ∨ r = 1) ∧ e65 M M2 ∧ (r = 1 → q_t (zv M (M2 65)) t u = true ∧ ∀ v : Nat, v ∉ v_l M t → M2 65 v = M0 65 v) ∧ (r = 0 → ∀ V : Nat → Int, ¬ q_t (zv M V) t u = true)) := by
  refine con_ofR (av := [g_r 45, g_i (t : Int), g_i u, g_i 1]) (ls0 := [some (g_r 45), some (g_i (t : Int)), some (g_i u), some (g_i 1), none, none, none, none]) (by decide) rfl (Nat.le_of_ble_eq_true rfl) (g_hls (av := [g_r 45, g_i (t : Int), g_i u, g_i 1]) (k := 4)) (fun _ h9 => List.mem_cons_of_mem _ h9) ?_
  refine ev_aload_n (i := 0) d_Mo_isTyped_0 rfl rfl rfl ?_
  refine ev_iconst d_Mo_isTyped_1 rfl ⟨by decide, by decide⟩ ?_
  refine ev_putI d_Mo_isTyped_2 rfl lk_Mo_141 fp_Mo_22 (Or.inl rfl) lx_45 rfl ?_
  refine ev_aload_n (i := 0) d_Mo_isTyped_5 rfl rfl rfl ?_
  refine ev_iload_n (i := 1) d_Mo_isTyped_6 rfl rfl rfl ?_
  refine ev_iload_n (i := 2) d_Mo_isTyped_7 rfl rfl rfl ?_
  refine ev_callV (As := [g_i (t : Int), g_i u]) d_Mo_isTyped_8 rfl cl_Mo_148 (c_Mo_push_n (d + 1) (g_up M0 45 22 0) 0 (t : Int) u (by simp [g_up]) (by decide)) (g_hR (by decide)) g_h0 lx_45 rfl rfl (Nat.le_of_ble_eq_true rfl) rfl rfl ?_
  refine ev_wh (fun n ls1 M1 => ∃ S0 : List (Nat × Int), ls1 = [some (g_r 45), some (g_i (t : Int)), some (g_i u), some (g_i 1), none, none, none, none] ∧ q_s2 M1 S0 ∧ e65 M M1 ∧ (∀ e ∈ S0, (e.1 : Int) < M 45 8) ∧ n = q_m2 M S0 ∧ n ≤ 40 ∧ z_j M t u S0 (M0 65) (M1 65)) ?_ (n := _) (⟨[(t, u)], rfl, q_push2 t u (q_nil2 (by simp [g_up])), he0.tr ((q_pe _ _).tr (q_up _ _ _ _ _)).e65, fun e he => by simp at he; subst he; exact ht, rfl, by simp [q_m2]; have := q_pl_len hT t ht; have := (hT.2.2 t ht).2.2.2.2.2.1; omega, z_j_0 hnd⟩)
  intro n ls1 M1 hP ih
  obtain ⟨S0, rfl, hs1, hq1, hy1, hn, hn40, ha⟩ := hP
  refine ev_aload_n (i := 0) d_Mo_isTyped_11 rfl rfl rfl ?_
  refine ev_getI (z := (S0.length : Int)) d_Mo_isTyped_12 rfl lk_Mo_141 lx_45 rfl (hs1.1) ?_
  refine ev_if_le (tgt := 212) d_Mo_isTyped_15 (by decide) rfl (fun hz => ?_) (fun hz => ?_)
  · refine ev_iconst d_Mo_isTyped_212 rfl ⟨by decide, by decide⟩ ?_
    exact ev_retIR d_Mo_isTyped_213 (by have e := q_em2 hz; subst e; obtain ⟨D, d1, d2, d3, d4, d5⟩ := ha; exact ⟨1, rfl, Or.inr rfl, hq1, fun _ => ⟨d4 _ (fun e he => by simp at he) (fun _ _ => rfl), fun v hv => d3 v (fun h9 => hv (d2 v (List.mem_append_left _ h9)))⟩, fun h9 => absurd h9 (by decide)⟩) (Or.inr ⟨rfl, by omega⟩)
  · obtain ⟨x, y, S, rfl⟩ := q_ne2 hz
    have hx : (x : Int) < M 45 8 := hy1 (x, y) List.mem_cons_self
    have hlen := q_m2_len M ((x, y) :: S)
    rw [List.length_cons] at hlen
    have hnt := hT.2.1
    obtain ⟨hx0, hx22, hx3, hx4, hx5, -⟩ := hT.2.2 x hx
    have hm2 : q_m2 M ((x, y) :: S) = q_m2 M (q_pt2 M x (q_w M x).toNat ++ S) + 1 := by rw [q_m2_cons hT hx y 0 S, q_m2_app, q_m2_app, q_pt2_m2]
    refine ev_aload_n (i := 0) d_Mo_isTyped_18 rfl rfl rfl ?_
    refine ev_dup d_Mo_isTyped_19 rfl rfl ?_
    refine ev_getI (z := (S.length : Int) + 1) d_Mo_isTyped_20 rfl lk_Mo_141 lx_45 rfl (by rw [hs1.1, List.length_cons]; omega) ?_
    refine ev_iconst d_Mo_isTyped_23 rfl ⟨by decide, by decide⟩ ?_
    refine ev_isub (z := (S.length : Int)) d_Mo_isTyped_24 rfl (by rw [g_w_id (by unfold g_rg; omega)]; omega) ?_
    refine ev_putI d_Mo_isTyped_25 rfl lk_Mo_141 fp_Mo_22 (Or.inl rfl) lx_45 rfl ?_
    refine ev_aload_n (i := 0) d_Mo_isTyped_28 rfl rfl rfl ?_
    refine ev_getR d_Mo_isTyped_29 rfl lk_Mo_58 lx_45 rfl ?_
    refine ev_aload_n (i := 0) d_Mo_isTyped_32 rfl rfl rfl ?_
    refine ev_getI (z := (S.length : Int)) d_Mo_isTyped_33 rfl lk_Mo_141 lx_45 rfl (by simp [g_up]) ?_
    refine ev_iaload (z := (x : Int)) d_Mo_isTyped_36 rfl lx_62 (by omega) (by omega) ((q_pop2 hs1).1.1) ?_
    refine ev_istore (i := 4) d_Mo_isTyped_37 rfl (by decide) rfl ?_
    refine ev_aload_n (i := 0) d_Mo_isTyped_39 rfl rfl rfl ?_
    refine ev_getR d_Mo_isTyped_40 rfl lk_Mo_61 lx_45 rfl ?_
    refine ev_aload_n (i := 0) d_Mo_isTyped_43 rfl rfl rfl ?_
    refine ev_getI (z := (S.length : Int)) d_Mo_isTyped_44 rfl lk_Mo_141 lx_45 rfl (by simp [g_up]) ?_
    refine ev_iaload (z := y) d_Mo_isTyped_47 rfl lx_63 (by omega) (by omega) ((q_pop2 hs1).1.2) ?_
    refine ev_istore (i := 5) d_Mo_isTyped_48 rfl (by decide) rfl ?_
    refine ev_aload_n (i := 0) d_Mo_isTyped_50 rfl rfl rfl ?_
    refine ev_getR d_Mo_isTyped_51 rfl lk_Mo_28 lx_45 rfl ?_
    refine ev_iload (i := 4) d_Mo_isTyped_54 rfl rfl ?_
    refine ev_iaload (z := M 52 x) d_Mo_isTyped_56 rfl lx_52 (by omega) (by omega) (hq1 52 _ (by decide) (by decide) (by decide) (by omega)) ?_
    refine ev_istore (i := 6) d_Mo_isTyped_57 rfl (by decide) rfl ?_
    refine ev_iload (i := 6) d_Mo_isTyped_59 rfl rfl ?_
    refine ev_bipush d_Mo_isTyped_61 rfl (by decide +kernel) ⟨by decide, by decide⟩ ?_
    refine ev_icmp_ge (tgt := 96) d_Mo_isTyped_63 (by decide) rfl (fun c8 => ?_) (fun c8 => ?_)
    · refine ev_iload (i := 6) d_Mo_isTyped_96 rfl rfl ?_
      refine ev_bipush d_Mo_isTyped_98 rfl (by decide +kernel) ⟨by decide, by decide⟩ ?_
      refine ev_icmp_ge (tgt := 116) d_Mo_isTyped_100 (by decide) rfl (fun c16 => ?_) (fun c16 => ?_)
      · refine ev_aload_n (i := 0) d_Mo_isTyped_116 rfl rfl rfl ?_
        refine ev_getR d_Mo_isTyped_117 rfl lk_Mo_19 lx_45 rfl ?_
        refine ev_iload (i := 6) d_Mo_isTyped_120 rfl rfl ?_
        refine ev_bipush d_Mo_isTyped_122 rfl (by decide +kernel) ⟨by decide, by decide⟩ ?_
        refine ev_isub (z := (M 52 x) - 16) d_Mo_isTyped_124 rfl (g_w_id (by unfold g_rg; omega)) ?_
        refine ev_iaload (z := M 49 (M 52 x - 16).toNat) d_Mo_isTyped_125 rfl lx_49 (by omega) (by omega) (hq1 49 _ (by decide) (by decide) (by decide) (by omega)) ?_
        refine ev_iload (i := 5) d_Mo_isTyped_126 rfl rfl ?_
        refine ev_icmp_eq (tgt := 133) d_Mo_isTyped_128 (by decide) rfl (fun c1 => ?_) (fun c1 => ?_)
        · have hza : z_j M t u (q_pt2 M x (q_w M x).toNat ++ S) (M0 65) ((g_up M1 45 22 (S.length : Int)) 65) := by
            have e9 : ((g_up M1 45 22 (S.length : Int)) 65) = M1 65 := rfl
            rw [e9]
            exact z_j_n hT hx (by omega) (by first | (rw [if_pos (by omega)]; exact c1) | (rw [if_neg (by omega)]; exact c1)) ha
          refine ev_iconst d_Mo_isTyped_133 rfl ⟨by decide, by decide⟩ ?_
          refine ev_istore (i := 7) d_Mo_isTyped_134 rfl (by decide) rfl ?_
          refine ev_wh (fun n2 ls2 M4 => ∃ k : Nat, k ≤ (q_w M x).toNat ∧ n2 = (q_w M x).toNat - k ∧ ls2 = [some (g_r 45), some (g_i (t : Int)), some (g_i u), some (g_i 1), some (g_i (x : Int)), some (g_i y), some (g_i (M 52 x)), some (g_i (k : Int))] ∧ q_s2 M4 (q_pt2 M x k ++ S) ∧ e65 M M4 ∧ M4 65 = (g_up M1 45 22 (S.length : Int)) 65) ?_ (n := (q_w M x).toNat) (⟨0, Nat.zero_le _, rfl, rfl, (q_pop2 hs1).2, hq1.tr (q_pe _ _).e65, rfl⟩)
          intro n2 ls2 M4 hP2 ih2
          obtain ⟨k, hk, hnk, rfl, hs4, hq4, h65⟩ := hP2
          refine ev_iload (i := 7) d_Mo_isTyped_136 rfl rfl ?_
          refine ev_aload_n (i := 0) d_Mo_isTyped_138 rfl rfl rfl ?_
          refine ev_iload (i := 4) d_Mo_isTyped_139 rfl rfl ?_
          refine ev_callV (As := [g_i (x : Int)]) d_Mo_isTyped_141 rfl cl_Mo_144 (c_Mo_places_w (d + 1) M4 x (q_w M x).toNat (by omega) (by rw [hq4.e46 52 (by decide)]; exact hx0) (by rw [hq4.e46 52 (by decide)]; exact hx22) (by rw [q_w_65 hq4]; omega)) (g_hR (by decide)) g_h0 lx_45 rfl rfl (Nat.le_of_ble_eq_true rfl) rfl rfl ?_
          refine ev_icmp_ge (tgt := 209) d_Mo_isTyped_144 (by decide) rfl (fun hz2 => ?_) (fun hz2 => ?_)
          · refine ev_goto (tgt := 11) d_Mo_isTyped_209 (by decide) ?_
            have ek : k = (q_w M x).toNat := by omega
            subst ek
            refine ev_le (ih (q_m2 M (q_pt2 M x (q_w M x).toNat ++ S)) [some (g_r 45), some (g_i (t : Int)), some (g_i u), some (g_i 1), none, none, none, none] M4 (by omega) ⟨q_pt2 M x (q_w M x).toNat ++ S, rfl, hs4, hq4, ?_, rfl, by omega, ?_⟩) rfl ⟨rfl, rfl, rfl, rfl, trivial⟩
            · intro e he9; exact (List.mem_append.mp he9).elim (fun h => q_pt2_in hT hx _ (Nat.le_refl _) e h) (fun h => hy1 e (List.mem_cons_of_mem _ h))
            · rw [h65]; exact hza
          · have h8 : 8 ≤ M 52 x := by have hwk : (k : Int) < q_w M x := (by omega); simp only [q_w] at hwk; omega
            refine ev_aload_n (i := 0) d_Mo_isTyped_147 rfl rfl rfl ?_
            refine ev_aload_n (i := 0) d_Mo_isTyped_148 rfl rfl rfl ?_
            refine ev_getR d_Mo_isTyped_149 rfl lk_Mo_31 lx_45 rfl ?_
            refine ev_iconst d_Mo_isTyped_152 rfl ⟨by decide, by decide⟩ ?_
            refine ev_iload (i := 4) d_Mo_isTyped_153 rfl rfl ?_
            refine ev_imul (z := 3 * (x : Int)) d_Mo_isTyped_155 rfl (g_w_id (by unfold g_rg; omega)) ?_
            refine ev_iload (i := 7) d_Mo_isTyped_156 rfl rfl ?_
            refine ev_iadd (z := 3 * (x : Int) + (k : Int)) d_Mo_isTyped_158 rfl (g_w_id (by unfold g_rg; omega)) ?_
            refine ev_iaload (z := ((M 53 (3 * x + k)).toNat : Int)) d_Mo_isTyped_159 rfl lx_53 (by omega) (by omega) (by rw [show (3 * (x : Int) + (k : Int)).toNat = 3 * x + k by omega, hq4 53 _ (by decide) (by decide) (by decide) (by omega)]; have := hx5 k (by omega); omega) ?_
            refine ev_iload (i := 6) d_Mo_isTyped_160 rfl rfl ?_
            refine ev_bipush d_Mo_isTyped_162 rfl (by decide +kernel) ⟨by decide, by decide⟩ ?_
            refine ev_icmp_ge (tgt := 185) d_Mo_isTyped_164 (by decide) rfl (fun c17 => ?_) (fun c17 => ?_)
            · refine ev_aload_n (i := 0) d_Mo_isTyped_185 rfl rfl rfl ?_
              refine ev_getR d_Mo_isTyped_186 rfl lk_Mo_25 lx_45 rfl ?_
              refine ev_iconst d_Mo_isTyped_189 rfl ⟨by decide, by decide⟩ ?_
              refine ev_iload (i := 6) d_Mo_isTyped_190 rfl rfl ?_
              refine ev_bipush d_Mo_isTyped_192 rfl (by decide +kernel) ⟨by decide, by decide⟩ ?_
              refine ev_isub (z := (M 52 x) - 16) d_Mo_isTyped_194 rfl (g_w_id (by unfold g_rg; omega)) ?_
              refine ev_imul (z := 3 * ((M 52 x) - 16)) d_Mo_isTyped_195 rfl (g_w_id (by unfold g_rg; omega)) ?_
              refine ev_iload (i := 7) d_Mo_isTyped_196 rfl rfl ?_
              refine ev_iadd (z := (3 * ((M 52 x) - 16)) + (k : Int)) d_Mo_isTyped_198 rfl (g_w_id (by unfold g_rg; omega)) ?_
              refine ev_iaload (z := q_py M x k) d_Mo_isTyped_199 rfl lx_51 (by omega) (by omega) (by rw [show (3 * (M 52 x - 16) + (k : Int)).toNat = 3 * (M 52 x - 16).toNat + k by omega, hq4 51 _ (by decide) (by decide) (by decide) (by omega)]; exact (if_neg (by omega)).symm) ?_
              refine ev_callV (As := [g_i (((M 53 (3 * x + k)).toNat : Int)), g_i (q_py M x k)]) d_Mo_isTyped_200 rfl cl_Mo_148 (c_Mo_push_n (d + 1) M4 (q_pt2 M x k ++ S).length ((M 53 (3 * x + k)).toNat : Int) (q_py M x k) hs4.1 (by rw [List.length_append, q_pt2_len]; omega)) (g_hR (by decide)) g_h0 lx_45 rfl rfl (Nat.le_of_ble_eq_true rfl) rfl rfl ?_
              refine ev_iinc (z := (k : Int) + 1) d_Mo_isTyped_203 rfl rfl (by decide) (g_w_id (by unfold g_rg; omega)) rfl ?_
              refine ev_goto (tgt := 136) d_Mo_isTyped_206 (by decide) ?_
              exact ih2 ((q_w M x).toNat - (k + 1)) _ _ (by omega) ⟨k + 1, by omega, rfl, rfl, q_push2 _ _ hs4, hq4.tr (q_up _ _ _ _ _).e65, h65⟩
            · refine ev_aload_n (i := 0) d_Mo_isTyped_167 rfl rfl rfl ?_
              refine ev_getR d_Mo_isTyped_168 rfl lk_Mo_16 lx_45 rfl ?_
              refine ev_iconst d_Mo_isTyped_171 rfl ⟨by decide, by decide⟩ ?_
              refine ev_iload (i := 6) d_Mo_isTyped_172 rfl rfl ?_
              refine ev_bipush d_Mo_isTyped_174 rfl (by decide +kernel) ⟨by decide, by decide⟩ ?_
              refine ev_isub (z := (M 52 x) - 8) d_Mo_isTyped_176 rfl (g_w_id (by unfold g_rg; omega)) ?_
              refine ev_imul (z := 3 * ((M 52 x) - 8)) d_Mo_isTyped_177 rfl (g_w_id (by unfold g_rg; omega)) ?_
              refine ev_iload (i := 7) d_Mo_isTyped_178 rfl rfl ?_
              refine ev_iadd (z := (3 * ((M 52 x) - 8)) + (k : Int)) d_Mo_isTyped_180 rfl (g_w_id (by unfold g_rg; omega)) ?_
              refine ev_iaload (z := q_py M x k) d_Mo_isTyped_181 rfl lx_48 (by omega) (by omega) (by rw [show (3 * (M 52 x - 8) + (k : Int)).toNat = 3 * (M 52 x - 8).toNat + k by omega, hq4 48 _ (by decide) (by decide) (by decide) (by omega)]; exact (if_pos (by omega)).symm) ?_
              refine ev_goto (tgt := 200) d_Mo_isTyped_182 (by decide) ?_
              refine ev_callV (As := [g_i (((M 53 (3 * x + k)).toNat : Int)), g_i (q_py M x k)]) d_Mo_isTyped_200 rfl cl_Mo_148 (c_Mo_push_n (d + 1) M4 (q_pt2 M x k ++ S).length ((M 53 (3 * x + k)).toNat : Int) (q_py M x k) hs4.1 (by rw [List.length_append, q_pt2_len]; omega)) (g_hR (by decide)) g_h0 lx_45 rfl rfl (Nat.le_of_ble_eq_true rfl) rfl rfl ?_
              refine ev_iinc (z := (k : Int) + 1) d_Mo_isTyped_203 rfl rfl (by decide) (g_w_id (by unfold g_rg; omega)) rfl ?_
              refine ev_goto (tgt := 136) d_Mo_isTyped_206 (by decide) ?_
              exact ih2 ((q_w M x).toNat - (k + 1)) _ _ (by omega) ⟨k + 1, by omega, rfl, rfl, q_push2 _ _ hs4, hq4.tr (q_up _ _ _ _ _).e65, h65⟩
        · refine ev_iconst d_Mo_isTyped_131 rfl ⟨by decide, by decide⟩ ?_
          exact ev_retIR d_Mo_isTyped_132 (⟨0, rfl, Or.inl rfl, hq1.tr (q_pe _ _).e65, fun h9 => absurd h9 (by decide), fun _ V hV => by obtain ⟨D, d1, d2, d3, d4, d5⟩ := ha; have h9 := (zv_n hT hx (by omega) V y).mp (d5 V hV (x, y) List.mem_cons_self); exact c1 (by first | (have h8 := h9.1; rw [if_pos (by omega)] at h8; exact h8) | (have h8 := h9.1; rw [if_neg (by omega)] at h8; exact h8))⟩) (Or.inr ⟨rfl, by omega⟩)
      · refine ev_aload_n (i := 0) d_Mo_isTyped_103 rfl rfl rfl ?_
        refine ev_getR d_Mo_isTyped_104 rfl lk_Mo_7 lx_45 rfl ?_
        refine ev_iload (i := 6) d_Mo_isTyped_107 rfl rfl ?_
        refine ev_bipush d_Mo_isTyped_109 rfl (by decide +kernel) ⟨by decide, by decide⟩ ?_
        refine ev_isub (z := (M 52 x) - 8) d_Mo_isTyped_111 rfl (g_w_id (by unfold g_rg; omega)) ?_
        refine ev_iaload (z := M 46 (M 52 x - 8).toNat) d_Mo_isTyped_112 rfl lx_46 (by omega) (by omega) (hq1 46 _ (by decide) (by decide) (by decide) (by omega)) ?_
        refine ev_goto (tgt := 126) d_Mo_isTyped_113 (by decide) ?_
        refine ev_iload (i := 5) d_Mo_isTyped_126 rfl rfl ?_
        refine ev_icmp_eq (tgt := 133) d_Mo_isTyped_128 (by decide) rfl (fun c1 => ?_) (fun c1 => ?_)
        · have hza : z_j M t u (q_pt2 M x (q_w M x).toNat ++ S) (M0 65) ((g_up M1 45 22 (S.length : Int)) 65) := by
            have e9 : ((g_up M1 45 22 (S.length : Int)) 65) = M1 65 := rfl
            rw [e9]
            exact z_j_n hT hx (by omega) (by first | (rw [if_pos (by omega)]; exact c1) | (rw [if_neg (by omega)]; exact c1)) ha
          refine ev_iconst d_Mo_isTyped_133 rfl ⟨by decide, by decide⟩ ?_
          refine ev_istore (i := 7) d_Mo_isTyped_134 rfl (by decide) rfl ?_
          refine ev_wh (fun n2 ls2 M4 => ∃ k : Nat, k ≤ (q_w M x).toNat ∧ n2 = (q_w M x).toNat - k ∧ ls2 = [some (g_r 45), some (g_i (t : Int)), some (g_i u), some (g_i 1), some (g_i (x : Int)), some (g_i y), some (g_i (M 52 x)), some (g_i (k : Int))] ∧ q_s2 M4 (q_pt2 M x k ++ S) ∧ e65 M M4 ∧ M4 65 = (g_up M1 45 22 (S.length : Int)) 65) ?_ (n := (q_w M x).toNat) (⟨0, Nat.zero_le _, rfl, rfl, (q_pop2 hs1).2, hq1.tr (q_pe _ _).e65, rfl⟩)
          intro n2 ls2 M4 hP2 ih2
          obtain ⟨k, hk, hnk, rfl, hs4, hq4, h65⟩ := hP2
          refine ev_iload (i := 7) d_Mo_isTyped_136 rfl rfl ?_
          refine ev_aload_n (i := 0) d_Mo_isTyped_138 rfl rfl rfl ?_
          refine ev_iload (i := 4) d_Mo_isTyped_139 rfl rfl ?_
          refine ev_callV (As := [g_i (x : Int)]) d_Mo_isTyped_141 rfl cl_Mo_144 (c_Mo_places_w (d + 1) M4 x (q_w M x).toNat (by omega) (by rw [hq4.e46 52 (by decide)]; exact hx0) (by rw [hq4.e46 52 (by decide)]; exact hx22) (by rw [q_w_65 hq4]; omega)) (g_hR (by decide)) g_h0 lx_45 rfl rfl (Nat.le_of_ble_eq_true rfl) rfl rfl ?_
          refine ev_icmp_ge (tgt := 209) d_Mo_isTyped_144 (by decide) rfl (fun hz2 => ?_) (fun hz2 => ?_)
          · refine ev_goto (tgt := 11) d_Mo_isTyped_209 (by decide) ?_
            have ek : k = (q_w M x).toNat := by omega
            subst ek
            refine ev_le (ih (q_m2 M (q_pt2 M x (q_w M x).toNat ++ S)) [some (g_r 45), some (g_i (t : Int)), some (g_i u), some (g_i 1), none, none, none, none] M4 (by omega) ⟨q_pt2 M x (q_w M x).toNat ++ S, rfl, hs4, hq4, ?_, rfl, by omega, ?_⟩) rfl ⟨rfl, rfl, rfl, rfl, trivial⟩
            · intro e he9; exact (List.mem_append.mp he9).elim (fun h => q_pt2_in hT hx _ (Nat.le_refl _) e h) (fun h => hy1 e (List.mem_cons_of_mem _ h))
            · rw [h65]; exact hza
          · have h8 : 8 ≤ M 52 x := by have hwk : (k : Int) < q_w M x := (by omega); simp only [q_w] at hwk; omega
            refine ev_aload_n (i := 0) d_Mo_isTyped_147 rfl rfl rfl ?_
            refine ev_aload_n (i := 0) d_Mo_isTyped_148 rfl rfl rfl ?_
            refine ev_getR d_Mo_isTyped_149 rfl lk_Mo_31 lx_45 rfl ?_
            refine ev_iconst d_Mo_isTyped_152 rfl ⟨by decide, by decide⟩ ?_
            refine ev_iload (i := 4) d_Mo_isTyped_153 rfl rfl ?_
            refine ev_imul (z := 3 * (x : Int)) d_Mo_isTyped_155 rfl (g_w_id (by unfold g_rg; omega)) ?_
            refine ev_iload (i := 7) d_Mo_isTyped_156 rfl rfl ?_
            refine ev_iadd (z := 3 * (x : Int) + (k : Int)) d_Mo_isTyped_158 rfl (g_w_id (by unfold g_rg; omega)) ?_
            refine ev_iaload (z := ((M 53 (3 * x + k)).toNat : Int)) d_Mo_isTyped_159 rfl lx_53 (by omega) (by omega) (by rw [show (3 * (x : Int) + (k : Int)).toNat = 3 * x + k by omega, hq4 53 _ (by decide) (by decide) (by decide) (by omega)]; have := hx5 k (by omega); omega) ?_
            refine ev_iload (i := 6) d_Mo_isTyped_160 rfl rfl ?_
            refine ev_bipush d_Mo_isTyped_162 rfl (by decide +kernel) ⟨by decide, by decide⟩ ?_
            refine ev_icmp_ge (tgt := 185) d_Mo_isTyped_164 (by decide) rfl (fun c17 => ?_) (fun c17 => ?_)
            · refine ev_aload_n (i := 0) d_Mo_isTyped_185 rfl rfl rfl ?_
              refine ev_getR d_Mo_isTyped_186 rfl lk_Mo_25 lx_45 rfl ?_
              refine ev_iconst d_Mo_isTyped_189 rfl ⟨by decide, by decide⟩ ?_
              refine ev_iload (i := 6) d_Mo_isTyped_190 rfl rfl ?_
              refine ev_bipush d_Mo_isTyped_192 rfl (by decide +kernel) ⟨by decide, by decide⟩ ?_
              refine ev_isub (z := (M 52 x) - 16) d_Mo_isTyped_194 rfl (g_w_id (by unfold g_rg; omega)) ?_
              refine ev_imul (z := 3 * ((M 52 x) - 16)) d_Mo_isTyped_195 rfl (g_w_id (by unfold g_rg; omega)) ?_
              refine ev_iload (i := 7) d_Mo_isTyped_196 rfl rfl ?_
              refine ev_iadd (z := (3 * ((M 52 x) - 16)) + (k : Int)) d_Mo_isTyped_198 rfl (g_w_id (by unfold g_rg; omega)) ?_
              refine ev_iaload (z := q_py M x k) d_Mo_isTyped_199 rfl lx_51 (by omega) (by omega) (by rw [show (3 * (M 52 x - 16) + (k : Int)).toNat = 3 * (M 52 x - 16).toNat + k by omega, hq4 51 _ (by decide) (by decide) (by decide) (by omega)]; exact (if_neg (by omega)).symm) ?_
              refine ev_callV (As := [g_i (((M 53 (3 * x + k)).toNat : Int)), g_i (q_py M x k)]) d_Mo_isTyped_200 rfl cl_Mo_148 (c_Mo_push_n (d + 1) M4 (q_pt2 M x k ++ S).length ((M 53 (3 * x + k)).toNat : Int) (q_py M x k) hs4.1 (by rw [List.length_append, q_pt2_len]; omega)) (g_hR (by decide)) g_h0 lx_45 rfl rfl (Nat.le_of_ble_eq_true rfl) rfl rfl ?_
              refine ev_iinc (z := (k : Int) + 1) d_Mo_isTyped_203 rfl rfl (by decide) (g_w_id (by unfold g_rg; omega)) rfl ?_
              refine ev_goto (tgt := 136) d_Mo_isTyped_206 (by decide) ?_
              exact ih2 ((q_w M x).toNat - (k + 1)) _ _ (by omega) ⟨k + 1, by omega, rfl, rfl, q_push2 _ _ hs4, hq4.tr (q_up _ _ _ _ _).e65, h65⟩
            · refine ev_aload_n (i := 0) d_Mo_isTyped_167 rfl rfl rfl ?_
              refine ev_getR d_Mo_isTyped_168 rfl lk_Mo_16 lx_45 rfl ?_
              refine ev_iconst d_Mo_isTyped_171 rfl ⟨by decide, by decide⟩ ?_
              refine ev_iload (i := 6) d_Mo_isTyped_172 rfl rfl ?_
              refine ev_bipush d_Mo_isTyped_174 rfl (by decide +kernel) ⟨by decide, by decide⟩ ?_
              refine ev_isub (z := (M 52 x) - 8) d_Mo_isTyped_176 rfl (g_w_id (by unfold g_rg; omega)) ?_
              refine ev_imul (z := 3 * ((M 52 x) - 8)) d_Mo_isTyped_177 rfl (g_w_id (by unfold g_rg; omega)) ?_
              refine ev_iload (i := 7) d_Mo_isTyped_178 rfl rfl ?_
              refine ev_iadd (z := (3 * ((M 52 x) - 8)) + (k : Int)) d_Mo_isTyped_180 rfl (g_w_id (by unfold g_rg; omega)) ?_
              refine ev_iaload (z := q_py M x k) d_Mo_isTyped_181 rfl lx_48 (by omega) (by omega) (by rw [show (3 * (M 52 x - 8) + (k : Int)).toNat = 3 * (M 52 x - 8).toNat + k by omega, hq4 48 _ (by decide) (by decide) (by decide) (by omega)]; exact (if_pos (by omega)).symm) ?_
              refine ev_goto (tgt := 200) d_Mo_isTyped_182 (by decide) ?_
              refine ev_callV (As := [g_i (((M 53 (3 * x + k)).toNat : Int)), g_i (q_py M x k)]) d_Mo_isTyped_200 rfl cl_Mo_148 (c_Mo_push_n (d + 1) M4 (q_pt2 M x k ++ S).length ((M 53 (3 * x + k)).toNat : Int) (q_py M x k) hs4.1 (by rw [List.length_append, q_pt2_len]; omega)) (g_hR (by decide)) g_h0 lx_45 rfl rfl (Nat.le_of_ble_eq_true rfl) rfl rfl ?_
              refine ev_iinc (z := (k : Int) + 1) d_Mo_isTyped_203 rfl rfl (by decide) (g_w_id (by unfold g_rg; omega)) rfl ?_
              refine ev_goto (tgt := 136) d_Mo_isTyped_206 (by decide) ?_
              exact ih2 ((q_w M x).toNat - (k + 1)) _ _ (by omega) ⟨k + 1, by omega, rfl, rfl, q_push2 _ _ hs4, hq4.tr (q_up _ _ _ _ _).e65, h65⟩
        · refine ev_iconst d_Mo_isTyped_131 rfl ⟨by decide, by decide⟩ ?_
          exact ev_retIR d_Mo_isTyped_132 (⟨0, rfl, Or.inl rfl, hq1.tr (q_pe _ _).e65, fun h9 => absurd h9 (by decide), fun _ V hV => by obtain ⟨D, d1, d2, d3, d4, d5⟩ := ha; have h9 := (zv_n hT hx (by omega) V y).mp (d5 V hV (x, y) List.mem_cons_self); exact c1 (by first | (have h8 := h9.1; rw [if_pos (by omega)] at h8; exact h8) | (have h8 := h9.1; rw [if_neg (by omega)] at h8; exact h8))⟩) (Or.inr ⟨rfl, by omega⟩)
    · refine ev_iload_n (i := 3) d_Mo_isTyped_66 rfl rfl rfl ?_
      refine ev_if_eq_f (tgt := 82) d_Mo_isTyped_67 (by decide) rfl (by decide) ?_
      refine ev_aload_n (i := 0) d_Mo_isTyped_70 rfl rfl rfl ?_
      refine ev_getR d_Mo_isTyped_71 rfl lk_Mo_68 lx_45 rfl ?_
      refine ev_iload (i := 6) d_Mo_isTyped_74 rfl rfl ?_
      refine ev_iload (i := 5) d_Mo_isTyped_76 rfl rfl ?_
      refine ev_iastore d_Mo_isTyped_78 rfl lx_65 (by omega) (by omega) ?_
      rw [show Int.toNat ((M 52 x)) = (M 52 x).toNat by rfl]
      refine ev_goto (tgt := 133) d_Mo_isTyped_79 (by decide) ?_
      have hw0 : (q_w M x).toNat = 0 := by simp only [q_w]; rw [if_pos (by omega)]; rfl
      have hza : z_j M t u (q_pt2 M x (q_w M x).toNat ++ S) (M0 65) ((g_up (g_up M1 45 22 (S.length : Int)) 65 (M 52 x).toNat y) 65) := by
        have h9 := z_j_v hT hx (by omega) ha
        rw [hw0]
        have e9 : ((g_up (g_up M1 45 22 (S.length : Int)) 65 (M 52 x).toNat y) 65) = (fun b => if b = (M 52 x).toNat then y else M1 65 b) := by funext b; simp [g_up]
        rw [e9]
        exact h9
      refine ev_iconst d_Mo_isTyped_133 rfl ⟨by decide, by decide⟩ ?_
      refine ev_istore (i := 7) d_Mo_isTyped_134 rfl (by decide) rfl ?_
      refine ev_wh (fun n2 ls2 M4 => ∃ k : Nat, k ≤ (q_w M x).toNat ∧ n2 = (q_w M x).toNat - k ∧ ls2 = [some (g_r 45), some (g_i (t : Int)), some (g_i u), some (g_i 1), some (g_i (x : Int)), some (g_i y), some (g_i (M 52 x)), some (g_i (k : Int))] ∧ q_s2 M4 (q_pt2 M x k ++ S) ∧ e65 M M4 ∧ M4 65 = (g_up (g_up M1 45 22 (S.length : Int)) 65 (M 52 x).toNat y) 65) ?_ (n := (q_w M x).toNat) (⟨0, Nat.zero_le _, rfl, rfl, q_s2_65 (q_pop2 hs1).2 _ _, (hq1.tr (q_pe _ _).e65).up _ _, rfl⟩)
      intro n2 ls2 M4 hP2 ih2
      obtain ⟨k, hk, hnk, rfl, hs4, hq4, h65⟩ := hP2
      refine ev_iload (i := 7) d_Mo_isTyped_136 rfl rfl ?_
      refine ev_aload_n (i := 0) d_Mo_isTyped_138 rfl rfl rfl ?_
      refine ev_iload (i := 4) d_Mo_isTyped_139 rfl rfl ?_
      refine ev_callV (As := [g_i (x : Int)]) d_Mo_isTyped_141 rfl cl_Mo_144 (c_Mo_places_w (d + 1) M4 x (q_w M x).toNat (by omega) (by rw [hq4.e46 52 (by decide)]; exact hx0) (by rw [hq4.e46 52 (by decide)]; exact hx22) (by rw [q_w_65 hq4]; omega)) (g_hR (by decide)) g_h0 lx_45 rfl rfl (Nat.le_of_ble_eq_true rfl) rfl rfl ?_
      refine ev_icmp_ge (tgt := 209) d_Mo_isTyped_144 (by decide) rfl (fun hz2 => ?_) (fun hz2 => ?_)
      · refine ev_goto (tgt := 11) d_Mo_isTyped_209 (by decide) ?_
        have ek : k = (q_w M x).toNat := by omega
        subst ek
        refine ev_le (ih (q_m2 M (q_pt2 M x (q_w M x).toNat ++ S)) [some (g_r 45), some (g_i (t : Int)), some (g_i u), some (g_i 1), none, none, none, none] M4 (by omega) ⟨q_pt2 M x (q_w M x).toNat ++ S, rfl, hs4, hq4, ?_, rfl, by omega, ?_⟩) rfl ⟨rfl, rfl, rfl, rfl, trivial⟩
        · intro e he9; exact (List.mem_append.mp he9).elim (fun h => q_pt2_in hT hx _ (Nat.le_refl _) e h) (fun h => hy1 e (List.mem_cons_of_mem _ h))
        · rw [h65]; exact hza
      · have h8 : 8 ≤ M 52 x := by have hwk : (k : Int) < q_w M x := (by omega); simp only [q_w] at hwk; omega
        refine ev_aload_n (i := 0) d_Mo_isTyped_147 rfl rfl rfl ?_
        refine ev_aload_n (i := 0) d_Mo_isTyped_148 rfl rfl rfl ?_
        refine ev_getR d_Mo_isTyped_149 rfl lk_Mo_31 lx_45 rfl ?_
        refine ev_iconst d_Mo_isTyped_152 rfl ⟨by decide, by decide⟩ ?_
        refine ev_iload (i := 4) d_Mo_isTyped_153 rfl rfl ?_
        refine ev_imul (z := 3 * (x : Int)) d_Mo_isTyped_155 rfl (g_w_id (by unfold g_rg; omega)) ?_
        refine ev_iload (i := 7) d_Mo_isTyped_156 rfl rfl ?_
        refine ev_iadd (z := 3 * (x : Int) + (k : Int)) d_Mo_isTyped_158 rfl (g_w_id (by unfold g_rg; omega)) ?_
        refine ev_iaload (z := ((M 53 (3 * x + k)).toNat : Int)) d_Mo_isTyped_159 rfl lx_53 (by omega) (by omega) (by rw [show (3 * (x : Int) + (k : Int)).toNat = 3 * x + k by omega, hq4 53 _ (by decide) (by decide) (by decide) (by omega)]; have := hx5 k (by omega); omega) ?_
        refine ev_iload (i := 6) d_Mo_isTyped_160 rfl rfl ?_
        refine ev_bipush d_Mo_isTyped_162 rfl (by decide +kernel) ⟨by decide, by decide⟩ ?_
        refine ev_icmp_ge (tgt := 185) d_Mo_isTyped_164 (by decide) rfl (fun c17 => ?_) (fun c17 => ?_)
        · refine ev_aload_n (i := 0) d_Mo_isTyped_185 rfl rfl rfl ?_
          refine ev_getR d_Mo_isTyped_186 rfl lk_Mo_25 lx_45 rfl ?_
          refine ev_iconst d_Mo_isTyped_189 rfl ⟨by decide, by decide⟩ ?_
          refine ev_iload (i := 6) d_Mo_isTyped_190 rfl rfl ?_
          refine ev_bipush d_Mo_isTyped_192 rfl (by decide +kernel) ⟨by decide, by decide⟩ ?_
          refine ev_isub (z := (M 52 x) - 16) d_Mo_isTyped_194 rfl (g_w_id (by unfold g_rg; omega)) ?_
          refine ev_imul (z := 3 * ((M 52 x) - 16)) d_Mo_isTyped_195 rfl (g_w_id (by unfold g_rg; omega)) ?_
          refine ev_iload (i := 7) d_Mo_isTyped_196 rfl rfl ?_
          refine ev_iadd (z := (3 * ((M 52 x) - 16)) + (k : Int)) d_Mo_isTyped_198 rfl (g_w_id (by unfold g_rg; omega)) ?_
          refine ev_iaload (z := q_py M x k) d_Mo_isTyped_199 rfl lx_51 (by omega) (by omega) (by rw [show (3 * (M 52 x - 16) + (k : Int)).toNat = 3 * (M 52 x - 16).toNat + k by omega, hq4 51 _ (by decide) (by decide) (by decide) (by omega)]; exact (if_neg (by omega)).symm) ?_
          refine ev_callV (As := [g_i (((M 53 (3 * x + k)).toNat : Int)), g_i (q_py M x k)]) d_Mo_isTyped_200 rfl cl_Mo_148 (c_Mo_push_n (d + 1) M4 (q_pt2 M x k ++ S).length ((M 53 (3 * x + k)).toNat : Int) (q_py M x k) hs4.1 (by rw [List.length_append, q_pt2_len]; omega)) (g_hR (by decide)) g_h0 lx_45 rfl rfl (Nat.le_of_ble_eq_true rfl) rfl rfl ?_
          refine ev_iinc (z := (k : Int) + 1) d_Mo_isTyped_203 rfl rfl (by decide) (g_w_id (by unfold g_rg; omega)) rfl ?_
          refine ev_goto (tgt := 136) d_Mo_isTyped_206 (by decide) ?_
          exact ih2 ((q_w M x).toNat - (k + 1)) _ _ (by omega) ⟨k + 1, by omega, rfl, rfl, q_push2 _ _ hs4, hq4.tr (q_up _ _ _ _ _).e65, h65⟩
        · refine ev_aload_n (i := 0) d_Mo_isTyped_167 rfl rfl rfl ?_
          refine ev_getR d_Mo_isTyped_168 rfl lk_Mo_16 lx_45 rfl ?_
          refine ev_iconst d_Mo_isTyped_171 rfl ⟨by decide, by decide⟩ ?_
          refine ev_iload (i := 6) d_Mo_isTyped_172 rfl rfl ?_
          refine ev_bipush d_Mo_isTyped_174 rfl (by decide +kernel) ⟨by decide, by decide⟩ ?_
          refine ev_isub (z := (M 52 x) - 8) d_Mo_isTyped_176 rfl (g_w_id (by unfold g_rg; omega)) ?_
          refine ev_imul (z := 3 * ((M 52 x) - 8)) d_Mo_isTyped_177 rfl (g_w_id (by unfold g_rg; omega)) ?_
          refine ev_iload (i := 7) d_Mo_isTyped_178 rfl rfl ?_
          refine ev_iadd (z := (3 * ((M 52 x) - 8)) + (k : Int)) d_Mo_isTyped_180 rfl (g_w_id (by unfold g_rg; omega)) ?_
          refine ev_iaload (z := q_py M x k) d_Mo_isTyped_181 rfl lx_48 (by omega) (by omega) (by rw [show (3 * (M 52 x - 8) + (k : Int)).toNat = 3 * (M 52 x - 8).toNat + k by omega, hq4 48 _ (by decide) (by decide) (by decide) (by omega)]; exact (if_pos (by omega)).symm) ?_
          refine ev_goto (tgt := 200) d_Mo_isTyped_182 (by decide) ?_
          refine ev_callV (As := [g_i (((M 53 (3 * x + k)).toNat : Int)), g_i (q_py M x k)]) d_Mo_isTyped_200 rfl cl_Mo_148 (c_Mo_push_n (d + 1) M4 (q_pt2 M x k ++ S).length ((M 53 (3 * x + k)).toNat : Int) (q_py M x k) hs4.1 (by rw [List.length_append, q_pt2_len]; omega)) (g_hR (by decide)) g_h0 lx_45 rfl rfl (Nat.le_of_ble_eq_true rfl) rfl rfl ?_
          refine ev_iinc (z := (k : Int) + 1) d_Mo_isTyped_203 rfl rfl (by decide) (g_w_id (by unfold g_rg; omega)) rfl ?_
          refine ev_goto (tgt := 136) d_Mo_isTyped_206 (by decide) ?_
          exact ih2 ((q_w M x).toNat - (k + 1)) _ _ (by omega) ⟨k + 1, by omega, rfl, rfl, q_push2 _ _ hs4, hq4.tr (q_up _ _ _ _ _).e65, h65⟩
