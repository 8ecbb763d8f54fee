theorem q_t_cg {M M2 : g_M} (h : ∀ k : Nat, 46 ≤ k ∧ k < 59 ∨ k = 65 → M2 k = M k) (x : Nat) (y : Int) : q_t M2 x y = q_t M x y := by
  have key : ∀ f x y, q_tf M2 f x y = q_tf M f x y := by
    intro f
    induction f with
    | zero => intro x y; rfl
    | succ f ih =>
      intro x y
      simp only [q_tf, q_hy, q_py, q_w, ih, h 52 (by decide), h 65 (by decide), h 46 (by decide), h 49 (by decide), h 48 (by decide), h 51 (by decide), h 53 (by decide), h 47 (by decide), h 50 (by decide)]
  exact key (x + 1) x y
/-- no variable: the types of variables say nothing -/
theorem q_t_V {M : g_M} (hT : q_T M) : ∀ (t : Nat) (y : Int), (t : Int) < M 45 8 → (∀ x ∈ q_pl M t, 8 ≤ M 52 x) → q_t (z_V M) t y = q_t M t y := by
  intro t
  induction t using Nat.strongRecOn with
  | ind t ih =>
    intro y ht hv
    obtain ⟨-, -, h3, h4, h5, -, -⟩ := hT.2.2 t ht
    have hpl := q_pl_eq hT ht
    have h0 : 8 ≤ M 52 t := hv t (by rw [hpl]; exact List.mem_cons_self)
    rw [q_t_eq (q_T_V hT) ht, q_t_eq hT ht]
    have e : q_hy (z_V M) t = q_hy M t := by
      show (if M 52 t < 8 then _ else (if M 52 t < 16 then M 46 (M 52 t - 8).toNat else M 49 (M 52 t - 16).toNat)) = (if M 52 t < 8 then _ else _)
      have h9 : ¬ M 52 t < 8 := by omega
      rw [if_neg h9, if_neg h9]
    rw [e]
    congr 1
    rw [Bool.eq_iff_iff, List.all_eq_true, List.all_eq_true]
    have key : ∀ k : Nat, k ∈ List.range (q_w M t).toNat → q_t (z_V M) (M 53 (3 * t + k)).toNat (q_py M t k) = q_t M (M 53 (3 * t + k)).toNat (q_py M t k) := by
      intro k hk
      have hk' := List.mem_range.mp hk
      have := h5 k (by omega)
      refine ih _ (by omega) _ (by omega) (fun x hx => hv x ?_)
      rw [hpl]
      refine List.mem_cons_of_mem _ (List.mem_flatMap.mpr ⟨(M 53 (3 * t + k)).toNat, ?_, hx⟩)
      unfold q_kids q_ks
      rw [List.drop_zero]
      exact List.mem_map.mpr ⟨k, hk, rfl⟩
    constructor
    · intro h k hk
      rw [← key k hk]
      exact h k hk
    · intro h k hk
      have h9 := h k hk
      rw [← key k hk] at h9
      exact h9
theorem v_m_0 {l : List Nat} : v_m l = 0 ↔ l = [] := by
  constructor
  · intro h
    refine List.eq_nil_iff_forall_not_mem.mpr fun x hx => ?_
    have := (v_m_bit l x).mpr hx
    rw [h, Nat.zero_testBit] at this
    exact absurd this (by decide)
  · rintro rfl
    rfl
/-- closed, as the class sees it and as the reference does -/
theorem r_cl {M : g_M} (hP : r_P M) {t : Nat} (ht : (t : Int) < M 45 8) : (M 17 t = 0 ∧ M 16 t = 0) ↔ (q_pl M t).all (fun x => decide (8 ≤ M 52 x ∧ M 52 x < 16)) = true := by
  obtain ⟨-, -, -, -, -, -, r1, r2, -⟩ := hP.2.2.1.2.2.1 t ht
  rw [List.all_eq_true, r2, r1]
  have e : ((v_m (v_l M t) : Nat) : Int) = 0 ↔ v_l M t = [] := by rw [← v_m_0]; omega
  rw [e]
  unfold v_l v_h
  rw [List.map_eq_nil_iff, List.filter_eq_nil_iff]
  constructor
  · intro h x hx
    have h1 := h.1 x hx
    have h2 := h.2 x hx
    rw [decide_eq_true_iff] at h2 ⊢
    omega
  · intro h
    refine ⟨fun x hx => ?_, fun x hx => ?_⟩
    · have h1 := h x hx
      rw [decide_eq_true_iff] at h1
      exact h1.2
    · have h1 := h x hx
      rw [decide_eq_true_iff] at h1 ⊢
      omega
theorem c_Ty_isOfType_u {M : g_M} (hP : r_P M) (t d : Nat) (y : Int) (ht : (t : Int) < M 45 8) : Con y_Ty_isOfType w_Ty_isOfType (g_rm (d + 101)) LX M [g_r 25, g_i (t : Int), g_i y] LX M (some (g_i (if q_t (z_V M) t y = true then 1 else 0))) := by
  have hnt := hP.2.2.1.2.1.2.1
  have h := c_Ty_isOfType hP t (d + (100 - t)) y ht
  rw [show d + (100 - t) + t + 1 = d + 101 by omega] at h
  exact h
theorem c_Ty_isClosedOfType (d : Nat) (M : g_M) (t : Nat) (y : Int) (hP : r_P M) (ht : (t : Int) < M 45 8) : Con y_Ty_isClosedOfType w_Ty_isClosedOfType (g_rm (d + 102)) LX M [g_r 25, g_i (t : Int), g_i y] LX M (some (g_i (if (M 17 t = 0 ∧ M 16 t = 0) ∧ q_t (z_V M) t y = true then 1 else 0))) := by
  refine con_of (av := [g_r 25, g_i (t : Int), g_i y]) (ls0 := [some (g_r 25), some (g_i (t : Int)), some (g_i y)]) (by decide) rfl (Nat.le_of_ble_eq_true rfl) (g_hls (av := [g_r 25, g_i (t : Int), g_i y]) (k := 0)) (fun _ h9 => List.mem_cons_of_mem _ h9) ?_
  refine ev_aload_n (i := 0) d_Ty_isClosedOfType_0 rfl rfl rfl ?_
  refine ev_getR d_Ty_isClosedOfType_1 rfl lk_Ty_18 lx_25 rfl ?_
  refine ev_iload_n (i := 1) d_Ty_isClosedOfType_4 rfl rfl rfl ?_
  refine ev_callV (As := [g_i (t : Int)]) d_Ty_isClosedOfType_5 rfl cl_Ty_91 (c_Te_isClosed (d + 101) M t (by have := hP.2.2.1.2.1.2.1; omega)) (g_hR (by decide)) g_h0 lx_9 rfl rfl (Nat.le_of_ble_eq_true rfl) rfl rfl ?_
  refine ev_beq (tgt := 24) d_Ty_isClosedOfType_8 (by decide) rfl (fun c1 => ?_) (fun c1 => ?_)
  · refine ev_iconst d_Ty_isClosedOfType_24 rfl ⟨by decide, by decide⟩ ?_
    exact ev_retI d_Ty_isClosedOfType_25 (by first | exact (if_neg (fun h9 => c1 h9.1)).symm | exact (if_neg (fun h9 => c2 h9.2)).symm) rfl (Or.inr ⟨rfl, by omega⟩)
  · refine ev_aload_n (i := 0) d_Ty_isClosedOfType_11 rfl rfl rfl ?_
    refine ev_iload_n (i := 1) d_Ty_isClosedOfType_12 rfl rfl rfl ?_
    refine ev_iload_n (i := 2) d_Ty_isClosedOfType_13 rfl rfl rfl ?_
    refine ev_callV (As := [g_i (t : Int), g_i y]) d_Ty_isClosedOfType_14 rfl cl_Ty_76 (c_Ty_isOfType_u hP t d y ht) (g_hR (by decide)) g_h0 lx_25 rfl rfl (Nat.le_of_ble_eq_true rfl) rfl rfl ?_
    refine ev_beq (tgt := 24) d_Ty_isClosedOfType_17 (by decide) rfl (fun c2 => ?_) (fun c2 => ?_)
    · refine ev_iconst d_Ty_isClosedOfType_24 rfl ⟨by decide, by decide⟩ ?_
      exact ev_retI d_Ty_isClosedOfType_25 (by first | exact (if_neg (fun h9 => c1 h9.1)).symm | exact (if_neg (fun h9 => c2 h9.2)).symm) rfl (Or.inr ⟨rfl, by omega⟩)
    · refine ev_iconst d_Ty_isClosedOfType_20 rfl ⟨by decide, by decide⟩ ?_
      refine ev_goto (tgt := 25) d_Ty_isClosedOfType_21 (by decide) ?_
      exact ev_retI d_Ty_isClosedOfType_25 (by rw [if_pos ⟨c1, c2⟩]) rfl (Or.inr ⟨rfl, by omega⟩)
theorem c_Fu_isValue (d : Nat) (M : g_M) (t : Nat) (y : Int) (hP : r_P M) (ht : (t : Int) < M 45 8) (hy : 0 ≤ y ∧ y < 3) : Con y_Fu_isValue w_Fu_isValue (g_rm (d + 103)) LX M [g_r 0, g_i (t : Int), g_i y] LX M (some (g_i (if (M 17 t = 0 ∧ M 16 t = 0) ∧ q_t (z_V M) t y = true then 1 else 0))) := by
  refine con_of (av := [g_r 0, g_i (t : Int), g_i y]) (ls0 := [some (g_r 0), some (g_i (t : Int)), some (g_i y)]) (by decide) rfl (Nat.le_of_ble_eq_true rfl) (g_hls (av := [g_r 0, g_i (t : Int), g_i y]) (k := 0)) (fun _ h9 => List.mem_cons_of_mem _ h9) ?_
  refine ev_iload_n (i := 2) d_Fu_isValue_0 rfl rfl rfl ?_
  refine ev_callS (As := [g_i y]) d_Fu_isValue_1 rfl cl_Fu_173 (c_Fu_isType (d + 102) M y) (g_hR (by decide)) g_h0 rfl rfl (Nat.le_of_ble_eq_true rfl) rfl rfl ?_
  refine ev_if_eq_f (tgt := 34) d_Fu_isValue_4 (by decide) rfl (by rw [if_pos hy]; decide) ?_
  refine ev_aload_n (i := 0) d_Fu_isValue_7 rfl rfl rfl ?_
  refine ev_getR d_Fu_isValue_8 rfl lk_Fu_24 lx_0 rfl ?_
  refine ev_iload_n (i := 1) d_Fu_isValue_11 rfl rfl rfl ?_
  refine ev_callV (As := [g_i (t : Int)]) d_Fu_isValue_12 rfl cl_Fu_176 (c_Te_has (d + 102) M (t : Int)) (g_hR (by decide)) g_h0 lx_9 rfl rfl (Nat.le_of_ble_eq_true rfl) rfl rfl ?_
  refine ev_if_eq_f (tgt := 34) d_Fu_isValue_15 (by decide) rfl (by rw [if_pos ⟨by omega, by rw [hP.2.2.1.1]; exact ht⟩]; decide) ?_
  refine ev_aload_n (i := 0) d_Fu_isValue_18 rfl rfl rfl ?_
  refine ev_getR d_Fu_isValue_19 rfl lk_Fu_42 lx_0 rfl ?_
  refine ev_iload_n (i := 1) d_Fu_isValue_22 rfl rfl rfl ?_
  refine ev_iload_n (i := 2) d_Fu_isValue_23 rfl rfl rfl ?_
  refine ev_callV (As := [g_i (t : Int), g_i y]) d_Fu_isValue_24 rfl cl_Fu_177 (c_Ty_isClosedOfType d M t y hP ht) (g_hR (by decide)) g_h0 lx_25 rfl rfl (Nat.le_of_ble_eq_true rfl) rfl rfl ?_
  refine ev_beq (tgt := 34) d_Fu_isValue_27 (by decide) rfl (fun c1 => ?_) (fun c1 => ?_)
  · refine ev_iconst d_Fu_isValue_34 rfl ⟨by decide, by decide⟩ ?_
    exact ev_retI d_Fu_isValue_35 (by rw [if_neg c1]) rfl (Or.inr ⟨rfl, by omega⟩)
  · refine ev_iconst d_Fu_isValue_30 rfl ⟨by decide, by decide⟩ ?_
    refine ev_goto (tgt := 35) d_Fu_isValue_31 (by decide) ?_
    exact ev_retI d_Fu_isValue_35 (by rw [if_pos c1]) rfl (Or.inr ⟨rfl, by omega⟩)
/-- is a value: what both sides say -/
def z_val (M : g_M) (t y : Int) : Prop := (0 ≤ t ∧ t < M 45 8) ∧ (0 ≤ y ∧ y < 3) ∧ (q_pl M t.toNat).all (fun x => decide (8 ≤ M 52 x ∧ M 52 x < 16)) = true ∧ q_t M t.toNat y = true
theorem c_Fu_isValue_a (d : Nat) {M : g_M} (hP : r_P M) (t y : Int) : ∃ r : Int, (r = 0 ∨ r = 1) ∧ (r = 1 ↔ z_val M t y) ∧ Con y_Fu_isValue w_Fu_isValue (g_rm (d + 103)) LX M [g_r 0, g_i t, g_i y] LX M (some (g_i r)) := by
  have hnt := hP.2.2.1.1
  by_cases hh : ¬ (0 ≤ y ∧ y < 3) ∨ ¬ (0 ≤ t ∧ t < M 9 9)
  · refine ⟨0, Or.inl rfl, ⟨fun h => absurd h (by decide), fun h => ?_⟩, c_Fu_isValue_0 (d + 102) M t y hh⟩
    unfold z_val at h
    omega
  · obtain ⟨t, rfl⟩ : ∃ n : Nat, t = n := ⟨t.toNat, by omega⟩
    have ht : (t : Int) < M 45 8 := by omega
    have hy : 0 ≤ y ∧ y < 3 := by omega
    have h1 := c_Fu_isValue d M t y hP ht hy
    by_cases hc : (M 17 t = 0 ∧ M 16 t = 0) ∧ q_t (z_V M) t y = true
    · rw [if_pos hc] at h1
      refine ⟨1, Or.inr rfl, ⟨fun _ => ?_, fun _ => rfl⟩, h1⟩
      have h2 := (r_cl hP ht).mp hc.1
      refine ⟨by omega, hy, h2, ?_⟩
      rw [Int.toNat_natCast, ← q_t_V hP.2.2.1.2.1 t y ht (fun x hx => (of_decide_eq_true (List.all_eq_true.mp h2 x hx)).1)]
      exact hc.2
    · rw [if_neg hc] at h1
      refine ⟨0, Or.inl rfl, ⟨fun h => absurd h (by decide), fun h => absurd ?_ hc⟩, h1⟩
      obtain ⟨-, -, h2, h3⟩ := h
      rw [Int.toNat_natCast] at h2 h3
      refine ⟨(r_cl hP ht).mpr h2, ?_⟩
      rw [q_t_V hP.2.2.1.2.1 t y ht (fun x hx => (of_decide_eq_true (List.all_eq_true.mp h2 x hx)).1)]
      exact h3
theorem c_Mo_isValue_a (d : Nat) {M : g_M} (hT : q_T M) (t y : Int) : ∃ r : Int, (r = 0 ∨ r = 1) ∧ (r = 1 ↔ z_val M t y) ∧ ConR y_Mo_isValue w_Mo_isValue (g_rm (d + 3)) LX M [g_r 45, g_i t, g_i y] LX (fun M2 v2 => v2 = some (g_i r) ∧ q_eq (g_up M 45 44 0) M2) := by
  by_cases hh : ¬ (0 ≤ y ∧ y < 3) ∨ ¬ (0 ≤ t ∧ t < M 45 8)
  · refine ⟨0, Or.inl rfl, ⟨fun h => absurd h (by decide), fun h => ?_⟩, (conR_of (c_Mo_isValue_0 (d + 2) M t y hh)).mono (fun M2 r h => ⟨h.2, by rw [h.1]; exact q_eq.rf _⟩)⟩
    unfold z_val at h
    omega
  · obtain ⟨t, rfl⟩ : ∃ n : Nat, t = n := ⟨t.toNat, by omega⟩
    have ht : (t : Int) < M 45 8 := by omega
    have hy : 0 ≤ y ∧ y < 3 := by omega
    have h1 := c_Mo_isValue d M t y hT ht hy
    have e1 : ∀ k : Nat, 46 ≤ k ∧ k < 59 ∨ k = 65 → (g_up M 45 44 0) k = M k := fun k hk => g_up_ne (by omega)
    have e2 : ∀ k : Nat, 46 ≤ k ∧ k < 59 → (g_up M 45 44 0) k = M k := fun k hk => g_up_ne (by omega)
    rw [q_t_cg e1, q_pl_cg e2] at h1
    by_cases hc : (q_pl M t).all (fun x => decide (8 ≤ M 52 x ∧ M 52 x < 16)) = true ∧ q_t M t y = true
    · refine ⟨1, Or.inr rfl, ⟨fun _ => ⟨by omega, hy, hc⟩, fun _ => rfl⟩, h1.mono (fun M2 r h => ⟨?_, h.2⟩)⟩
      rw [h.1]
      exact congrArg (fun z => some (g_i z)) (if_pos hc)
    · refine ⟨0, Or.inl rfl, ⟨fun h => absurd h (by decide), fun h => absurd ⟨h.2.2.1, h.2.2.2⟩ hc⟩, h1.mono (fun M2 r h => ⟨?_, h.2⟩)⟩
      rw [h.1]
      exact congrArg (fun z => some (g_i z)) (if_neg hc)
theorem r_fr_q {M M2 : g_M} (h : q_eq M M2) : r_fr M M2 := r_fr_e4 h.e4
theorem t_isValue {X : g_M → Int → Int → Prop} (hX : r_X X) {M : g_M} (hI : r_I X M) (a1 a2 a3 a4 a5 : Int) : ∃ c s : Nat, c ≤ 1 ∧ s ≤ 6 ∧ l_SR 9 a1 a2 a3 a4 a5 M (r_I X) c s := by
  obtain ⟨r1, h1, h2, h3⟩ := c_Fu_isValue_a 1944 hI.1 a1 a2
  obtain ⟨r2, k1, k2, k3⟩ := c_Mo_isValue_a 2044 hI.1.2.2.1.2.1 a1 a2
  refine ⟨0, 0, by decide, by decide, Or.inr (Or.inr (Or.inr (Or.inr (Or.inr (Or.inr (Or.inr (Or.inr (Or.inr (Or.inl ⟨rfl, ⟨rfl, rfl⟩, _, conR_of h3, ?_⟩)))))))))⟩
  rintro M1 v1 ⟨e8, rfl⟩
  replace e8 := e8.symm
  subst e8
  refine ⟨r1, rfl, _, k3, ?_⟩
  rintro M2 v2 ⟨rfl, hq⟩
  refine ⟨r2, rfl, ?_, r_I_fr hX hI ((r_fr_44 M 0).tr (r_fr_q hq))⟩
  have e : r1 = 1 ↔ r2 = 1 := h2.trans k2.symm
  omega
