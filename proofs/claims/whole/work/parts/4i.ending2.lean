theorem z_if {P Q : Prop} [Decidable P] [Decidable Q] (h : P ↔ Q) (a b : Int) : (if P then a else b) = if Q then a else b := by
  by_cases hp : P
  · rw [if_pos hp, if_pos (h.mp hp)]
  · rw [if_neg hp, if_neg (fun hq => hp (h.mpr hq))]
theorem q_kids_map (M : g_M) (t : Nat) : q_kids M t = (List.range (q_w M t).toNat).map (fun i => (M 53 (3 * t + i)).toNat) := by
  unfold q_kids q_ks
  rw [List.drop_zero]
theorem z_take_s {α : Type} (f : Nat → α) (w k : Nat) (hk : k < w) : ((List.range w).map f).take (k + 1) = ((List.range w).map f).take k ++ [f k] := by
  rw [List.take_add_one]
  congr 1
  simp [hk]
theorem z_fl_len (f g : Nat → List Nat) : ∀ l : List Nat, (∀ x ∈ l, (f x).length ≤ (g x).length) → (l.flatMap f).length ≤ (l.flatMap g).length := by
  intro l
  induction l with
  | nil => intro _; exact Nat.le_refl _
  | cons a l ih =>
    intro h
    rw [List.flatMap_cons, List.flatMap_cons, List.length_append, List.length_append]
    have h1 := h a List.mem_cons_self
    have h2 := ih (fun x hx => h x (List.mem_cons_of_mem _ hx))
    omega
theorem c_En_collectCallsIn {M : g_M} (hP : r_P M) : ∀ (t d : Nat) (l : List Nat), (t : Int) < M 45 8 → l.length + (q_pl M t).length ≤ 40 → Con y_En_collectCallsIn w_En_collectCallsIn (g_rm (d + t + 1)) LX (e_c M l) [g_r 30, g_i (t : Int)] LX (e_c M (l ++ k_c M t)) none := by
  intro t
  induction t using Nat.strongRecOn with
  | ind t ih =>
    intro d l ht hlen
    have hT := hP.2.2.1.2.1
    have hnt := hT.2.1
    obtain ⟨w1, w2, w3, w4⟩ := r_w hP ht
    have hpl := q_pl_eq hT ht
    have hkm := q_kids_map M t
    obtain ⟨w, hw⟩ : ∃ w : Nat, q_w M t = w := ⟨(q_w M t).toNat, by omega⟩
    rw [hw, Int.toNat_natCast] at hkm
    have hlf : ∀ k, k < w → ∀ l0 : List Nat, l0 ++ ((q_kids M t).take (k + 1)).flatMap (k_c M) = (l0 ++ ((q_kids M t).take k).flatMap (k_c M)) ++ k_c M (M 53 (3 * t + k)).toNat := by
      intro k hk l0
      rw [hkm, z_take_s _ w k hk, List.flatMap_append, List.flatMap_cons, List.flatMap_nil, List.append_nil, List.append_assoc]
    have hbound : ∀ k, k < w → (((q_kids M t).take k).flatMap (k_c M)).length + (q_pl M (M 53 (3 * t + k)).toNat).length ≤ ((q_kids M t).flatMap (q_pl M)).length := by
      intro k hk
      have h1 : (((q_kids M t).take k).flatMap (k_c M)).length ≤ (((q_kids M t).take k).flatMap (q_pl M)).length := z_fl_len _ _ _ (fun x _ => List.length_filter_le _ _)
      have h2 : (((q_kids M t).take (k + 1)).flatMap (q_pl M)).length = (((q_kids M t).take k).flatMap (q_pl M)).length + (q_pl M (M 53 (3 * t + k)).toNat).length := by
        rw [hkm, z_take_s _ w k hk, List.flatMap_append, List.flatMap_cons, List.flatMap_nil, List.append_nil, List.length_append]
      have h3 : (((q_kids M t).take (k + 1)).flatMap (q_pl M)).length ≤ ((q_kids M t).flatMap (q_pl M)).length := by
        have h4 := congrArg (fun z => (z.flatMap (q_pl M)).length) (List.take_append_drop (k + 1) (q_kids M t))
        simp only [List.flatMap_append, List.length_append] at h4
        omega
      omega
    rw [hpl, List.length_cons] at hlen
    have ih0 : ∀ l0 : List Nat, l0.length ≤ l.length + 1 → ∀ k, k < w → Con y_En_collectCallsIn w_En_collectCallsIn (g_rm (d + t)) LX (e_c M (l0 ++ ((q_kids M t).take k).flatMap (k_c M))) [g_r 30, g_i (((M 53 (3 * t + k)).toNat : Nat) : Int)] LX (e_c M (l0 ++ ((q_kids M t).take (k + 1)).flatMap (k_c M))) none := by
      intro l0 hl0 k hk
      have h1 := (w4 k (by omega)).2
      have hb := hbound k hk
      have h2 := ih _ h1 (d + (t - (M 53 (3 * t + k)).toNat - 1)) (l0 ++ ((q_kids M t).take k).flatMap (k_c M)) (by omega) (by rw [List.length_append]; omega)
      rw [show d + (t - (M 53 (3 * t + k)).toNat - 1) + (M 53 (3 * t + k)).toNat + 1 = d + t by omega] at h2
      rw [hlf k hk]
      exact h2
    have hfull : ∀ l0 : List Nat, l0 ++ ((q_kids M t).take w).flatMap (k_c M) = l0 ++ (q_kids M t).flatMap (k_c M) := by
      intro l0
      rw [List.take_of_length_le (by rw [hkm, List.length_map, List.length_range]; exact Nat.le_refl _)]
    have hkc := k_c_eq hT ht
    by_cases h16 : 16 ≤ M 52 t
    · have h10 : M 10 t = 2 := by
        rcases (hP.2.2.1.2.2.1 t ht).1 with h | h | h
        · omega
        · omega
        · exact h.2.2.1
      have h9 := c_En_collectCallsIn_y (d + t) M t w l (fun k => (M 53 (3 * t + k)).toNat) (fun k => (l ++ [t]) ++ ((q_kids M t).take k).flatMap (k_c M)) (by omega) h10 (by omega) (by simp) (by omega) (by omega) (fun k hk => (w4 k (by omega)).1) (ih0 (l ++ [t]) (by simp))
      rw [hfull] at h9
      rw [hkc, if_pos h16, ← List.append_assoc]
      exact h9
    · have h10 : ¬ M 10 t = 2 := by
        rcases (hP.2.2.1.2.2.1 t ht).1 with h | h | h
        · omega
        · omega
        · omega
      have h9 := c_En_collectCallsIn_n (d + t) M t w l (fun k => (M 53 (3 * t + k)).toNat) (fun k => l ++ ((q_kids M t).take k).flatMap (k_c M)) (by omega) h10 (by simp) (by omega) (by omega) (fun k hk => (w4 k (by omega)).1) (ih0 l (by omega))
      rw [hfull] at h9
      rw [hkc, if_neg h16, List.nil_append]
      exact h9
theorem c_En_isSame {M : g_M} (hP : r_P M) : ∀ (p d x : Nat), (p : Int) < M 45 8 → (x : Int) < M 45 8 → (∀ u ∈ q_pl M p, M 52 u < 16) → Con y_En_isSame w_En_isSame (g_rm (d + p + 1)) LX M [g_r 30, g_i (p : Int), g_i (x : Int)] LX M (some (g_i (if q_a M p x = true then 1 else 0))) := by
  intro p
  induction p using Nat.strongRecOn with
  | ind p ih =>
    intro d x hp hx hno
    have hT := hP.2.2.1.2.1
    have hnt := hT.2.1
    obtain ⟨w1, w2, w3, w4⟩ := r_w hP hp
    obtain ⟨x1, x2, x3, x4⟩ := r_w hP hx
    have hpl := q_pl_eq hT hp
    have hq := q_a_eq hT hp x
    have h16 : M 52 p < 16 := hno p (by rw [hpl]; exact List.mem_cons_self)
    have hxk := (hP.2.2.1.2.2.1 x hx).1
    have hx0 := (hT.2.2 x hx).1
    rcases r_hd hP hp with ⟨v, v1, v2, v3, v4, v5⟩ | ⟨h, w, v1, v2, v3, v4, v5, v6, v7, v8⟩ | ⟨h, w, v1, v2, v3, v4, v5, v6, v7, v8⟩
    · refine (c_En_isSame_v (d + p) M p x v (by omega) (by omega) v3 v4).eqr ?_
      rw [hq, w1, v5]
      have e : (M 10 x = 0 ∧ M 11 x = v) ↔ M 52 p = M 52 x := by
        rcases hxk with h | h | h <;> omega
      simp [e]
    · have hheads : (M 10 x = 1 ∧ M 11 x = h) ↔ M 52 p = M 52 x := by
        rcases hxk with h | h | h <;> omega
      refine (c_En_isSame_m (d + p) M p x h w (fun k => (M 53 (3 * p + k)).toNat) (fun k => (M 53 (3 * x + k)).toNat) (fun k => q_a M (M 53 (3 * p + k)).toNat (M 53 (3 * x + k)).toNat) (by omega) (by omega) v4 v5 v6 v7 (fun k hk => (w4 k (by omega)).1) (fun e1 e2 k hk => (x4 k (by have := q_w_hd (hheads.mp ⟨e1, e2⟩); omega)).1) (fun e1 e2 k hk => ?_)).eqr ?_
      · have hww := q_w_hd (hheads.mp ⟨e1, e2⟩)
        have h1 := (w4 k (by omega)).2
        have h2 := (x4 k (by omega)).2
        have h3 := ih _ h1 (d + (p - (M 53 (3 * p + k)).toNat - 1)) (M 53 (3 * x + k)).toNat (by omega) (by omega) (fun u hu => hno u (by
          rw [hpl]
          refine List.mem_cons_of_mem _ (List.mem_flatMap.mpr ⟨(M 53 (3 * p + k)).toNat, ?_, hu⟩)
          rw [q_kids_map]
          exact List.mem_map.mpr ⟨k, List.mem_range.mpr (by omega), rfl⟩))
        rw [show d + (p - (M 53 (3 * p + k)).toNat - 1) + (M 53 (3 * p + k)).toNat + 1 = d + p by omega] at h3
        exact h3
      · rw [hq, w1, v6, Int.toNat_natCast]
        refine z_if ?_ 1 0
        rw [Bool.and_eq_true, decide_eq_true_iff, ← hheads, and_assoc]
    · omega
theorem c_En_isSame_u {M : g_M} (hP : r_P M) (p d x : Nat) (hp : (p : Int) < M 45 8) (hx : (x : Int) < M 45 8) (hno : ∀ u ∈ q_pl M p, M 52 u < 16) : Con y_En_isSame w_En_isSame (g_rm (d + 101)) LX M [g_r 30, g_i (p : Int), g_i (x : Int)] LX M (some (g_i (if q_a M p x = true then 1 else 0))) := by
  have hnt := hP.2.2.1.2.1.2.1
  have h := c_En_isSame hP p (d + (100 - p)) x hp hx hno
  rw [show d + (100 - p) + p + 1 = d + 101 by omega] at h
  exact h
theorem c_En_isInside {M : g_M} (hP : r_P M) : ∀ (p d x : Nat), (p : Int) < M 45 8 → (x : Int) < M 45 8 → (∀ u ∈ q_pl M p, M 52 u < 16) → Con y_En_isInside w_En_isInside (g_rm (d + p + 102)) LX M [g_r 30, g_i (p : Int), g_i (x : Int)] LX M (some (g_i (if q_in M p x = true then 1 else 0))) := by
  intro p
  induction p using Nat.strongRecOn with
  | ind p ih =>
    intro d x hp hx hno
    have hT := hP.2.2.1.2.1
    have hnt := hT.2.1
    obtain ⟨w1, w2, w3, w4⟩ := r_w hP hp
    have hpl := q_pl_eq hT hp
    obtain ⟨w, hw⟩ : ∃ w : Nat, q_w M p = w := ⟨(q_w M p).toNat, by omega⟩
    have hkid : ∀ k, k < w → ∀ u ∈ q_pl M (M 53 (3 * p + k)).toNat, M 52 u < 16 := fun k hk u hu => hno u (by
      rw [hpl]
      refine List.mem_cons_of_mem _ (List.mem_flatMap.mpr ⟨(M 53 (3 * p + k)).toNat, ?_, hu⟩)
      rw [q_kids_map]
      exact List.mem_map.mpr ⟨k, List.mem_range.mpr (by omega), rfl⟩)
    refine (c_En_isInside_s (d + p + 101) M p x w (fun k => (M 53 (3 * p + k)).toNat) (fun k => q_a M (M 53 (3 * p + k)).toNat x) (fun k => q_in M (M 53 (3 * p + k)).toNat x) (by omega) (by omega) (by omega) (fun k hk => (w4 k (by omega)).1) (fun k hk => ?_) (fun k hk => ?_)).eqr ?_
    · have h1 := (w4 k (by omega)).2
      exact c_En_isSame_u hP _ (d + p) x (by omega) hx (hkid k hk)
    · have h1 := (w4 k (by omega)).2
      have h3 := ih _ h1 (d + (p - (M 53 (3 * p + k)).toNat - 1)) x (by omega) hx (hkid k hk)
      rw [show d + (p - (M 53 (3 * p + k)).toNat - 1) + (M 53 (3 * p + k)).toNat + 102 = d + p + 101 by omega] at h3
      exact h3
    · rw [q_in_eq hT hp, hw, Int.toNat_natCast]
/-- the arc between a pattern and an argument -/
def z_arc (M : g_M) (p x : Nat) : Int := if q_a M p x = true then 1 else if q_in M p x = true then 2 else 0
theorem c_En_arcBetween {M : g_M} (hP : r_P M) (p d x : Nat) (hp : (p : Int) < M 45 8) (hx : (x : Int) < M 45 8) (hno : ∀ u ∈ q_pl M p, M 52 u < 16) : Con y_En_arcBetween w_En_arcBetween (g_rm (d + 203)) LX M [g_r 30, g_i (p : Int), g_i (x : Int)] LX M (some (g_i (z_arc M p x))) := by
  have hnt := hP.2.2.1.2.1.2.1
  have h := c_En_isInside hP p (d + (100 - p)) x hp hx hno
  rw [show d + (100 - p) + p + 102 = d + 202 by omega] at h
  exact c_En_arcBetween_s (d + 202) M p x _ _ (c_En_isSame_u hP p (d + 101) x hp hx hno) h
