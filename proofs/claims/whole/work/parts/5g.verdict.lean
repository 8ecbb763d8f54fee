/-! the verdict, as a relation; it stays when terms are added -/
def w_T (M : g_M) : Prop := ∀ c : Nat, (c : Int) < M 45 13 → z_tc M c
def w_C (M : g_M) : Prop := ∀ f : Nat, (f : Int) < M 45 4 → y_cov M f y_e
def w_X (M : g_M) (v g : Int) : Prop := (h_inh M = false ∧ v = 1 ∧ g = 0) ∨ (h_inh M = true ∧ ((¬ w_T M ∧ v = 2 ∧ g = 0) ∨ (w_T M ∧ ((¬ w_C M ∧ v = 3 ∧ g = 0) ∨ (w_C M ∧ o_Q M g ∧ ((g ≤ 200 ∧ o_E M ∧ v = 0) ∨ (¬ (g ≤ 200 ∧ o_E M) ∧ v = 4)))))))
theorem w_X_un {M : g_M} {v g v' g' : Int} (h : w_X M v g) (h' : w_X M v' g') : v = v' ∧ g = g' := by
  rcases h with ⟨a1, a2, a3⟩ | ⟨a1, h⟩
  · rcases h' with ⟨b1, b2, b3⟩ | ⟨b1, -⟩
    · exact ⟨by rw [a2, b2], by rw [a3, b3]⟩
    · rw [a1] at b1; exact absurd b1 (by decide)
  · rcases h' with ⟨b1, -⟩ | ⟨b1, h'⟩
    · rw [a1] at b1; exact absurd b1 (by decide)
    · rcases h with ⟨c1, c2, c3⟩ | ⟨c1, h⟩
      · rcases h' with ⟨d1, d2, d3⟩ | ⟨d1, -⟩
        · exact ⟨by rw [c2, d2], by rw [c3, d3]⟩
        · exact absurd d1 c1
      · rcases h' with ⟨d1, -⟩ | ⟨d1, h'⟩
        · exact absurd c1 d1
        · rcases h with ⟨e1, e2, e3⟩ | ⟨e1, e2, h⟩
          · rcases h' with ⟨f1, f2, f3⟩ | ⟨f1, -⟩
            · exact ⟨by rw [e2, f2], by rw [e3, f3]⟩
            · exact absurd f1 e1
          · rcases h' with ⟨f1, -⟩ | ⟨f1, f2, h'⟩
            · exact absurd e1 f1
            · have hg := o_Q_un e2 f2
              subst hg
              refine ⟨?_, rfl⟩
              rcases h with ⟨k1, k2, k3⟩ | ⟨k1, k3⟩
              · rcases h' with ⟨l1, l2, l3⟩ | ⟨l1, l3⟩
                · rw [k3, l3]
                · exact absurd ⟨k1, k2⟩ l1
              · rcases h' with ⟨l1, l2, l3⟩ | ⟨l1, l3⟩
                · exact absurd ⟨l1, l2⟩ k1
                · rw [k3, l3]
theorem q_t_le {M M2 : g_M} (hT : q_T M) (h : p_ex M M2) (V : Nat → Int) {x : Nat} (hx : (x : Int) < M 45 8) (y : Int) : q_t (zv M2 V) x y = q_t (zv M V) x y := by
  have key : ∀ (f x : Nat) (y : Int), (x : Int) < M 45 8 → q_tf (zv M2 V) f x y = q_tf (zv M V) f x y := by
    intro f
    induction f with
    | zero => intro x y _; rfl
    | succ f ih =>
      intro x y hx
      obtain ⟨a1, a2, a3, -, -⟩ := h.1.2 x hx
      obtain ⟨-, -, t3, t4, t5, -, -⟩ := hT.2.2 x hx
      have e1 : q_hy (zv M2 V) x = q_hy (zv M V) x := by
        show (if M2 52 x < 8 then V (M2 52 x).toNat else if M2 52 x < 16 then M2 46 (M2 52 x - 8).toNat else M2 49 (M2 52 x - 16).toNat) = (if M 52 x < 8 then V (M 52 x).toNat else if M 52 x < 16 then M 46 (M 52 x - 8).toNat else M 49 (M 52 x - 16).toNat)
        rw [a1, h.2.2.2.2 46 (by decide), h.2.2.2.2 49 (by decide)]
      have e2 : ∀ k, q_py (zv M2 V) x k = q_py (zv M V) x k := by
        intro k
        show (if M2 52 x < 16 then M2 48 (3 * (M2 52 x - 8).toNat + k) else M2 51 (3 * (M2 52 x - 16).toNat + k)) = (if M 52 x < 16 then M 48 (3 * (M 52 x - 8).toNat + k) else M 51 (3 * (M 52 x - 16).toNat + k))
        rw [a1, h.2.2.2.2 48 (by decide), h.2.2.2.2 51 (by decide)]
      have e3 : q_w (zv M2 V) x = q_w (zv M V) x := a2
      rw [q_tf, q_tf, e1, e3]
      congr 1
      rw [Bool.eq_iff_iff, List.all_eq_true, List.all_eq_true]
      have key2 : ∀ k ∈ List.range (q_w (zv M V) x).toNat, q_tf (zv M2 V) f (zv M2 V 53 (3 * x + k)).toNat (q_py (zv M2 V) x k) = q_tf (zv M V) f (zv M V 53 (3 * x + k)).toNat (q_py (zv M V) x k) := by
        intro k hk
        have hk' : k < (q_w M x).toNat := List.mem_range.mp hk
        have h5 := t5 k (by omega)
        have e4 : zv M2 V 53 (3 * x + k) = zv M V 53 (3 * x + k) := a3 k (by omega)
        rw [e2, e4]
        exact ih _ _ (by show (((M 53 (3 * x + k)).toNat : Nat) : Int) < M 45 8; omega)
      exact ⟨fun h9 k hk => by rw [← key2 k hk]; exact h9 k hk, fun h9 k hk => by rw [key2 k hk]; exact h9 k hk⟩
  exact key (x + 1) x y hx
theorem q_a_le {M M2 : g_M} (hT : q_T M) (h : p_ex M M2) {x y : Nat} (hx : (x : Int) < M 45 8) (hy : (y : Int) < M 45 8) : q_a M2 x y = q_a M x y := by
  have key : ∀ (f x y : Nat), (x : Int) < M 45 8 → (y : Int) < M 45 8 → q_al M2 f x y = q_al M f x y := by
    intro f
    induction f with
    | zero => intro x y _ _; rfl
    | succ f ih =>
      intro x y hx hy
      obtain ⟨a1, a2, a3, -, -⟩ := h.1.2 x hx
      obtain ⟨b1, b2, b3, -, -⟩ := h.1.2 y hy
      obtain ⟨-, -, t3, t4, t5, -, -⟩ := hT.2.2 x hx
      obtain ⟨-, -, s3, s4, s5, -, -⟩ := hT.2.2 y hy
      rw [q_al, q_al, a1, b1, a2]
      by_cases he : M 52 x = M 52 y
      · rw [decide_eq_true he, Bool.true_and, Bool.true_and]
        have hww := q_w_hd he
        rw [Bool.eq_iff_iff, List.all_eq_true, List.all_eq_true]
        have key2 : ∀ k ∈ List.range (q_w M x).toNat, q_al M2 f (M2 53 (3 * x + k)).toNat (M2 53 (3 * y + k)).toNat = q_al M f (M 53 (3 * x + k)).toNat (M 53 (3 * y + k)).toNat := by
          intro k hk
          have hk' := List.mem_range.mp hk
          have h5 := t5 k (by omega)
          have h6 := s5 k (by omega)
          rw [a3 k (by omega), b3 k (by omega)]
          exact ih _ _ (by omega) (by omega)
        exact ⟨fun h9 k hk => by rw [← key2 k hk]; exact h9 k hk, fun h9 k hk => by rw [key2 k hk]; exact h9 k hk⟩
      · rw [decide_eq_false he, Bool.false_and, Bool.false_and]
  exact key (x + 1) x y hx hy
theorem z_arc_le {M M2 : g_M} (hT : q_T M) (h : p_ex M M2) {p x : Nat} (hp : (p : Int) < M 45 8) (hx : (x : Int) < M 45 8) : z_arc M2 p x = z_arc M p x := by
  have e : q_in M2 p x = q_in M p x := by
    unfold q_in
    rw [q_kids_le h.1 hp]
    have e1 : (q_kids M p).flatMap (q_pl M2) = (q_kids M p).flatMap (q_pl M) := by
      rw [List.flatMap_def, List.flatMap_def]
      congr 1
      refine List.map_congr_left fun y hy => ?_
      have := q_kid_lt hT hp y hy
      exact q_pl_le hT h.1 (by omega)
    rw [e1, Bool.eq_iff_iff, List.any_eq_true, List.any_eq_true]
    have key : ∀ u ∈ (q_kids M p).flatMap (q_pl M), q_a M2 u x = q_a M u x := by
      intro u hu
      obtain ⟨y, hy, hu⟩ := List.mem_flatMap.mp hu
      have h1 := q_kid_lt hT hp y hy
      have h2 := q_pl_in hT y (by omega) u hu
      exact q_a_le hT h (by omega) hx
    exact ⟨fun ⟨u, hu, h9⟩ => ⟨u, hu, by rw [← key u hu]; exact h9⟩, fun ⟨u, hu, h9⟩ => ⟨u, hu, by rw [key u hu]; exact h9⟩⟩
  unfold z_arc
  rw [q_a_le hT h hp hx, e]
theorem k_c_le {M M2 : g_M} (hT : q_T M) (h : p_ex M M2) {t : Nat} (ht : (t : Int) < M 45 8) : k_c M2 t = k_c M t := by
  unfold k_c
  rw [q_pl_le hT h.1 ht]
  refine List.filter_congr fun x hx => ?_
  rw [(h.1.2 x (by have := q_pl_in hT t ht x hx; omega)).1]
theorem w_T_le {M M2 : g_M} (hP : r_P M) (h : p_ex M M2) : w_T M2 ↔ w_T M := by
  unfold w_T
  rw [h.2.2.2.1]
  refine forall_congr' fun c => ?_
  have key : (c : Int) < M 45 13 → (z_tc M2 c ↔ z_tc M c) := by
    intro hc
    obtain ⟨f, w, b, c24, hf56, hf6, hfn, hf20, hw50, hw7, hw3, hbb, hb22, hbt, h49, hpat⟩ := r_cn hP hc
    unfold z_tc
    rw [h.2.2.2.2 56 (by decide), h.2.2.2.2 57 (by decide), h.2.2.2.2 58 (by decide), h.2.2.2.2 50 (by decide), h.2.2.2.2 51 (by decide), h.2.2.2.2 49 (by decide), hf56, Int.toNat_natCast, hbb, Int.toNat_natCast]
    refine exists_congr fun V => ?_
    rw [q_t_le hP.2.2.1.2.1 h V hbt]
    refine and_congr ⟨fun h9 k hk => ?_, fun h9 k hk => ?_⟩ Iff.rfl
    · obtain ⟨p, hp1, -, hpt, -⟩ := hpat k (by omega)
      have := h9 k hk
      rw [hp1, Int.toNat_natCast] at this ⊢
      rwa [q_t_le hP.2.2.1.2.1 h V hpt] at this
    · obtain ⟨p, hp1, -, hpt, -⟩ := hpat k (by omega)
      have := h9 k hk
      rw [hp1, Int.toNat_natCast] at this ⊢
      rwa [q_t_le hP.2.2.1.2.1 h V hpt]
  exact ⟨fun h9 hc => (key hc).mp (h9 hc), fun h9 hc => (key hc).mpr (h9 hc)⟩
theorem y_W_le {M M2 : g_M} (hP : r_P M) (h : p_ex M M2) {c : Nat} (hc : (c : Int) < M 45 13) (s : Nat) : y_W M2 c s = y_W M c s := by
  obtain ⟨f, w, b, c24, hf56, hf6, hfn, hf20, hw50, hw7, hw3, hbb, hb22, hbt, h49, hpat⟩ := r_cn hP hc
  have hT := hP.2.2.1.2.1
  unfold y_W
  rw [h.2.2.2.2 56 (by decide), h.2.2.2.2 57 (by decide), h.2.2.2.2 50 (by decide), hf56, Int.toNat_natCast, hw50]
  by_cases hs : ((s / 4 : Nat) : Int) < w
  · rw [if_pos hs, if_pos hs]
    obtain ⟨p, hp1, -, hpt, -, -, hp16, -⟩ := hpat (s / 4) (by omega)
    rw [hp1, Int.toNat_natCast]
    obtain ⟨a1, a2, a3, -, -⟩ := h.1.2 p hpt
    obtain ⟨-, -, t3, t4, t5, -, -⟩ := hT.2.2 p hpt
    have h16 := hp16 p (by rw [q_pl_eq hT hpt]; exact List.mem_cons_self)
    unfold y_w
    rw [a1, h.2.2.2.2 47 (by decide)]
    by_cases h8 : M 52 p < 8
    · rw [if_pos h8, if_pos h8]
    · rw [if_neg h8, if_neg h8]
      by_cases hj : s % 4 = 0
      · rw [if_pos hj, if_pos hj]
      · rw [if_neg hj, if_neg hj]
        by_cases hle : ((s % 4 : Nat) : Int) ≤ M 47 (M 52 p - 8).toNat
        · have hqw : q_w M p = M 47 (M 52 p - 8).toNat := by
            unfold q_w
            rw [if_neg h8, if_pos h16]
          have h5 := t5 (s % 4 - 1) (by omega)
          rw [if_pos hle, if_pos hle, a3 (s % 4 - 1) (by omega), (h.1.2 (M 53 (3 * p + (s % 4 - 1))).toNat (by omega)).1]
        · rw [if_neg hle, if_neg hle]
  · rw [if_neg hs, if_neg hs]
theorem w_C_le {M M2 : g_M} (hP : r_P M) (h : p_ex M M2) : w_C M2 ↔ w_C M := by
  have key : ∀ f, y_cov M2 f y_e ↔ y_cov M f y_e := by
    intro f
    unfold y_cov
    refine forall_congr' fun v => ?_
    have e1 : y_v M2 f v ↔ y_v M f v := by
      unfold y_v y_C
      rw [h.2.1, h.2.2.2.2 46 (by decide), h.2.2.2.2 47 (by decide), h.2.2.2.2 48 (by decide), h.2.2.2.2 50 (by decide), h.2.2.2.2 51 (by decide)]
    have e2 : (∃ c : Nat, (c : Int) < M2 45 13 ∧ M2 56 c = f ∧ y_m M2 c v) ↔ ∃ c : Nat, (c : Int) < M 45 13 ∧ M 56 c = f ∧ y_m M c v := by
      rw [h.2.2.2.1, h.2.2.2.2 56 (by decide)]
      refine exists_congr fun c => ?_
      constructor
      · rintro ⟨h1, h2, h3⟩
        exact ⟨h1, h2, fun s hs => by rw [← y_W_le hP h h1]; exact h3 s hs⟩
      · rintro ⟨h1, h2, h3⟩
        exact ⟨h1, h2, fun s hs => by rw [y_W_le hP h h1]; exact h3 s hs⟩
    rw [e1, e2]
  unfold w_C
  rw [h.2.2.1]
  exact ⟨fun h9 f hf => (key f).mp (h9 f hf), fun h9 f hf => (key f).mpr (h9 f hf)⟩
theorem o_R_le {M M2 : g_M} (hP : r_P M) (h : p_ex M M2) (x : Nat) : o_R M2 x ↔ o_R M x := by
  have hG : ∀ x, o_G M2 x ↔ o_G M x := by
    intro x
    unfold o_G
    rw [h.2.2.2.1, h.2.2.2.2 58 (by decide)]
    refine exists_congr fun c => exists_congr fun u => ?_
    have key : (c : Int) < M 45 13 → (u ∈ k_c M2 (M 58 c).toNat ↔ u ∈ k_c M (M 58 c).toNat) ∧ (u ∈ k_c M (M 58 c).toNat → o_g M2 c u = o_g M c u) := by
      intro hc
      obtain ⟨f, w, b, c24, hf56, hf6, hfn, hf20, hw50, hw7, hw3, hbb, hb22, hbt, h49, hpat⟩ := r_cn hP hc
      rw [hbb, Int.toNat_natCast, k_c_le hP.2.2.1.2.1 h hbt]
      refine ⟨Iff.rfl, fun hu => ?_⟩
      obtain ⟨ix, hix⟩ := List.getElem?_of_mem hu
      obtain ⟨ut, -, g, wu, hg6, hu52, hu12, hwu3, hgw⟩ := k_c_in hP hbt hix
      obtain ⟨a1, a2, a3, -, -⟩ := h.1.2 u ut
      obtain ⟨w1, w2, w3, w4⟩ := r_w hP ut
      have e : ∀ i j, o_p M2 c u i j = o_p M c u i j := by
        intro i j
        unfold o_p
        rw [h.2.2.2.2 50 (by decide), h.2.2.2.2 56 (by decide), h.2.2.2.2 57 (by decide), a1, hf56, Int.toNat_natCast, hw50, show (M 52 u - 16).toNat = g by omega, hgw]
        by_cases hij : (i : Int) < (w : Int) ∧ (j : Int) < (wu : Int)
        · rw [if_pos hij, if_pos hij]
          obtain ⟨p, hp1, -, hpt, -⟩ := hpat i (by omega)
          have h1 := (w4 j (by omega)).2
          rw [a3 j (by omega), hp1, Int.toNat_natCast]
          exact z_arc_le hP.2.2.1.2.1 h hpt (by omega)
        · rw [if_neg hij, if_neg hij]
      unfold o_g
      simp only [e]
      rw [h.2.2.2.2 56 (by decide), a1]
    constructor
    · rintro ⟨h1, h2, h3⟩
      obtain ⟨k1, k2⟩ := key h1
      have h4 := k1.mp h2
      exact ⟨h1, h4, by rw [h3, k2 h4]⟩
    · rintro ⟨h1, h2, h3⟩
      obtain ⟨k1, k2⟩ := key h1
      exact ⟨h1, k1.mpr h2, by rw [h3, k2 h2]⟩
  have hPn : ∀ n x, o_P M2 n x ↔ o_P M n x := by
    intro n
    induction n with
    | zero => exact hG
    | succ n ih =>
      intro x
      show (∃ y z, o_P M2 n y ∧ o_G M2 z ∧ o_t y = o_f z ∧ x = o_c y z) ↔ _
      refine exists_congr fun y => exists_congr fun z => ?_
      rw [ih, hG]
  unfold o_R
  exact exists_congr fun n => hPn n x
theorem w_X_r : r_X w_X := by
  intro M M2 v g hP h hX
  have e1 : h_inh M2 = h_inh M := by
    unfold h_inh
    rw [h.2.1, h.2.2.1, h.2.2.2.2 46 (by decide), h.2.2.2.2 47 (by decide), h.2.2.2.2 48 (by decide), h.2.2.2.2 49 (by decide), h.2.2.2.2 50 (by decide), h.2.2.2.2 51 (by decide)]
  have e2 := w_T_le hP h
  have e3 := w_C_le hP h
  have e4 : o_Q M2 g ↔ o_Q M g := by
    unfold o_Q
    simp only [o_R_le hP h]
  have e5 : o_E M2 ↔ o_E M := by
    unfold o_E
    simp only [o_R_le hP h]
  unfold w_X at hX ⊢
  rw [e1, e2, e3, e4, e5]
  exact hX
