/-- the variables of a row of terms -/
def v_h (hd : Nat → Int) (l : List Nat) : List Nat := (l.filter (fun x => decide (hd x < 8))).map (fun x => (hd x).toNat)
def v_l (M : g_M) (t : Nat) : List Nat := v_h (M 52) (q_pl M t)
theorem v_h_nil (hd : Nat → Int) : v_h hd [] = [] := rfl
theorem v_h_y {hd : Nat → Int} {x : Nat} (h : hd x < 8) (l : List Nat) : v_h hd (x :: l) = (hd x).toNat :: v_h hd l := by
  unfold v_h; rw [List.filter_cons_of_pos (by simpa using h)]; rfl
theorem v_h_n {hd : Nat → Int} {x : Nat} (h : ¬ hd x < 8) (l : List Nat) : v_h hd (x :: l) = v_h hd l := by
  unfold v_h; rw [List.filter_cons_of_neg (by simpa using h)]
theorem v_h_app (hd : Nat → Int) (a b : List Nat) : v_h hd (a ++ b) = v_h hd a ++ v_h hd b := by
  unfold v_h; rw [List.filter_append, List.map_append]
theorem v_h_flat (M : g_M) (l : List Nat) : v_h (M 52) (l.flatMap (q_pl M)) = l.flatMap (v_l M) := by
  induction l with
  | nil => rfl
  | cons a l ih => rw [List.flatMap_cons, List.flatMap_cons, v_h_app, ih]; rfl
/-- a scan of patterns -/
theorem q_scan_eq (hd : Nat → Int) : ∀ (l : List Nat) (s : Nat → Int), q_scan hd s l = if (∀ x ∈ l, hd x < 16) ∧ (v_h hd l).Nodup ∧ (∀ v ∈ v_h hd l, s v = 0) then some (fun b => if b ∈ v_h hd l then 1 else s b) else none := by
  intro l
  induction l with
  | nil => intro s; rw [q_scan, if_pos ⟨by simp, List.nodup_nil, by simp [v_h]⟩]; simp [v_h]
  | cons x l ih =>
    intro s
    rw [q_scan]
    by_cases h16 : 16 ≤ hd x
    · rw [if_pos h16, if_neg (fun h => absurd (h.1 x List.mem_cons_self) (by omega))]
    · rw [if_neg h16]
      by_cases h8 : hd x < 8
      · rw [if_pos h8, v_h_y h8]
        by_cases hs : s (hd x).toNat = 0
        · rw [if_pos hs, ih]
          by_cases hc : (∀ y ∈ l, hd y < 16) ∧ (v_h hd l).Nodup ∧ (∀ v ∈ v_h hd l, (if v = (hd x).toNat then (1 : Int) else s v) = 0)
          · rw [if_pos hc]
            have hnx : (hd x).toNat ∉ v_h hd l := fun h9 => by
              have := hc.2.2 _ h9
              rw [if_pos rfl] at this
              exact absurd this (by decide)
            rw [if_pos]
            · congr 1
              funext b
              by_cases hb : b = (hd x).toNat
              · subst hb
                rw [if_neg hnx, if_pos rfl, if_pos List.mem_cons_self]
              · rw [if_neg hb]
                by_cases hb2 : b ∈ v_h hd l
                · rw [if_pos hb2, if_pos (List.mem_cons_of_mem _ hb2)]
                · rw [if_neg hb2, if_neg (by rw [List.mem_cons]; exact fun h9 => h9.elim hb hb2)]
            · refine ⟨fun y hy => ?_, List.nodup_cons.mpr ⟨hnx, hc.2.1⟩, fun v hv => ?_⟩
              · rcases List.mem_cons.mp hy with rfl | hy
                · omega
                · exact hc.1 y hy
              · rcases List.mem_cons.mp hv with rfl | hv
                · exact hs
                · have := hc.2.2 v hv
                  rwa [if_neg (fun h9 : v = (hd x).toNat => hnx (h9 ▸ hv))] at this
          · rw [if_neg hc, if_neg]
            intro h
            have h2 := List.nodup_cons.mp h.2.1
            refine hc ⟨fun y hy => h.1 y (List.mem_cons_of_mem _ hy), h2.2, fun v hv => ?_⟩
            rw [if_neg (fun h9 : v = (hd x).toNat => h2.1 (h9 ▸ hv))]
            exact h.2.2 v (List.mem_cons_of_mem _ hv)
        · rw [if_neg hs, if_neg]
          intro h
          exact hs (h.2.2 _ List.mem_cons_self)
      · rw [if_neg h8, v_h_n h8, ih]
        by_cases hc : (∀ y ∈ l, hd y < 16) ∧ (v_h hd l).Nodup ∧ (∀ v ∈ v_h hd l, s v = 0)
        · rw [if_pos hc, if_pos ⟨fun y hy => by rcases List.mem_cons.mp hy with rfl | hy; omega; exact hc.1 y hy, hc.2⟩]
        · rw [if_neg hc, if_neg (fun h => hc ⟨fun y hy => h.1 y (List.mem_cons_of_mem _ hy), h.2⟩)]
/-- what the class keeps of a term's variables and calls -/
def r_v (M : g_M) (t : Nat) : Prop := M 16 t = (v_m (v_l M t) : Nat) ∧ (M 17 t = 0 ↔ ∀ x ∈ q_pl M t, M 52 x < 16) ∧ (M 18 t = 0 ↔ (v_l M t).Nodup)
theorem q_pl_in {M : g_M} (hT : q_T M) : ∀ (t : Nat), (t : Int) < M 45 8 → ∀ x ∈ q_pl M t, x ≤ t := by
  intro t
  induction t using Nat.strongRecOn with
  | ind t ih =>
    intro ht x hx
    rw [q_pl_eq hT ht] at hx
    rcases List.mem_cons.mp hx with rfl | hx
    · exact Nat.le_refl _
    · obtain ⟨y, hy, hx⟩ := List.mem_flatMap.mp hx
      have := q_kid_lt hT ht y hy
      have := ih y this (by omega) x hx
      omega
theorem v_l_8 {M : g_M} (hT : q_T M) {t : Nat} (ht : (t : Int) < M 45 8) : ∀ v ∈ v_l M t, v < 8 := by
  intro v hv
  unfold v_l v_h at hv
  obtain ⟨x, hx, rfl⟩ := List.mem_map.mp hv
  have := (List.mem_filter.mp hx).2
  rw [decide_eq_true_iff] at this
  have h1 := q_pl_in hT t ht x (List.mem_filter.mp hx).1
  have := (hT.2.2 x (by omega)).1
  omega
/-- the variables of the first k patterns -/
def v_p (M : g_M) (p q r : Int) : Nat → List Nat
  | 0 => []
  | k + 1 => v_p M p q r k ++ v_l M (j_pk p q r k).toNat
theorem w_b_q {M : g_M} (hT : q_T M) (hn : M 9 9 = M 45 8) (hv : ∀ t : Nat, (t : Int) < M 45 8 → r_v M t ∧ M 14 t = M 54 t ∧ M 15 t = M 55 t) (p q r : Int) : ∀ k : Nat,
    (w_b M p q r k = none ∧ q_pats M p q r k = none) ∨ ((∀ v ∈ v_p M p q r k, v < 8) ∧ (v_p M p q r k).Nodup ∧ w_b M p q r k = some ((v_m (v_p M p q r k) : Nat) : Int) ∧ ∃ s, q_pats M p q r k = some s ∧ ∀ b, b < 8 → (s b ≠ 0 ↔ b ∈ v_p M p q r k)) := by
  intro k
  induction k with
  | zero =>
    refine Or.inr ⟨by simp [v_p], List.nodup_nil, rfl, _, rfl, fun b hb => ?_⟩
    simp [q_z, v_p, hb]
  | succ k ih =>
    rw [w_b, q_pats]
    rcases ih with ⟨h1, h2⟩ | ⟨h1, h2, h3, s, h4, h5⟩
    · left
      rw [h1, h2]
      exact ⟨rfl, rfl⟩
    · rw [h3, h4]
      simp only [hn]
      by_cases hx : 0 ≤ j_pk p q r k ∧ j_pk p q r k < M 45 8
      · have hx' : (((j_pk p q r k).toNat : Nat) : Int) < M 45 8 := by omega
        obtain ⟨⟨r1, r2, r3⟩, r4, r5⟩ := hv _ hx'
        have h8 := v_l_8 hT hx'
        have hbnd := hT.2.2 _ hx'
        have hb1 : v_m (v_p M p q r k) < 256 := v_m_lt h1
        have hb2 : v_m (v_l M (j_pk p q r k).toNat) < 256 := v_m_lt h8
        rw [if_pos hx]
        rw [r1, g_b_and (by omega) (by omega), g_b_or (by omega) (by omega), ← v_m_app]
        have e : w_p M (j_pk p q r k).toNat ↔ (∀ x ∈ q_pl M (j_pk p q r k).toNat, M 52 x < 16) ∧ (v_l M (j_pk p q r k).toNat).Nodup ∧ ¬ (2 < M 54 (j_pk p q r k).toNat ∨ 8 < M 55 (j_pk p q r k).toNat) := by
          unfold w_p
          rw [r2, r3, r4, r5]
          constructor
          · intro h; exact ⟨h.1, h.2.1, by omega⟩
          · intro h; exact ⟨h.1, h.2.1, by omega, by omega⟩
        have ed : ((v_m (v_p M p q r k) &&& v_m (v_l M (j_pk p q r k).toNat) : Nat) : Int) = 0 ↔ ∀ x ∈ v_p M p q r k, x ∉ v_l M (j_pk p q r k).toNat := by
          rw [← v_m_dis]; omega
        unfold q_pt
        rw [q_scan_eq]
        by_cases hg : 2 < M 54 (j_pk p q r k).toNat ∨ 8 < M 55 (j_pk p q r k).toNat
        · left
          rw [if_pos hg, if_neg (fun h => (e.mp h.2.1).2.2 hg)]
          exact ⟨rfl, rfl⟩
        · rw [if_neg hg]
          have e5 : (∀ v ∈ v_h (M 52) (q_pl M (j_pk p q r k).toNat), s v = 0) ↔ ∀ x ∈ v_p M p q r k, x ∉ v_l M (j_pk p q r k).toNat := by
            constructor
            · intro h x hx1 hx2
              exact (h5 x (h8 x hx2)).mpr hx1 (h x hx2)
            · intro h v hv1
              refine Decidable.byContradiction fun h9 => ?_
              exact h v ((h5 v (h8 v hv1)).mp h9) hv1
          by_cases hc : (∀ x ∈ q_pl M (j_pk p q r k).toNat, M 52 x < 16) ∧ (v_h (M 52) (q_pl M (j_pk p q r k).toNat)).Nodup ∧ (∀ v ∈ v_h (M 52) (q_pl M (j_pk p q r k).toNat), s v = 0)
          · right
            have hd := e5.mp hc.2.2
            rw [if_pos hc, if_pos ⟨hx, e.mpr ⟨hc.1, hc.2.1, hg⟩, ed.mpr hd⟩]
            refine ⟨fun v hv1 => ?_, ?_, rfl, _, rfl, fun b hb => ?_⟩
            · rw [v_p] at hv1
              rcases List.mem_append.mp hv1 with h | h
              · exact h1 v h
              · exact h8 v h
            · rw [v_p]
              exact List.nodup_append.mpr ⟨h2, hc.2.1, fun a ha b hb hab => hd a ha (hab ▸ hb)⟩
            · rw [v_p, List.mem_append]
              show (if b ∈ v_l M (j_pk p q r k).toNat then (1 : Int) else s b) ≠ 0 ↔ _
              by_cases hb2 : b ∈ v_l M (j_pk p q r k).toNat
              · rw [if_pos hb2]
                exact ⟨fun _ => Or.inr hb2, fun _ => by decide⟩
              · rw [if_neg hb2, h5 b hb]
                exact ⟨Or.inl, fun h => h.resolve_right hb2⟩
          · left
            rw [if_neg hc, if_neg]
            · exact ⟨rfl, rfl⟩
            · intro h
              have := e.mp h.2.1
              exact hc ⟨this.1, this.2.1, e5.mpr (ed.mp h.2.2)⟩
      · left
        rw [if_neg hx, if_neg (fun h => hx h.1)]
        exact ⟨rfl, rfl⟩
theorem w_wf_q {M : g_M} (hT : q_T M) (hn : M 9 9 = M 45 8) (hv : ∀ t : Nat, (t : Int) < M 45 8 → r_v M t ∧ M 14 t = M 54 t ∧ M 15 t = M 55 t) (p q r : Int) (w b : Nat) (hb : (b : Int) < M 45 8) : w_wf M w p q r (b : Int) = q_cls M w p q r b := by
  unfold w_wf q_cls
  rcases w_b_q hT hn hv p q r w with ⟨h1, h2⟩ | ⟨h1, h2, h3, s, h4, h5⟩
  · rw [h1, h2]
  · rw [h3, h4]
    simp only [Int.toNat_natCast]
    have h8 := v_l_8 hT hb
    have hb1 : v_m (v_p M p q r w) < 256 := v_m_lt h1
    have hb2 : v_m (v_l M b) < 256 := v_m_lt h8
    rw [Bool.eq_iff_iff, decide_eq_true_iff, List.all_eq_true, (hv b hb).1.1, g_b_andn (by omega)]
    constructor
    · intro h x hx
      rw [decide_eq_true_iff]
      by_cases hx8 : 8 ≤ M 52 x
      · exact Or.inl hx8
      · right
        have hm : (M 52 x).toNat ∈ v_l M b := List.mem_map.mpr ⟨x, List.mem_filter.mpr ⟨hx, by simpa using (by omega : M 52 x < 8)⟩, rfl⟩
        exact (h5 _ (h8 _ hm)).mpr ((v_m_bit _ _).mp (h.2 _ ((v_m_bit _ _).mpr hm)))
    · intro h
      refine ⟨by omega, fun i hi => ?_⟩
      have hm := (v_m_bit _ _).mp hi
      obtain ⟨x, hx, rfl⟩ := List.mem_map.mp hm
      have hx2 := List.mem_filter.mp hx
      have := h x hx2.1
      rw [decide_eq_true_iff] at this
      have hx3 := hx2.2
      rw [decide_eq_true_iff] at hx3
      exact (v_m_bit _ _).mpr ((h5 _ (h8 _ hm)).mp (this.resolve_left (by omega)))
