theorem q_pre_cg {M M2 : g_M} (h : ∀ k : Nat, 46 ≤ k ∧ k < 59 → M2 k = M k) : ∀ f t : Nat, q_pre M2 f t = q_pre M f t := by
  have hk : ∀ t, q_kids M2 t = q_kids M t := fun t => by
    unfold q_kids q_ks q_w
    rw [h 52 (by decide), h 47 (by decide), h 50 (by decide), h 53 (by decide)]
  intro f
  induction f with
  | zero => intro t; rfl
  | succ f ih =>
    intro t
    rw [q_pre, q_pre, hk]
    congr 1
    rw [List.flatMap_def, List.flatMap_def]
    congr 1
    exact List.map_congr_left fun y _ => ih y
theorem q_pl_cg {M M2 : g_M} (h : ∀ k : Nat, 46 ≤ k ∧ k < 59 → M2 k = M k) (t : Nat) : q_pl M2 t = q_pl M t := q_pre_cg h t t
theorem q_cls_cg {M M2 : g_M} (h : ∀ k : Nat, 46 ≤ k ∧ k < 59 → M2 k = M k) (h64 : M2 64 = M 64) (h8 : M2 45 8 = M 45 8) (w : Nat) (p q r : Int) (b : Nat) : q_cls M2 w p q r b = q_cls M w p q r b := by
  have h1 : ∀ k : Nat, q_pats M2 p q r k = q_pats M p q r k := by
    intro k
    induction k with
    | zero =>
      show some (q_z M2 8 64) = some (q_z M 8 64)
      congr 1
      funext y
      unfold q_z
      rw [h64]
    | succ k ih =>
      rw [q_pats, q_pats, ih, h8]
      have e : ∀ s t, q_pt M2 s t = q_pt M s t := fun s t => by
        unfold q_pt
        rw [h 54 (by decide), h 55 (by decide), h 52 (by decide), q_pl_cg h]
      simp only [e]
  unfold q_cls
  rw [h1, h 52 (by decide), q_pl_cg h]
theorem q_T_cg {M M2 : g_M} (h : ∀ k : Nat, 46 ≤ k ∧ k < 59 → M2 k = M k) (h8 : M2 45 8 = M 45 8) (hT : q_T M) : q_T M2 := by
  have hw : ∀ t, q_w M2 t = q_w M t := fun t => by
    unfold q_w
    rw [h 52 (by decide), h 47 (by decide), h 50 (by decide)]
  have hk : ∀ t, q_kids M2 t = q_kids M t := fun t => by
    unfold q_kids q_ks q_w
    rw [h 52 (by decide), h 47 (by decide), h 50 (by decide), h 53 (by decide)]
  unfold q_T
  rw [h8]
  refine ⟨hT.1, hT.2.1, fun t ht => ?_⟩
  rw [hw, hk, h 52 (by decide), h 53 (by decide), h 55 (by decide)]
  exact hT.2.2 t ht
