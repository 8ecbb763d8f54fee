/-! terms of the reference as trees: the preorder of a term, its length is its size -/
def q_kids (M : g_M) (t : Nat) : List Nat := q_ks M t (q_w M t).toNat 0
def q_pre (M : g_M) : Nat → Nat → List Nat
  | 0, t => [t]
  | f + 1, t => t :: (q_kids M t).flatMap (q_pre M f)
def q_pl (M : g_M) (t : Nat) : List Nat := q_pre M t t
/-- what is known of the reference's terms -/
def q_T (M : g_M) : Prop := 0 ≤ M 45 8 ∧ M 45 8 ≤ 100 ∧ ∀ t : Nat, (t : Int) < M 45 8 → 0 ≤ M 52 t ∧ M 52 t < 22 ∧ 0 ≤ q_w M t ∧ q_w M t ≤ 3 ∧ (∀ k : Nat, (k : Int) < q_w M t → 0 ≤ M 53 (3 * t + k) ∧ M 53 (3 * t + k) < t) ∧ M 55 t ≤ 40 ∧ M 55 t = 1 + ((q_kids M t).map (M 55)).sum
theorem q_kid_lt {M : g_M} (hT : q_T M) {t : Nat} (ht : (t : Int) < M 45 8) : ∀ y ∈ q_kids M t, y < t := by
  intro y hy
  obtain ⟨-, -, h1, h2, h3, -, -⟩ := hT.2.2 t ht
  unfold q_kids q_ks at hy
  rw [List.drop_zero, List.mem_map] at hy
  obtain ⟨i, hi, rfl⟩ := hy
  rw [List.mem_range] at hi
  have := h3 i (by omega)
  omega
theorem q_pre_eq {M : g_M} (hT : q_T M) : ∀ (f g t : Nat), t ≤ f → t ≤ g → (t : Int) < M 45 8 → q_pre M f t = q_pre M g t := by
  intro f
  induction f with
  | zero =>
    intro g t hf hg ht
    have e : t = 0 := by omega
    subst e
    match g with
    | 0 => rfl
    | g + 1 =>
      have hk : q_kids M 0 = [] := List.eq_nil_iff_forall_not_mem.mpr (fun y hy => absurd (q_kid_lt hT ht y hy) (by omega))
      show [0] = 0 :: (q_kids M 0).flatMap (q_pre M g)
      rw [hk]
      rfl
  | succ f ih =>
    intro g t hf hg ht
    match g with
    | 0 =>
      have e : t = 0 := by omega
      subst e
      have hk : q_kids M 0 = [] := List.eq_nil_iff_forall_not_mem.mpr (fun y hy => absurd (q_kid_lt hT ht y hy) (by omega))
      show 0 :: (q_kids M 0).flatMap (q_pre M f) = [0]
      rw [hk]
      rfl
    | g + 1 =>
      show t :: (q_kids M t).flatMap (q_pre M f) = t :: (q_kids M t).flatMap (q_pre M g)
      congr 1
      rw [List.flatMap_def, List.flatMap_def]
      congr 1
      refine List.map_congr_left fun y hy => ?_
      have := q_kid_lt hT ht y hy
      exact ih g y (by omega) (by omega) (by omega)
theorem q_pl_eq {M : g_M} (hT : q_T M) {t : Nat} (ht : (t : Int) < M 45 8) : q_pl M t = t :: (q_kids M t).flatMap (q_pl M) := by
  have h1 : q_pl M t = q_pre M (t + 1) t := q_pre_eq hT t (t + 1) t (Nat.le_refl _) (by omega) ht
  rw [h1]
  show t :: (q_kids M t).flatMap (q_pre M t) = _
  congr 1
  rw [List.flatMap_def, List.flatMap_def]
  congr 1
  refine List.map_congr_left fun y hy => ?_
  have := q_kid_lt hT ht y hy
  exact q_pre_eq hT t y y (by omega) (Nat.le_refl _) (by omega)
theorem q_fl_len {M : g_M} (q : Nat → Int) (l : List Nat) (h : ∀ y ∈ l, ((q_pl M y).length : Int) = q y) : ((l.flatMap (q_pl M)).length : Int) = (l.map q).sum := by
  induction l with
  | nil => rfl
  | cons a l ih =>
    rw [List.flatMap_cons, List.length_append, List.map_cons, List.sum_cons, ← ih (fun y hy => h y (List.mem_cons_of_mem _ hy)), ← h a List.mem_cons_self]
    omega
theorem q_pl_len {M : g_M} (hT : q_T M) : ∀ (t : Nat), (t : Int) < M 45 8 → ((q_pl M t).length : Int) = M 55 t := by
  intro t
  induction t using Nat.strongRecOn with
  | ind t ih =>
    intro ht
    obtain ⟨-, -, -, -, -, -, h7⟩ := hT.2.2 t ht
    rw [q_pl_eq hT ht, List.length_cons, h7, ← q_fl_len (M 55) (q_kids M t) (fun y hy => ih y (q_kid_lt hT ht y hy) (by have := q_kid_lt hT ht y hy; omega))]
    omega
/-- a stack of terms is no longer than what they stand for -/
theorem q_st_len {M : g_M} (hT : q_T M) : ∀ (S : List Nat), (∀ y ∈ S, (y : Int) < M 45 8) → S.length ≤ (S.flatMap (q_pl M)).length := by
  intro S
  induction S with
  | nil => intro _; exact Nat.le_refl _
  | cons a S ih =>
    intro h
    have h1 := ih (fun y hy => h y (List.mem_cons_of_mem _ hy))
    rw [List.flatMap_cons, List.length_append, q_pl_eq hT (h a List.mem_cons_self), List.length_cons, List.length_cons]
    omega
theorem q_step {M : g_M} (hT : q_T M) {x : Nat} {S : List Nat} (hx : (x : Int) < M 45 8) : (x :: S).flatMap (q_pl M) = x :: (q_kids M x ++ S).flatMap (q_pl M) := by
  rw [List.flatMap_cons, q_pl_eq hT hx, List.flatMap_append, List.cons_append]
