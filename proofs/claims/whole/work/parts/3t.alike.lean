theorem q_al_eq {M : g_M} (hT : q_T M) : ∀ (f g x y : Nat), x < f → x < g → (x : Int) < M 45 8 → q_al M f x y = q_al M g x y := by
  intro f
  induction f with
  | zero => intro g x y h; omega
  | succ f ih =>
    intro g x y hf hg hx
    match g with
    | 0 => omega
    | g + 1 =>
      obtain ⟨-, -, h3, h4, h5, -, -⟩ := hT.2.2 x hx
      simp only [q_al]
      congr 1
      rw [Bool.eq_iff_iff, List.all_eq_true, List.all_eq_true]
      constructor
      · intro h k hk
        have hk' := List.mem_range.mp hk
        have := h5 k (by omega)
        rw [← ih g _ _ (by omega) (by omega) (by omega)]
        exact h k hk
      · intro h k hk
        have hk' := List.mem_range.mp hk
        have := h5 k (by omega)
        rw [ih g _ _ (by omega) (by omega) (by omega)]
        exact h k hk
/-- alike, at a fuel that is enough -/
def q_a (M : g_M) (x y : Nat) : Bool := q_al M (x + 1) x y
theorem q_a_eq {M : g_M} (hT : q_T M) {x : Nat} (hx : (x : Int) < M 45 8) (y : Nat) : q_a M x y = (decide (M 52 x = M 52 y) && (List.range (q_w M x).toNat).all (fun k => q_a M (M 53 (3 * x + k)).toNat (M 53 (3 * y + k)).toNat)) := by
  obtain ⟨-, -, h3, h4, h5, -, -⟩ := hT.2.2 x hx
  unfold q_a
  rw [q_al]
  congr 1
  rw [Bool.eq_iff_iff, List.all_eq_true, List.all_eq_true]
  constructor
  · intro h k hk
    have hk' := List.mem_range.mp hk
    have := h5 k (by omega)
    rw [q_al_eq hT _ x _ _ (by omega) (by omega) (by omega)]
    exact h k hk
  · intro h k hk
    have hk' := List.mem_range.mp hk
    have := h5 k (by omega)
    rw [q_al_eq hT x ((M 53 (3 * x + k)).toNat + 1) _ _ (by omega) (by omega) (by omega)]
    exact h k hk
/-- the parts of two terms, pairwise, the last of the first k on top -/
def q_ps (M : g_M) (x y : Nat) : Nat → List (Nat × Int)
  | 0 => []
  | k + 1 => ((M 53 (3 * x + k)).toNat, M 53 (3 * y + k)) :: q_ps M x y k
/-- what is pending of a stack of pairs -/
def q_m2 (M : g_M) (S : List (Nat × Int)) : Nat := (S.map (fun p => (q_pl M p.1).length)).sum
theorem q_ps_len (M : g_M) (x y : Nat) : ∀ k, (q_ps M x y k).length = k
  | 0 => rfl
  | k + 1 => by rw [q_ps, List.length_cons, q_ps_len M x y k]
theorem q_ps_all (M : g_M) (x y : Nat) (p : Nat → Int → Bool) : ∀ k, (q_ps M x y k).all (fun e => p e.1 e.2) = (List.range k).all (fun i => p (M 53 (3 * x + i)).toNat (M 53 (3 * y + i)))
  | 0 => rfl
  | k + 1 => by rw [q_ps, List.all_cons, q_ps_all M x y p k, List.range_succ, List.all_append, Bool.and_comm]; simp
theorem q_ps_m2 (M : g_M) (x y : Nat) : ∀ k, q_m2 M (q_ps M x y k) = ((List.range k).flatMap (fun i => q_pl M (M 53 (3 * x + i)).toNat)).length
  | 0 => rfl
  | k + 1 => by
    have := q_ps_m2 M x y k
    rw [q_ps, q_m2, List.map_cons, List.sum_cons, List.range_succ, List.flatMap_append, List.length_append, ← this]
    simp [q_m2]
    omega
theorem q_m2_app (M : g_M) (A B : List (Nat × Int)) : q_m2 M (A ++ B) = q_m2 M A + q_m2 M B := by
  simp [q_m2]
theorem q_ps_kids (M : g_M) (x y : Nat) : q_m2 M (q_ps M x y (q_w M x).toNat) = ((q_kids M x).flatMap (q_pl M)).length := by
  rw [q_ps_m2]
  unfold q_kids q_ks
  rw [List.drop_zero, List.flatMap_map]
