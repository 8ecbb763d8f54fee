/-! types of terms, as the reference looks them up (no variable gets a type here) -/
abbrev q_hy (M : g_M) (x : Nat) : Int := if M 52 x < 8 then M 65 (M 52 x).toNat else if M 52 x < 16 then M 46 (M 52 x - 8).toNat else M 49 (M 52 x - 16).toNat
abbrev q_py (M : g_M) (x k : Nat) : Int := if M 52 x < 16 then M 48 (3 * (M 52 x - 8).toNat + k) else M 51 (3 * (M 52 x - 16).toNat + k)
def q_tf (M : g_M) : Nat → Nat → Int → Bool
  | 0, _, _ => true
  | f + 1, x, y => decide (q_hy M x = y) && (List.range (q_w M x).toNat).all (fun k => q_tf M f (M 53 (3 * x + k)).toNat (q_py M x k))
theorem q_tf_eq {M : g_M} (hT : q_T M) : ∀ (f g x : Nat) (y : Int), x < f → x < g → (x : Int) < M 45 8 → q_tf M f x y = q_tf M g x y := by
  intro f
  induction f with
  | zero => intro g x y h; omega
  | succ f ih =>
    intro g x y hf hg hx
    match g with
    | 0 => omega
    | g + 1 =>
      obtain ⟨-, -, h3, h4, h5, -, -⟩ := hT.2.2 x hx
      simp only [q_tf]
      congr 1
      rw [Bool.eq_iff_iff, List.all_eq_true, List.all_eq_true]
      constructor
      · intro h k hk
        have hk' := List.mem_range.mp hk
        have := h5 k (by omega)
        rw [← ih g _ _ (by omega) (by omega) (by omega)]
        exact h k hk
      · intro h k hk
        have hk' := List.mem_range.mp hk
        have := h5 k (by omega)
        rw [ih g _ _ (by omega) (by omega) (by omega)]
        exact h k hk
def q_t (M : g_M) (x : Nat) (y : Int) : Bool := q_tf M (x + 1) x y
theorem q_t_eq {M : g_M} (hT : q_T M) {x : Nat} (hx : (x : Int) < M 45 8) (y : Int) : q_t M x y = (decide (q_hy M x = y) && (List.range (q_w M x).toNat).all (fun k => q_t M (M 53 (3 * x + k)).toNat (q_py M x k))) := by
  obtain ⟨-, -, h3, h4, h5, -, -⟩ := hT.2.2 x hx
  unfold q_t
  rw [q_tf]
  congr 1
  rw [Bool.eq_iff_iff, List.all_eq_true, List.all_eq_true]
  constructor
  · intro h k hk
    have hk' := List.mem_range.mp hk
    have := h5 k (by omega)
    rw [q_tf_eq hT _ x _ _ (by omega) (by omega) (by omega)]
    exact h k hk
  · intro h k hk
    have hk' := List.mem_range.mp hk
    have := h5 k (by omega)
    rw [q_tf_eq hT x ((M 53 (3 * x + k)).toNat + 1) _ _ (by omega) (by omega) (by omega)]
    exact h k hk
/-- the parts of a term with the types that are asked of them, the last of the first k on top -/
def q_pt2 (M : g_M) (x : Nat) : Nat → List (Nat × Int)
  | 0 => []
  | k + 1 => ((M 53 (3 * x + k)).toNat, q_py M x k) :: q_pt2 M x k
theorem q_pt2_len (M : g_M) (x : Nat) : ∀ k, (q_pt2 M x k).length = k
  | 0 => rfl
  | k + 1 => by rw [q_pt2, List.length_cons, q_pt2_len M x k]
theorem q_pt2_all (M : g_M) (x : Nat) (p : Nat → Int → Bool) : ∀ k, (q_pt2 M x k).all (fun e => p e.1 e.2) = (List.range k).all (fun i => p (M 53 (3 * x + i)).toNat (q_py M x i))
  | 0 => rfl
  | k + 1 => by rw [q_pt2, List.all_cons, q_pt2_all M x p k, List.range_succ, List.all_append, Bool.and_comm]; simp
theorem q_pt2_m2 (M : g_M) (x : Nat) : ∀ k, q_m2 M (q_pt2 M x k) = q_m2 M (q_ps M x 0 k)
  | 0 => rfl
  | k + 1 => by
    have := q_pt2_m2 M x k
    unfold q_m2 at *
    rw [q_pt2, q_ps, List.map_cons, List.map_cons, List.sum_cons, List.sum_cons, this]
theorem q_pt2_in {M : g_M} (hT : q_T M) {x : Nat} (hx : (x : Int) < M 45 8) : ∀ k, k ≤ (q_w M x).toNat → ∀ e ∈ q_pt2 M x k, (e.1 : Int) < M 45 8
  | 0, _, e, h => by simp [q_pt2] at h
  | k + 1, hk, e, h => by
    obtain ⟨-, -, h3, h4, h5, -, -⟩ := hT.2.2 x hx
    rw [q_pt2] at h
    rcases List.mem_cons.mp h with rfl | h
    · have a1 := h5 k (by omega)
      show (((M 53 (3 * x + k)).toNat : Nat) : Int) < _
      omega
    · exact q_pt2_in hT hx k (by omega) e h
theorem q_t_step {M : g_M} (hT : q_T M) {x : Nat} {y : Int} (hx : (x : Int) < M 45 8) (he : q_hy M x = y) (S : List (Nat × Int)) : (((x, y) :: S : List (Nat × Int)).all (fun e => q_t M e.1 e.2)) = (q_pt2 M x (q_w M x).toNat ++ S).all (fun e => q_t M e.1 e.2) := by
  rw [List.all_cons, List.all_append, q_pt2_all M x (fun a b => q_t M a b)]
  show (q_t M x y && _) = _
  rw [q_t_eq hT hx, decide_eq_true he, Bool.true_and]
