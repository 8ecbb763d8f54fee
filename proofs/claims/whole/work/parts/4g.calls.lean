/-- the calls in a preorder -/
def k_c (M : g_M) (t : Nat) : List Nat := (q_pl M t).filter (fun x => decide (16 ≤ M 52 x))
theorem k_c_eq {M : g_M} (hT : q_T M) {t : Nat} (ht : (t : Int) < M 45 8) : k_c M t = (if 16 ≤ M 52 t then [t] else []) ++ (q_kids M t).flatMap (k_c M) := by
  unfold k_c
  rw [q_pl_eq hT ht, List.filter_cons, List.filter_flatMap]
  by_cases h : 16 ≤ M 52 t
  · rw [if_pos h, if_pos (by simpa using h)]
    rfl
  · rw [if_neg h, if_neg (by simpa using h)]
    rfl
theorem q_call_f (hd : Nat → Int) : ∀ (l : List Nat) (k : Nat), q_call hd l k = match (l.filter (fun x => decide (16 ≤ hd x)))[k]? with
    | some x => (x : Int)
    | none => -1
  | [], k => by simp [q_call]
  | x :: l, k => by
    rw [q_call, List.filter_cons]
    by_cases h : 16 ≤ hd x
    · rw [if_pos h, if_pos (show decide (16 ≤ hd x) = true from decide_eq_true h)]
      match k with
      | 0 => rfl
      | k + 1 =>
        rw [if_neg (by omega), q_call_f hd l]
        rfl
    · rw [if_neg h, if_neg (show ¬ decide (16 ≤ hd x) = true from fun h9 => h (of_decide_eq_true h9)), q_call_f hd l]
/-- the class's row of calls -/
def e_c (M : g_M) (l : List Nat) : g_M := fun k b => if k = 31 ∧ b < l.length then ((l[b]?.getD 0 : Nat) : Int) else if k = 30 ∧ b = 4 then (l.length : Int) else M k b
theorem e_c_ne {M : g_M} {l : List Nat} {k : Nat} (h1 : k ≠ 31) (h2 : k ≠ 30) : e_c M l k = M k := by
  funext b
  unfold e_c
  rw [if_neg (fun h => h1 h.1), if_neg (fun h => h2 h.1)]
theorem e_c_n (M : g_M) (l : List Nat) : e_c M l 30 4 = l.length := by
  unfold e_c
  rw [if_neg (by omega), if_pos ⟨rfl, rfl⟩]
theorem e_c_0 (M : g_M) : g_up M 30 4 0 = e_c M [] := by
  funext k b
  unfold e_c g_up
  rw [if_neg (c := k = 31 ∧ b < ([] : List Nat).length) (fun h => by have := h.2; simp at this)]
  rfl
theorem e_c_p (M : g_M) (l : List Nat) (t : Nat) : g_up (g_up (e_c M l) 31 l.length (t : Int)) 30 4 ((l.length : Int) + 1) = e_c M (l ++ [t]) := by
  funext k b
  simp only [g_up, e_c, List.length_append, List.length_cons, List.length_nil]
  by_cases h30 : k = 30 ∧ b = 4
  · rw [if_pos h30, if_neg (by omega), if_pos h30]
    omega
  · rw [if_neg h30, if_neg h30, if_neg h30]
    by_cases h31 : k = 31 ∧ b = l.length
    · rw [if_pos h31, if_pos (by omega), h31.2]
      simp
    · rw [if_neg h31]
      by_cases h3 : k = 31 ∧ b < l.length
      · rw [if_pos h3, if_pos (by omega), List.getElem?_append_left h3.2]
      · rw [if_neg h3, if_neg (by omega)]
theorem e_c_fr {M : g_M} (l : List Nat) : r_fr M (e_c M l) := by
  refine ⟨fun k hk => e_c_ne (by omega) (by omega), ?_, ?_, fun y _ _ _ _ _ _ => ?_⟩
  · rw [e_c_ne (by decide) (by decide)]
  · rw [e_c_ne (by decide) (by decide)]
  · rw [e_c_ne (by decide) (by decide)]
/-- alike goes both ways -/
theorem q_w_hd {M : g_M} {x y : Nat} (h : M 52 x = M 52 y) : q_w M x = q_w M y := by
  unfold q_w
  rw [h]
theorem q_a_sym {M : g_M} (hT : q_T M) : ∀ (x y : Nat), (x : Int) < M 45 8 → (y : Int) < M 45 8 → q_a M x y = q_a M y x := by
  intro x
  induction x using Nat.strongRecOn with
  | ind x ih =>
    intro y hx hy
    rw [q_a_eq hT hx, q_a_eq hT hy]
    by_cases h : M 52 x = M 52 y
    · rw [decide_eq_true h, decide_eq_true h.symm, q_w_hd h]
      congr 1
      obtain ⟨-, -, a3, a4, a5, -, -⟩ := hT.2.2 x hx
      obtain ⟨-, -, b3, b4, b5, -, -⟩ := hT.2.2 y hy
      rw [q_w_hd h] at a5
      rw [Bool.eq_iff_iff, List.all_eq_true, List.all_eq_true]
      have key : ∀ k : Nat, k ∈ List.range (q_w M y).toNat → q_a M (M 53 (3 * x + k)).toNat (M 53 (3 * y + k)).toNat = q_a M (M 53 (3 * y + k)).toNat (M 53 (3 * x + k)).toNat := by
        intro k hk
        have hk' := List.mem_range.mp hk
        have h1 := a5 k (by omega)
        have h2 := b5 k (by omega)
        exact ih _ (by omega) _ (by omega) (by omega)
      exact ⟨fun h k hk => (key k hk) ▸ h k hk, fun h k hk => (key k hk).symm ▸ h k hk⟩
    · rw [decide_eq_false h, decide_eq_false (fun h9 => h h9.symm)]
      rfl
/-- strictly inside -/
def q_in (M : g_M) (p x : Nat) : Bool := ((q_kids M p).flatMap (q_pl M)).any (fun u => q_a M u x)
theorem q_in_eq {M : g_M} (hT : q_T M) {p : Nat} (hp : (p : Int) < M 45 8) (x : Nat) : q_in M p x = (List.range (q_w M p).toNat).any (fun k => q_a M (M 53 (3 * p + k)).toNat x || q_in M (M 53 (3 * p + k)).toNat x) := by
  have e : ∀ u ∈ q_kids M p, (q_pl M u).any (fun u => q_a M u x) = (q_a M u x || q_in M u x) := by
    intro u hu
    have := q_kid_lt hT hp u hu
    rw [q_pl_eq hT (by omega), List.any_cons]
    rfl
  have e2 : q_kids M p = (List.range (q_w M p).toNat).map (fun i => (M 53 (3 * p + i)).toNat) := by
    unfold q_kids q_ks
    rw [List.drop_zero]
  unfold q_in
  rw [List.any_flatMap, Bool.eq_iff_iff, List.any_eq_true, List.any_eq_true]
  constructor
  · rintro ⟨u, hu, h⟩
    rw [e u hu] at h
    rw [e2] at hu
    obtain ⟨i, hi, rfl⟩ := List.mem_map.mp hu
    exact ⟨i, hi, h⟩
  · rintro ⟨i, hi, h⟩
    have hu : (M 53 (3 * p + i)).toNat ∈ q_kids M p := by
      rw [e2]
      exact List.mem_map.mpr ⟨i, hi, rfl⟩
    refine ⟨_, hu, ?_⟩
    rw [e _ hu]
    exact h
