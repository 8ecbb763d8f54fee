/-! types of variables: what is asked of them -/
def zv (M : g_M) (V : Nat → Int) : g_M := fun k => if k = 65 then V else M k
theorem zv_T {M : g_M} (h : q_T M) (V : Nat → Int) : q_T (zv M V) := q_T_cg (M := M) (fun k hk => if_neg (by omega)) rfl h
theorem zv_v {M : g_M} (hT : q_T M) {x : Nat} (hx : (x : Int) < M 45 8) (h8 : M 52 x < 8) (V : Nat → Int) (y : Int) : q_t (zv M V) x y = decide (V (M 52 x).toNat = y) := by
  have hw : q_w M x = 0 := by
    unfold q_w
    rw [if_pos h8]
  rw [q_t_eq (zv_T hT V) hx]
  have e : q_hy (zv M V) x = V (M 52 x).toNat := by
    show (if M 52 x < 8 then V (M 52 x).toNat else _) = _
    rw [if_pos h8]
  have e2 : q_w (zv M V) x = q_w M x := rfl
  rw [e, e2, hw]
  simp
theorem zv_n {M : g_M} (hT : q_T M) {x : Nat} (hx : (x : Int) < M 45 8) (h8 : 8 ≤ M 52 x) (V : Nat → Int) (y : Int) : q_t (zv M V) x y = true ↔ (if M 52 x < 16 then M 46 (M 52 x - 8).toNat else M 49 (M 52 x - 16).toNat) = y ∧ ∀ k : Nat, (k : Int) < q_w M x → q_t (zv M V) (M 53 (3 * x + k)).toNat (q_py M x k) = true := by
  obtain ⟨-, -, h3, h4, -⟩ := hT.2.2 x hx
  rw [q_t_eq (zv_T hT V) hx, Bool.and_eq_true, decide_eq_true_iff, List.all_eq_true]
  have e : q_hy (zv M V) x = if M 52 x < 16 then M 46 (M 52 x - 8).toNat else M 49 (M 52 x - 16).toNat := by
    have h9 : ¬ M 52 x < 8 := by omega
    show (if M 52 x < 8 then _ else _) = _
    rw [if_neg h9]
    rfl
  rw [e]
  refine and_congr Iff.rfl ⟨fun h k hk => h k (List.mem_range.mpr ?_), fun h k hk => h k ?_⟩
  · show k < (q_w M x).toNat
    omega
  · have : k < (q_w M x).toNat := List.mem_range.mp hk
    omega
theorem v_l_kid {M : g_M} (hT : q_T M) {x : Nat} (hx : (x : Int) < M 45 8) {k : Nat} (hk : (k : Int) < q_w M x) : ∀ v ∈ v_l M (M 53 (3 * x + k)).toNat, v ∈ v_l M x := by
  intro v hv
  have h8 : ¬ M 52 x < 8 := by
    intro h9
    unfold q_w at hk
    rw [if_pos h9] at hk
    omega
  unfold v_l
  rw [q_pl_eq hT hx, v_h_n h8, v_h_flat]
  refine List.mem_flatMap.mpr ⟨_, ?_, hv⟩
  rw [q_kids_map]
  exact List.mem_map.mpr ⟨k, List.mem_range.mpr (by omega), rfl⟩
theorem v_l_v {M : g_M} (hT : q_T M) {x : Nat} (hx : (x : Int) < M 45 8) (h8 : M 52 x < 8) : v_l M x = [(M 52 x).toNat] := by
  have hk : q_kids M x = [] := by
    rw [q_kids_map]
    unfold q_w
    rw [if_pos h8]
    rfl
  unfold v_l
  rw [q_pl_eq hT hx, hk, List.flatMap_nil, v_h_y h8]
  rfl
/-- what is asked of a term looks at its own variables alone -/
theorem zv_ag {M : g_M} (hT : q_T M) {V W : Nat → Int} : ∀ (x : Nat) (y : Int), (x : Int) < M 45 8 → (∀ v ∈ v_l M x, V v = W v) → q_t (zv M V) x y = q_t (zv M W) x y := by
  intro x
  induction x using Nat.strongRecOn with
  | ind x ih =>
    intro y hx hv
    by_cases h8 : M 52 x < 8
    · rw [zv_v hT hx h8, zv_v hT hx h8, hv _ (by rw [v_l_v hT hx h8]; exact List.mem_cons_self)]
    · obtain ⟨-, -, h3, h4, h5, -⟩ := hT.2.2 x hx
      rw [Bool.eq_iff_iff, zv_n hT hx (by omega), zv_n hT hx (by omega)]
      refine and_congr Iff.rfl (forall_congr' fun k => ?_)
      constructor
      · intro h hk
        have := h5 k hk
        rw [← ih _ (by omega) _ (by omega) (fun v hv2 => hv v (v_l_kid hT hx hk v hv2))]
        exact h hk
      · intro h hk
        have := h5 k hk
        rw [ih _ (by omega) _ (by omega) (fun v hv2 => hv v (v_l_kid hT hx hk v hv2))]
        exact h hk
/-- and it tells their types -/
theorem zv_un {M : g_M} (hT : q_T M) {V W : Nat → Int} : ∀ (x : Nat) (y : Int), (x : Int) < M 45 8 → q_t (zv M V) x y = true → q_t (zv M W) x y = true → ∀ v ∈ v_l M x, V v = W v := by
  intro x
  induction x using Nat.strongRecOn with
  | ind x ih =>
    intro y hx h1 h2 v hv
    by_cases h8 : M 52 x < 8
    · rw [zv_v hT hx h8, decide_eq_true_iff] at h1 h2
      rw [v_l_v hT hx h8] at hv
      rw [List.mem_singleton.mp hv, h1, h2]
    · obtain ⟨-, -, h3, h4, h5, -⟩ := hT.2.2 x hx
      rw [zv_n hT hx (by omega)] at h1 h2
      unfold v_l at hv
      rw [q_pl_eq hT hx, v_h_n h8, v_h_flat] at hv
      obtain ⟨u, hu, hv⟩ := List.mem_flatMap.mp hv
      rw [q_kids_map] at hu
      obtain ⟨k, hk, rfl⟩ := List.mem_map.mp hu
      have hk' := List.mem_range.mp hk
      have := h5 k (by omega)
      exact ih _ (by omega) _ (by omega) (h1.2 k (by omega)) (h2.2 k (by omega)) v hv
/-- a clause is typed -/
def z_tc (M : g_M) (c : Nat) : Prop := ∃ V : Nat → Int, (∀ k : Nat, (k : Int) < M 50 (M 56 c).toNat → q_t (zv M V) (M 57 (3 * c + k)).toNat (M 51 (3 * (M 56 c).toNat + k)) = true) ∧ q_t (zv M V) (M 58 c).toNat (M 49 (M 56 c).toNat) = true
theorem v_p_at {M : g_M} {p q r : Int} : ∀ (n k : Nat), k < n → ∀ v ∈ v_l M (j_pk p q r k).toNat, v ∈ v_p M p q r n
  | 0, k, h, _, _ => by omega
  | n + 1, k, h, v, hv => by
    rw [v_p]
    by_cases hk : k = n
    · subst hk
      exact List.mem_append_right _ hv
    · exact List.mem_append_left _ (v_p_at n k (by omega) v hv)
theorem v_p_dj {M : g_M} {p q r : Int} : ∀ n : Nat, (v_p M p q r n).Nodup → ∀ i k : Nat, i < k → k < n → ∀ v ∈ v_l M (j_pk p q r i).toNat, v ∉ v_l M (j_pk p q r k).toNat
  | 0, _, i, k, _, h, _, _ => by omega
  | n + 1, hn, i, k, hik, hk, v, hv => by
    rw [v_p] at hn
    obtain ⟨h1, h2, h3⟩ := List.nodup_append.mp hn
    by_cases hkn : k = n
    · subst hkn
      exact fun h9 => h3 v (v_p_at k i hik v hv) v h9 rfl
    · exact v_p_dj n h1 i k hik (by omega) v hv
theorem v_p_mem {M : g_M} {p q r : Int} : ∀ (n : Nat), ∀ v ∈ v_p M p q r n, ∃ k, k < n ∧ v ∈ v_l M (j_pk p q r k).toNat
  | 0, v, hv => by simp [v_p] at hv
  | n + 1, v, hv => by
    rw [v_p] at hv
    rcases List.mem_append.mp hv with h | h
    · obtain ⟨k, hk, h⟩ := v_p_mem n v h
      exact ⟨k, by omega, h⟩
    · exact ⟨n, by omega, h⟩
/-- the patterns that are looked through keep what they gave -/
theorem zt_keep {M : g_M} (hP : r_P M) {c : Nat} (hc : (c : Int) < M 45 13) {V W : Nat → Int} {k : Nat} (hk : (k : Int) < M 50 (M 56 c).toNat) (h1 : ∀ i : Nat, i < k → q_t (zv M V) (M 57 (3 * c + i)).toNat (M 51 (3 * (M 56 c).toNat + i)) = true)
    (h2 : ∀ v : Nat, v ∉ v_l M (M 57 (3 * c + k)).toNat → W v = V v) : ∀ i : Nat, i < k → q_t (zv M W) (M 57 (3 * c + i)).toNat (M 51 (3 * (M 56 c).toNat + i)) = true := by
  intro i hi
  obtain ⟨c1, c2, c3, c4, c5, c6, c7, c8, c9⟩ := hP.2.2.2.2.2.2.1 c hc
  have hw := (hP.2.1.2.2.2.2 (M 56 c).toNat (by omega)).2.2.2.1
  have hd := c7 i (by omega)
  rw [zv_ag hP.2.2.1.2.1 (V := W) (W := V) _ _ (by omega) (fun v hv => h2 v ?_)]
  · exact h1 i hi
  · have := v_p_dj _ c8 i k hi (by omega) v
    rw [j_pk_57 M c i (by omega), j_pk_57 M c k (by omega)] at this
    exact this hv
theorem zt_end {M : g_M} (hP : r_P M) {c : Nat} (hc : (c : Int) < M 45 13) {V : Nat → Int} (h1 : ∀ i : Nat, (i : Int) < M 50 (M 56 c).toNat → q_t (zv M V) (M 57 (3 * c + i)).toNat (M 51 (3 * (M 56 c).toNat + i)) = true) : q_t (zv M V) (M 58 c).toNat (M 49 (M 56 c).toNat) = true ↔ z_tc M c := by
  obtain ⟨c1, c2, c3, c4, c5, c6, c7, c8, c9⟩ := hP.2.2.2.2.2.2.1 c hc
  have hw := (hP.2.1.2.2.2.2 (M 56 c).toNat (by omega)).2.2.2.1
  constructor
  · intro h
    exact ⟨V, h1, h⟩
  · rintro ⟨W, h2, h3⟩
    rw [zv_ag hP.2.2.1.2.1 (V := V) (W := W) _ _ (by omega) (fun v hv => ?_)]
    · exact h3
    · obtain ⟨k, hk, hv2⟩ := v_p_mem _ v (c9 v hv)
      rw [j_pk_57 M c k (by omega)] at hv2
      have hd := c7 k (by omega)
      exact zv_un hP.2.2.1.2.1 _ _ (by omega) (h1 k (by omega)) (h2 k (by omega)) v hv2
theorem zt_no {M : g_M} {c k : Nat} (hk : (k : Int) < M 50 (M 56 c).toNat) (h : ∀ V : Nat → Int, ¬ q_t (zv M V) (M 57 (3 * c + k)).toNat (M 51 (3 * (M 56 c).toNat + k)) = true) : ¬ z_tc M c := fun ⟨V, h1, _⟩ => h V (h1 k hk)
