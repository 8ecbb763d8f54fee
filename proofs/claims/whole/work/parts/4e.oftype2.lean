/-- the reference's memory, with the class's types of variables -/
def z_V (M : g_M) : g_M := fun k => if k = 65 then M 26 else M k
theorem z_V_ne {M : g_M} {k : Nat} (h : k ≠ 65) : z_V M k = M k := if_neg h
theorem q_T_V {M : g_M} (h : q_T M) : q_T (z_V M) := q_T_cg (M := M) (fun k hk => z_V_ne (by omega)) rfl h
/-- the head of a term, as the class keeps it -/
theorem r_hd {M : g_M} (hP : r_P M) {t : Nat} (ht : (t : Int) < M 45 8) : (∃ v : Nat, v < 8 ∧ M 52 t = v ∧ M 10 t = 0 ∧ M 11 t = v ∧ M 12 t = 0) ∨
    (∃ h w : Nat, h < 8 ∧ (h : Int) < M 45 0 ∧ M 52 t = 8 + (h : Int) ∧ M 10 t = 1 ∧ M 11 t = h ∧ M 12 t = w ∧ w ≤ 3 ∧ M 47 h = w) ∨ (∃ h w : Nat, h < 6 ∧ (h : Int) < M 45 4 ∧ M 52 t = 16 + (h : Int) ∧ M 10 t = 2 ∧ M 11 t = h ∧ M 12 t = w ∧ w ≤ 3 ∧ M 50 h = w) := by
  obtain ⟨hC, hF, hT, -⟩ := hP
  obtain ⟨a1, a2, -⟩ := hT.2.2.1 t ht
  obtain ⟨b1, b2, b3, b4, -⟩ := hT.2.1.2.2 t ht
  have hc8 := hC.2.2.2.1
  have hf6 := hF.2.2.2.1
  rcases a1 with h | h | h
  · left
    refine ⟨(M 52 t).toNat, by omega, by omega, h.2.1, by rw [h.2.2.1]; omega, ?_⟩
    rw [a2]
    unfold q_w
    rw [if_pos h.1]
  · right; left
    have e : q_w M t = M 47 (M 52 t - 8).toNat := by
      unfold q_w
      rw [if_neg (by omega), if_pos h.2.2.1]
    refine ⟨(M 52 t - 8).toNat, (q_w M t).toNat, by omega, by omega, by omega, h.2.2.2.1, by rw [h.2.2.2.2.1]; omega, by rw [a2]; omega, by omega, ?_⟩
    rw [← e]
    omega
  · right; right
    have e : q_w M t = M 50 (M 52 t - 16).toNat := by
      unfold q_w
      rw [if_neg (by omega), if_neg (by omega)]
    refine ⟨(M 52 t - 16).toNat, (q_w M t).toNat, by omega, by omega, by omega, h.2.2.1, by rw [h.2.2.2.1]; omega, by rw [a2]; omega, by omega, ?_⟩
    rw [← e]
    omega
theorem r_w {M : g_M} (hP : r_P M) {t : Nat} (ht : (t : Int) < M 45 8) : q_w M t = M 12 t ∧ 0 ≤ q_w M t ∧ q_w M t ≤ 3 ∧ ∀ k : Nat, (k : Int) < q_w M t → M 13 (3 * t + k) = (((M 53 (3 * t + k)).toNat : Nat) : Int) ∧ (M 53 (3 * t + k)).toNat < t := by
  obtain ⟨-, a2, a3, -⟩ := hP.2.2.1.2.2.1 t ht
  obtain ⟨-, -, b3, b4, b5, -⟩ := hP.2.2.1.2.1.2.2 t ht
  refine ⟨a2.symm, b3, b4, fun k hk => ?_⟩
  have h1 := b5 k hk
  have h2 := (a3 k hk).1
  omega
theorem c_Ty_isOfType {M : g_M} (hP : r_P M) : ∀ (t d : Nat) (y : Int), (t : Int) < M 45 8 → Con y_Ty_isOfType w_Ty_isOfType (g_rm (d + t + 1)) LX M [g_r 25, g_i (t : Int), g_i y] LX M (some (g_i (if q_t (z_V M) t y = true then 1 else 0))) := by
  intro t
  induction t using Nat.strongRecOn with
  | ind t ih =>
    intro d y ht
    have hnt := hP.2.2.1.2.1.2.1
    have hTV := q_T_V hP.2.2.1.2.1
    obtain ⟨w1, w2, w3, w4⟩ := r_w hP ht
    have hq := q_t_eq hTV (x := t) ht y
    have ih0 : ∀ k : Nat, (k : Int) < q_w M t → ∀ y', Con y_Ty_isOfType w_Ty_isOfType (g_rm (d + t)) LX M [g_r 25, g_i (((M 53 (3 * t + k)).toNat : Nat) : Int), g_i y'] LX M (some (g_i (if q_t (z_V M) (M 53 (3 * t + k)).toNat y' = true then 1 else 0))) := by
      intro k hk y'
      have h1 := (w4 k hk).2
      have h2 := ih _ h1 (d + (t - (M 53 (3 * t + k)).toNat - 1)) y' (by omega)
      rw [show d + (t - (M 53 (3 * t + k)).toNat - 1) + (M 53 (3 * t + k)).toNat + 1 = d + t by omega] at h2
      exact h2
    have hqw : q_w (z_V M) t = q_w M t := rfl
    rcases r_hd hP ht with ⟨v, v1, v2, v3, v4, v5⟩ | ⟨h, w, v1, v2, v3, v4, v5, v6, v7, v8⟩ | ⟨h, w, v1, v2, v3, v4, v5, v6, v7, v8⟩
    · refine (c_Ty_isOfType_v (d + t) M t v y (by omega) v3 v4 v1).eqr ?_
      rw [hq, hqw, w1, v5]
      have e : q_hy (z_V M) t = M 26 v := by
        show (if M 52 t < 8 then M 26 (M 52 t).toNat else _) = _
        rw [if_pos (by omega), v2]
        rfl
      rw [e]
      simp
    · refine (c_Ty_isOfType_c (d + t) M t h w y (fun k => (M 53 (3 * t + k)).toNat) (fun k => q_t (z_V M) (M 53 (3 * t + k)).toNat (M 48 (3 * h + k))) (by omega) v4 v5 v1 v6 v7 (fun k hk => (w4 k (by omega)).1) (fun k hk => ?_)).eqr ?_
      · obtain ⟨-, -, -, -, c5⟩ := hP.1.2.2.2.2 h v2
        rw [(c5 k (by omega)).1]
        exact ih0 k (by omega) _
      · obtain ⟨c1, -⟩ := hP.1.2.2.2.2 h v2
        rw [hq, hqw, w1, v6, Int.toNat_natCast]
        have e : q_hy (z_V M) t = M 2 h := by
          show (if M 52 t < 8 then _ else if M 52 t < 16 then M 46 (M 52 t - 8).toNat else _) = _
          rw [if_neg (by omega), if_pos (by omega), c1, v3]
          congr 1
          omega
        have e2 : ∀ k : Nat, q_py (z_V M) t k = M 48 (3 * h + k) := by
          intro k
          show (if M 52 t < 16 then M 48 (3 * (M 52 t - 8).toNat + k) else _) = _
          rw [if_pos (by omega), v3]
          congr 2
          omega
        rw [e]
        simp only [e2, Bool.and_eq_true, decide_eq_true_iff]
        rfl
    · refine (c_Ty_isOfType_f (d + t) M t h w y (fun k => (M 53 (3 * t + k)).toNat) (fun k => q_t (z_V M) (M 53 (3 * t + k)).toNat (M 51 (3 * h + k))) (by omega) v4 v5 v1 v6 v7 (fun k hk => (w4 k (by omega)).1) (fun k hk => ?_)).eqr ?_
      · obtain ⟨-, -, -, -, c5⟩ := hP.2.1.2.2.2.2 h v2
        rw [(c5 k (by omega)).1]
        exact ih0 k (by omega) _
      · obtain ⟨c1, -⟩ := hP.2.1.2.2.2.2 h v2
        rw [hq, hqw, w1, v6, Int.toNat_natCast]
        have e : q_hy (z_V M) t = M 6 h := by
          show (if M 52 t < 8 then _ else if M 52 t < 16 then _ else M 49 (M 52 t - 16).toNat) = _
          rw [if_neg (by omega), if_neg (by omega), c1, v3]
          congr 1
          omega
        have e2 : ∀ k : Nat, q_py (z_V M) t k = M 51 (3 * h + k) := by
          intro k
          show (if M 52 t < 16 then _ else M 51 (3 * (M 52 t - 16).toNat + k)) = _
          rw [if_neg (by omega), v3]
          congr 2
          omega
        rw [e]
        simp only [e2, Bool.and_eq_true, decide_eq_true_iff]
        rfl
