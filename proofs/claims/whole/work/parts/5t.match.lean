/-- a row of matches, one behind another -/
def u_fd (g : Nat → (Nat → u_F) → Bool × (Nat → u_F)) (n : Nat) (b : Nat → u_F) : Bool × (Nat → u_F) := (List.range n).foldl (fun r k => if r.1 = true then g k r.2 else r) (true, b)
theorem u_fd_0 (g : Nat → (Nat → u_F) → Bool × (Nat → u_F)) (b : Nat → u_F) : u_fd g 0 b = (true, b) := rfl
theorem u_fd_s (g : Nat → (Nat → u_F) → Bool × (Nat → u_F)) (n : Nat) (b : Nat → u_F) : u_fd g (n + 1) b = if (u_fd g n b).1 = true then g n (u_fd g n b).2 else u_fd g n b := by
  unfold u_fd
  rw [List.range_succ, List.foldl_append]
  rfl
theorem u_fd_y {g : Nat → (Nat → u_F) → Bool × (Nat → u_F)} {n : Nat} {b b1 : Nat → u_F} (h : u_fd g n b = (true, b1)) : u_fd g (n + 1) b = g n b1 := by rw [u_fd_s, h]; rfl
theorem u_fd_n {g : Nat → (Nat → u_F) → Bool × (Nat → u_F)} {n : Nat} {b b1 : Nat → u_F} (h : u_fd g n b = (false, b1)) : ∀ m, u_fd g (n + m) b = (false, b1)
  | 0 => h
  | m + 1 => by
    show u_fd g (n + m + 1) b = _
    rw [u_fd_s, u_fd_n h m]
    rfl
theorem u_fd_cg {g g' : Nat → (Nat → u_F) → Bool × (Nat → u_F)} (b : Nat → u_F) : ∀ n, (∀ k, k < n → ∀ b, g k b = g' k b) → u_fd g n b = u_fd g' n b
  | 0, _ => rfl
  | n + 1, h => by
    rw [u_fd_s, u_fd_s, u_fd_cg b n (fun k hk => h k (by omega)), h n (by omega)]
def u_m (M : g_M) (p : Nat) (t : u_F) (b : Nat → u_F) : Bool × (Nat → u_F) := u_mf M (p + 1) p t b
theorem u_mf_e (M : g_M) (f p : Nat) (t : u_F) (b : Nat → u_F) : u_mf M (f + 1) p t b = if M 52 p < 8 then (true, fun v => if v = (M 52 p).toNat then t else b v) else
    match t with
    | .tag c l => if M 52 p - 8 = (c : Int) then u_fd (fun k b => u_mf M f (M 53 (3 * p + k)).toNat (u_ch l k) b) (q_w M p).toNat b else (false, b)
    | _ => (false, b) := rfl
theorem u_mf_f {M : g_M} (hT : q_T M) : ∀ (p f : Nat), (p : Int) < M 45 8 → p < f → ∀ t b, u_mf M f p t b = u_m M p t b := by
  intro p
  induction p using Nat.strongRecOn with
  | ind p ih =>
    intro f hp hf t b
    obtain ⟨-, -, h3, h4, h5, -, -⟩ := hT.2.2 p hp
    match f with
    | 0 => omega
    | f + 1 =>
      unfold u_m
      rw [u_mf_e, u_mf_e]
      by_cases h8 : M 52 p < 8
      · rw [if_pos h8, if_pos h8]
      · rw [if_neg h8, if_neg h8]
        have key : ∀ l, u_fd (fun k b => u_mf M f (M 53 (3 * p + k)).toNat (u_ch l k) b) (q_w M p).toNat b = u_fd (fun k b => u_mf M p (M 53 (3 * p + k)).toNat (u_ch l k) b) (q_w M p).toNat b := by
          intro l
          refine u_fd_cg b _ (fun k hk b => ?_)
          have := h5 k (by omega)
          rw [ih _ (by omega) f (by omega) (by omega), ih _ (by omega) p (by omega) (by omega)]
        cases t with
        | tag c l => simp only [key]
        | _ => rfl
theorem u_m_v {M : g_M} {p : Nat} (h8 : M 52 p < 8) (t : u_F) (b : Nat → u_F) : u_m M p t b = (true, fun v => if v = (M 52 p).toNat then t else b v) := by
  unfold u_m
  rw [u_mf_e, if_pos h8]
theorem u_m_c {M : g_M} (hT : q_T M) {p : Nat} (hp : (p : Int) < M 45 8) (h8 : 8 ≤ M 52 p) (c : Nat) (l : u_F) (b : Nat → u_F) : u_m M p (.tag c l) b = if M 52 p - 8 = (c : Int) then u_fd (fun k b => u_m M (M 53 (3 * p + k)).toNat (u_ch l k) b) (q_w M p).toNat b else (false, b) := by
  obtain ⟨-, -, h3, h4, h5, -, -⟩ := hT.2.2 p hp
  unfold u_m
  rw [u_mf_e, if_neg (by omega)]
  have key : u_fd (fun k b => u_mf M p (M 53 (3 * p + k)).toNat (u_ch l k) b) (q_w M p).toNat b = u_fd (fun k b => u_mf M ((M 53 (3 * p + k)).toNat + 1) (M 53 (3 * p + k)).toNat (u_ch l k) b) (q_w M p).toNat b := by
    refine u_fd_cg b _ (fun k hk b => ?_)
    have := h5 k (by omega)
    exact u_mf_f hT _ p (by omega) (by omega) _ _
  simp only [key]
/-- what a frame's variables stand for -/
def u_b1 (M1 : g_M) (fr : Nat) (b : Nat → u_F) : Prop := ∀ (v c : Nat) (l : u_F), v < 8 → b v = .tag c l → ∃ x : Nat, M1 74 (8 * fr + v) = x ∧ u_rm M1 (b v) x
theorem u_b1_up {M1 : g_M} {fr : Nat} {b : Nat → u_F} (h : u_b1 M1 fr b) {v x : Nat} (hv : v < 8) {t : u_F} (ht : u_rm M1 t x) : u_b1 (g_up M1 74 (8 * fr + v) (x : Int)) fr (fun q => if q = v then t else b q) := by
  have hr : ∀ t y, u_rm M1 t y → u_rm (g_up M1 74 (8 * fr + v) (x : Int)) t y := fun t y hy => hy
  intro q c l hq hb
  by_cases hqv : q = v
  · subst hqv
    simp only [if_true] at hb ⊢
    exact ⟨x, by simp [g_up], hr t x ht⟩
  · simp only [if_neg hqv] at hb ⊢
    obtain ⟨y, h1, h2⟩ := h q c l hq hb
    refine ⟨y, ?_, hr _ y h2⟩
    simp only [g_up, true_and]
    rw [if_neg (by omega)]
    exact h1
/-- all but a frame's variables -/
def g74 (fr : Nat) (M M2 : g_M) : Prop := ∀ k b : Nat, ¬ (k = 74 ∧ 8 * fr ≤ b ∧ b < 8 * fr + 8) → M2 k b = M k b
theorem g74.rf (fr : Nat) (M : g_M) : g74 fr M M := fun _ _ _ => rfl
theorem g74.tr {fr : Nat} {M M1 M2 : g_M} (h : g74 fr M M1) (h2 : g74 fr M1 M2) : g74 fr M M2 := fun k b h3 => (h2 k b h3).trans (h k b h3)
theorem g74.up (fr : Nat) (M : g_M) {v : Nat} (hv : v < 8) (z : Int) : g74 fr M (g_up M 74 (8 * fr + v) z) := fun k b h => by simp only [g_up]; rw [if_neg (by omega)]
theorem g74.fn {fr : Nat} {M M1 : g_M} (h : g74 fr M M1) {k : Nat} (hk : k ≠ 74) : M1 k = M k := funext fun b => h k b (fun h9 => hk h9.1)
theorem g74.rm {fr : Nat} {M M1 : g_M} (h : g74 fr M M1) {t : u_F} {x : Nat} (hx : u_rm M t x) : u_rm M1 t x := by
  show u_rp (M1 68) (M1 70) _ (M1 47) _ t true x 0
  rw [h.fn (k := 47) (by decide), h.fn (k := 68) (by decide), h.fn (k := 69) (by decide), h.fn (k := 70) (by decide), h.fn (k := 45) (by decide)]
  exact hx
theorem u_b1_cg {M M1 : g_M} {fr : Nat} {b : Nat → u_F} (h74 : M1 74 = M 74) (hr : ∀ t x, u_rm M t x → u_rm M1 t x) (h : u_b1 M fr b) : u_b1 M1 fr b := by
  intro v c l h1 h2
  obtain ⟨x, h3, h4⟩ := h v c l h1 h2
  exact ⟨x, by rw [h74]; exact h3, hr _ x h4⟩
