/-! the reference's memory tells a state of the machine -/
abbrev u_rm (M1 : g_M) : u_F → Nat → Prop := fun t x => u_rp (M1 68) (M1 70) (fun x i => M1 69 (3 * x + i)) (M1 47) (fun x => (x : Int) < M1 45 29) t true x 0
/-- the todo stack -/
def u_tk (M1 : g_M) (K : List (Int × Nat)) : Prop := M1 45 35 = K.length ∧ ∀ (i : Nat) (t : Int) (fr : Nat), K[i]? = some (t, fr) → M1 71 (K.length - 1 - i) = t ∧ M1 72 (K.length - 1 - i) = fr
/-- the values held -/
def u_hk (M1 : g_M) (H : List u_F) : Prop := M1 45 38 = H.length ∧ ∀ (i : Nat) (t : u_F), H[i]? = some t → ∃ x : Nat, M1 73 (H.length - 1 - i) = x ∧ u_rm M1 t x
/-- what variables stand for -/
def u_bk (M1 : g_M) (B : Nat → Nat → u_F) : Prop := ∀ fr v c : Nat, ∀ l : u_F, fr ≤ 200 → v < 8 → B fr v = .tag c l → ∃ x : Nat, M1 74 (8 * fr + v) = x ∧ u_rm M1 (B fr v) x
theorem u_tk_push {M1 : g_M} {K : List (Int × Nat)} (h : u_tk M1 K) (t : Int) (fr : Nat) : u_tk (g_up (g_up (g_up M1 71 K.length t) 72 K.length (fr : Int)) 45 35 ((K.length : Int) + 1)) ((t, fr) :: K) := by
  refine ⟨by simp [g_up], fun i t' fr' hi => ?_⟩
  match i with
  | 0 =>
    have e : t = t' ∧ fr = fr' := by simpa using hi
    obtain ⟨rfl, rfl⟩ := e
    simp [g_up]
  | i + 1 =>
    have hi' : K[i]? = some (t', fr') := by simpa using hi
    have hl := (List.getElem?_eq_some_iff.mp hi').1
    obtain ⟨h1, h2⟩ := h.2 i t' fr' hi'
    have e : ((t, fr) :: K).length - 1 - (i + 1) = K.length - 1 - i := by rw [List.length_cons]; omega
    have hne : ¬ K.length - 1 - i = K.length := by omega
    rw [e]
    simp [g_up, hne]
    exact ⟨h1, h2⟩
theorem u_tk_pop {M1 : g_M} {K : List (Int × Nat)} {t : Int} {fr : Nat} (h : u_tk M1 ((t, fr) :: K)) : M1 45 35 = (K.length : Int) + 1 ∧ M1 71 K.length = t ∧ M1 72 K.length = fr ∧ u_tk (g_up M1 45 35 (K.length : Int)) K := by
  obtain ⟨h1, h2⟩ := h
  obtain ⟨a, b⟩ := h2 0 t fr rfl
  have e0 : ((t, fr) :: K).length - 1 - 0 = K.length := by rw [List.length_cons]; omega
  rw [e0] at a b
  refine ⟨by rw [h1, List.length_cons]; omega, a, b, by simp [g_up], fun i t' fr' hi => ?_⟩
  have hl := (List.getElem?_eq_some_iff.mp hi).1
  have h3 := h2 (i + 1) t' fr' (by simpa using hi)
  have e : ((t, fr) :: K).length - 1 - (i + 1) = K.length - 1 - i := by rw [List.length_cons]; omega
  rw [e] at h3
  simp [g_up]
  exact h3
/-- a value more on the stack -/
theorem u_hk_push {M1 : g_M} {H : List u_F} (h : u_hk M1 H) {t : u_F} {x : Nat} (hx : u_rm M1 t x) : u_hk (g_up (g_up M1 73 H.length (x : Int)) 45 38 ((H.length : Int) + 1)) (t :: H) := by
  have hr : ∀ t' y, u_rm M1 t' y → u_rm (g_up (g_up M1 73 H.length (x : Int)) 45 38 ((H.length : Int) + 1)) t' y := fun t' y hy => hy
  refine ⟨by simp [g_up], fun i t' hi => ?_⟩
  match i with
  | 0 =>
    have e : t = t' := by simpa using hi
    subst e
    refine ⟨x, ?_, hr t x hx⟩
    simp [g_up]
  | i + 1 =>
    have hi' : H[i]? = some t' := by simpa using hi
    have hl := (List.getElem?_eq_some_iff.mp hi').1
    obtain ⟨y, h1, h2⟩ := h.2 i t' hi'
    have e : (t :: H).length - 1 - (i + 1) = H.length - 1 - i := by rw [List.length_cons]; omega
    have hne : ¬ H.length - 1 - i = H.length := by omega
    refine ⟨y, ?_, hr t' y h2⟩
    rw [e]
    simp [g_up, hne]
    exact h1
/-- values taken from the stack -/
theorem u_hk_drop {M1 : g_M} {H : List u_F} (h : u_hk M1 H) {n : Nat} (hn : n ≤ H.length) : u_hk (g_up M1 45 38 ((H.length : Int) - n)) (H.drop n) := by
  have hr : ∀ t' y, u_rm M1 t' y → u_rm (g_up M1 45 38 ((H.length : Int) - n)) t' y := fun t' y hy => hy
  refine ⟨by rw [List.length_drop]; simp [g_up]; omega, fun i t hi => ?_⟩
  rw [List.getElem?_drop] at hi
  have hl := (List.getElem?_eq_some_iff.mp hi).1
  obtain ⟨y, h1, h2⟩ := h.2 (n + i) t hi
  refine ⟨y, ?_, hr t y h2⟩
  rw [List.length_drop, show H.length - n - 1 - i = H.length - 1 - (n + i) by omega]
  simp [g_up]
  exact h1
/-- the arguments, in their order -/
theorem u_hk_at {M1 : g_M} {H : List u_F} (h : u_hk M1 H) {w k : Nat} (hw : w ≤ H.length) (hk : k < w) : ∃ (x : Nat) (t : u_F), H[w - 1 - k]? = some t ∧ M1 73 (H.length - w + k) = x ∧ u_rm M1 t x := by
  obtain ⟨t, ht⟩ : ∃ t, H[w - 1 - k]? = some t := ⟨_, List.getElem?_eq_getElem (by omega)⟩
  obtain ⟨x, h1, h2⟩ := h.2 _ t ht
  exact ⟨x, t, ht, by rw [show H.length - w + k = H.length - 1 - (w - 1 - k) by omega]; exact h1, h2⟩
/-- the memory behind a value more -/
theorem u_rm_mo {M1 M2 : g_M} (h29 : M1 45 29 ≤ M2 45 29) (h47 : M2 47 = M1 47) (h : ∀ x : Nat, (x : Int) < M1 45 29 → M2 68 x = M1 68 x ∧ M2 70 x = M1 70 x ∧ ∀ i, i < 3 → M2 69 (3 * x + i) = M1 69 (3 * x + i)) {t : u_F} {x : Nat} (hx : u_rm M1 t x) : u_rm M2 t x := by
  show u_rp _ _ _ (M2 47) _ t true x 0
  rw [h47]
  exact u_rp_mo (fun x hx => ⟨by omega, (h x hx).1, (h x hx).2.1, (h x hx).2.2⟩) t true x 0 (fun h9 => absurd h9 (by decide)) hx
