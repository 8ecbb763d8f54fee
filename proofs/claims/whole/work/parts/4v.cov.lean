/-! coverage: rows of slots, what clauses want, what covers -/
/-- the constructor that a pattern wants at a place: 0 the pattern itself, 1.. its parts -/
def y_w (M : g_M) (t j : Nat) : Int := if M 52 t < 8 then -1 else if j = 0 then M 52 t - 8 else if (j : Int) ≤ M 47 (M 52 t - 8).toNat then (if M 52 (M 53 (3 * t + (j - 1))).toNat < 8 then -1 else M 52 (M 53 (3 * t + (j - 1))).toNat - 8) else -1
def y_W (M : g_M) (c s : Nat) : Int := if ((s / 4 : Nat) : Int) < M 50 (M 56 c).toNat then y_w M (M 57 (3 * c + s / 4)).toNat (s % 4) else -1
/-- a constructor of a type -/
def y_C (M : g_M) (x T : Int) : Prop := 0 ≤ x ∧ x < M 45 0 ∧ M 46 x.toNat = T
/-- a row of values of a function -/
def y_v (M : g_M) (f : Nat) (v : Nat → Int) : Prop := ∀ i : Nat, (i : Int) < M 50 f → y_C M (v (4 * i)) (M 51 (3 * f + i)) ∧ ∀ j : Nat, (j : Int) < M 47 (v (4 * i)).toNat → y_C M (v (4 * i + 1 + j)) (M 48 (3 * (v (4 * i)).toNat + j))
/-- the type that stands at a slot -/
def y_t (M : g_M) (f : Nat) (R : Nat → Int) (s : Nat) : Int := if s % 4 = 0 then M 51 (3 * f + s / 4) else M 48 (3 * (R (s / 4 * 4)).toNat + (s % 4 - 1))
/-- the slot has a type in this row -/
def y_s (M : g_M) (f : Nat) (R : Nat → Int) (s : Nat) : Prop := ((s / 4 : Nat) : Int) < M 50 f ∧ (s % 4 ≠ 0 → 0 ≤ R (s / 4 * 4) ∧ ((s % 4 - 1 : Nat) : Int) < M 47 (R (s / 4 * 4)).toNat)
/-- a row that is partly filled -/
def y_r (M : g_M) (f : Nat) (R : Nat → Int) : Prop := ∀ s : Nat, s < 12 → R s = -1 ∨ (y_s M f R s ∧ y_C M (R s) (y_t M f R s))
/-- extends -/
def y_x (R v : Nat → Int) : Prop := ∀ s : Nat, s < 12 → R s = -1 ∨ v s = R s
/-- the clause matches the row of values -/
def y_m (M : g_M) (c : Nat) (v : Nat → Int) : Prop := ∀ s : Nat, s < 12 → y_W M c s = -1 ∨ v s = y_W M c s
def y_cov (M : g_M) (f : Nat) (R : Nat → Int) : Prop := ∀ v : Nat → Int, y_v M f v → y_x R v → ∃ c : Nat, (c : Int) < M 45 13 ∧ M 56 c = f ∧ y_m M c v
/-- what is known of wants -/
theorem y_w_1 {M : g_M} {t j : Nat} (h : y_w M t j ≠ -1) (hj : j ≠ 0) : y_w M t 0 ≠ -1 ∧ ((j - 1 : Nat) : Int) < M 47 (y_w M t 0).toNat := by
  unfold y_w at h
  by_cases h8 : M 52 t < 8
  · rw [if_pos h8] at h; exact absurd rfl h
  · rw [if_neg h8, if_neg hj] at h
    have e : y_w M t 0 = M 52 t - 8 := by
      unfold y_w
      rw [if_neg h8, if_pos rfl]
    rw [e]
    by_cases hp : (j : Int) ≤ M 47 (M 52 t - 8).toNat
    · exact ⟨by omega, by omega⟩
    · rw [if_neg hp] at h; exact absurd rfl h
theorem y_w_0 {M : g_M} {t : Nat} (h : y_w M t 0 = -1) (j : Nat) : y_w M t j = -1 := by
  unfold y_w at h ⊢
  by_cases h8 : M 52 t < 8
  · rw [if_pos h8]
  · rw [if_neg h8, if_pos rfl] at h
    omega
theorem y_W_1 {M : g_M} {c s : Nat} (h : y_W M c s ≠ -1) : ((s / 4 : Nat) : Int) < M 50 (M 56 c).toNat ∧ (s % 4 ≠ 0 → y_W M c (s / 4 * 4) ≠ -1 ∧ ((s % 4 - 1 : Nat) : Int) < M 47 (y_W M c (s / 4 * 4)).toNat) := by
  unfold y_W at h
  by_cases hs : ((s / 4 : Nat) : Int) < M 50 (M 56 c).toNat
  · rw [if_pos hs] at h
    refine ⟨hs, fun hj => ?_⟩
    have e : y_W M c (s / 4 * 4) = y_w M (M 57 (3 * c + s / 4)).toNat 0 := by
      unfold y_W
      rw [show s / 4 * 4 / 4 = s / 4 by omega, show s / 4 * 4 % 4 = 0 by omega, if_pos hs]
    rw [e]
    exact y_w_1 h hj
  · rw [if_neg hs] at h; exact absurd rfl h
/-- a clause whose wants are all met -/
theorem y_met {M : g_M} {f c : Nat} {R : Nat → Int} (hc : (c : Int) < M 45 13) (hf : M 56 c = f) (h : ∀ s : Nat, s < 12 → y_W M c s = -1 ∨ (R s ≠ -1 ∧ R s = y_W M c s)) : y_cov M f R := by
  intro v _ hx
  refine ⟨c, hc, hf, fun s hs => ?_⟩
  rcases h s hs with h1 | h1
  · exact Or.inl h1
  · rcases hx s hs with h2 | h2
    · exact absurd h2 h1.1
    · exact Or.inr (by rw [h2, h1.2])
/-- every type that is named has a constructor -/
def y_i (M : g_M) : Prop := (∀ f i : Nat, (f : Int) < M 45 4 → (i : Int) < M 50 f → ∃ x, y_C M x (M 51 (3 * f + i))) ∧ ∀ c i : Nat, (c : Int) < M 45 0 → (i : Int) < M 47 c → ∃ x, y_C M x (M 48 (3 * c + i))
/-- a row can be filled -/
theorem y_fill {M : g_M} (hi : y_i M) {f : Nat} (hf : (f : Int) < M 45 4) {R : Nat → Int} (hw : M 50 f ≤ 3) (hw2 : ∀ c : Nat, (c : Int) < M 45 0 → M 47 c ≤ 3) (hR : y_r M f R) : ∃ v, y_v M f v ∧ y_x R v := by
  have hg : ∃ g : Int → Int, ∀ T : Int, (∃ x, y_C M x T) → y_C M (g T) T := by
    refine Classical.axiomOfChoice (r := fun T x => (∃ y, y_C M y T) → y_C M x T) (fun T => ?_)
    by_cases h : ∃ y, y_C M y T
    · obtain ⟨y, hy⟩ := h
      exact ⟨y, fun _ => hy⟩
    · exact ⟨0, fun h9 => absurd h9 h⟩
  obtain ⟨g, hg⟩ := hg
  let o : Nat → Int := fun i => if R (4 * i) = -1 then g (M 51 (3 * f + i)) else R (4 * i)
  let v : Nat → Int := fun s => if s % 4 = 0 then o (s / 4) else if R s = -1 then g (M 48 (3 * (o (s / 4)).toNat + (s % 4 - 1))) else R s
  have hv0 : ∀ i, v (4 * i) = o i := by
    intro i
    show (if 4 * i % 4 = 0 then o (4 * i / 4) else _) = _
    rw [if_pos (by omega), show 4 * i / 4 = i by omega]
  have ho : ∀ i : Nat, (i : Int) < M 50 f → y_C M (o i) (M 51 (3 * f + i)) := by
    intro i hiw
    show y_C M (if R (4 * i) = -1 then _ else _) _
    by_cases h1 : R (4 * i) = -1
    · rw [if_pos h1]
      exact hg _ (hi.1 f i hf hiw)
    · rw [if_neg h1]
      rcases hR (4 * i) (by omega) with h2 | ⟨-, h2⟩
      · exact absurd h2 h1
      · unfold y_t at h2
        rwa [if_pos (by omega), show 4 * i / 4 = i by omega] at h2
  refine ⟨v, fun i hiw => ?_, fun s hs => ?_⟩
  · rw [hv0]
    refine ⟨ho i hiw, fun j hj => ?_⟩
    obtain ⟨o1, o2, o3⟩ := ho i hiw
    have hj3 := hw2 (o i).toNat (by omega)
    show y_C M (if (4 * i + 1 + j) % 4 = 0 then _ else _) _
    rw [if_neg (by omega), show (4 * i + 1 + j) / 4 = i by omega, show (4 * i + 1 + j) % 4 - 1 = j by omega]
    by_cases h1 : R (4 * i + 1 + j) = -1
    · rw [if_pos h1]
      exact hg _ (hi.2 _ j (by omega) hj)
    · rw [if_neg h1]
      rcases hR (4 * i + 1 + j) (by omega) with h2 | ⟨⟨-, h3⟩, h2⟩
      · exact absurd h2 h1
      · have h4 := h3 (by omega)
        rw [show (4 * i + 1 + j) / 4 * 4 = 4 * i by omega] at h4
        have ho2 : o i = R (4 * i) := by
          show (if R (4 * i) = -1 then _ else _) = _
          rw [if_neg (by omega)]
        unfold y_t at h2
        rw [if_neg (by omega), show (4 * i + 1 + j) / 4 * 4 = 4 * i by omega, show (4 * i + 1 + j) % 4 - 1 = j by omega, ← ho2] at h2
        exact h2
  · by_cases h1 : R s = -1
    · exact Or.inl h1
    · right
      show (if s % 4 = 0 then o (s / 4) else if R s = -1 then _ else R s) = R s
      by_cases h4 : s % 4 = 0
      · rw [if_pos h4]
        show (if R (4 * (s / 4)) = -1 then _ else R (4 * (s / 4))) = R s
        rw [show 4 * (s / 4) = s by omega, if_neg h1]
      · rw [if_neg h4, if_neg h1]
/-- every clause differs: not covered -/
theorem y_none {M : g_M} (hi : y_i M) {f : Nat} (hf : (f : Int) < M 45 4) {R : Nat → Int} (hw : M 50 f ≤ 3) (hw2 : ∀ c : Nat, (c : Int) < M 45 0 → M 47 c ≤ 3) (hR : y_r M f R) (h : ∀ c : Nat, (c : Int) < M 45 13 → M 56 c = f → ∃ s : Nat, s < 12 ∧ y_W M c s ≠ -1 ∧ R s ≠ -1 ∧ R s ≠ y_W M c s) : ¬ y_cov M f R := by
  intro hc
  obtain ⟨v, h1, h2⟩ := y_fill hi hf hw hw2 hR
  obtain ⟨c, c1, c2, c3⟩ := hc v h1 h2
  obtain ⟨s, s1, s2, s3, s4⟩ := h c c1 c2
  rcases c3 s s1 with h5 | h5
  · exact s2 h5
  · rcases h2 s s1 with h6 | h6
    · exact s3 h6
    · exact s4 (by rw [← h6, h5])
/-- a slot filled -/
def y_u (R : Nat → Int) (k : Nat) (x : Int) : Nat → Int := fun s => if s = k then x else R s
/-- splitting at a slot -/
theorem y_split {M : g_M} {f : Nat} {R : Nat → Int} {k : Nat} (hk : k < 12) (hR : y_r M f R) (h0 : R k = -1) (hs : y_s M f R k) : (∀ x : Int, y_C M x (y_t M f R k) → y_r M f (y_u R k x)) ∧ (y_cov M f R ↔ ∀ x : Int, y_C M x (y_t M f R k) → y_cov M f (y_u R k x)) := by
  have hout : ∀ (s : Nat), s / 4 * 4 = k → s ≠ k → s < 12 → R s = -1 := by
    intro s h1 h2 h3
    rcases hR s h3 with h4 | ⟨⟨-, h4⟩, -⟩
    · exact h4
    · have h5 := (h4 (by omega)).1
      rw [h1, h0] at h5
      exact absurd h5 (by decide)
  have hkk : k % 4 ≠ 0 → k / 4 * 4 ≠ k := by omega
  have e1 : ∀ x, (k % 4 ≠ 0 → y_u R k x (k / 4 * 4) = R (k / 4 * 4)) := by
    intro x h1
    unfold y_u
    rw [if_neg (hkk h1)]
  refine ⟨fun x hx s hs3 => ?_, fun h x hx v hv hxv => ?_, fun h v hv hxv => ?_⟩
  · by_cases hsk : s = k
    · subst hsk
      right
      refine ⟨⟨hs.1, fun h1 => ?_⟩, ?_⟩
      · rw [e1 x h1]; exact hs.2 h1
      · have e2 : y_u R s x s = x := if_pos rfl
        rw [e2]
        have e3 : y_t M f (y_u R s x) s = y_t M f R s := by
          unfold y_t
          by_cases h4 : s % 4 = 0
          · rw [if_pos h4, if_pos h4]
          · rw [if_neg h4, if_neg h4, e1 x h4]
        rw [e3]
        exact hx
    · have e2 : y_u R k x s = R s := if_neg hsk
      rw [e2]
      rcases hR s hs3 with h4 | ⟨⟨a1, a2⟩, a3⟩
      · exact Or.inl h4
      · right
        have hne : s % 4 ≠ 0 → s / 4 * 4 ≠ k := fun h5 h6 => by
          have := (a2 h5).1
          rw [h6, h0] at this
          exact absurd this (by decide)
        have e3 : s % 4 ≠ 0 → y_u R k x (s / 4 * 4) = R (s / 4 * 4) := fun h5 => if_neg (hne h5)
        refine ⟨⟨a1, fun h5 => by rw [e3 h5]; exact a2 h5⟩, ?_⟩
        have e4 : y_t M f (y_u R k x) s = y_t M f R s := by
          unfold y_t
          by_cases h5 : s % 4 = 0
          · rw [if_pos h5, if_pos h5]
          · rw [if_neg h5, if_neg h5, e3 h5]
        rw [e4]
        exact a3
  · refine h v hv (fun s hs3 => ?_)
    by_cases hsk : s = k
    · exact Or.inl (hsk ▸ h0)
    · rcases hxv s hs3 with h1 | h1
      · left
        rwa [show y_u R k x s = R s from if_neg hsk] at h1
      · right
        rwa [show y_u R k x s = R s from if_neg hsk] at h1
  · have hvk : y_C M (v k) (y_t M f R k) := by
      obtain ⟨b1, b2⟩ := hv (k / 4) hs.1
      by_cases h4 : k % 4 = 0
      · unfold y_t
        rw [if_pos h4]
        rwa [show 4 * (k / 4) = k by omega] at b1
      · obtain ⟨a1, a2⟩ := hs.2 h4
        have hvo : v (k / 4 * 4) = R (k / 4 * 4) := by
          rcases hxv (k / 4 * 4) (by omega) with h5 | h5
          · rw [h5] at a1; exact absurd a1 (by decide)
          · exact h5
        unfold y_t
        rw [if_neg h4, ← hvo]
        have b3 := b2 (k % 4 - 1) (by rw [show 4 * (k / 4) = k / 4 * 4 by omega, hvo]; exact a2)
        rwa [show 4 * (k / 4) + 1 + (k % 4 - 1) = k by omega, show 4 * (k / 4) = k / 4 * 4 by omega] at b3
    refine h (v k) hvk v hv (fun s hs3 => ?_)
    by_cases hsk : s = k
    · subst hsk
      exact Or.inr (show v s = y_u R s (v s) s from (if_pos rfl).symm)
    · rcases hxv s hs3 with h1 | h1
      · left
        rw [show y_u R k (v k) s = R s from if_neg hsk]
        exact h1
      · right
        rw [show y_u R k (v k) s = R s from if_neg hsk]
        exact h1
