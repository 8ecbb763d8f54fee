/-- a constructor that no clause names at the slot -/
theorem y_un {M : g_M} (hi : y_i M) {f : Nat} {R : Nat → Int} {k : Nat} (hk : k < 12) (hw2 : ∀ c : Nat, (c : Int) < M 45 0 → M 47 c ≤ 3) (hR : y_r M f R) (h0 : R k = -1) (hs : y_s M f R k) {u : Int} (hu : y_C M u (y_t M f R k))
    (hn : ∀ c : Nat, (c : Int) < M 45 13 → M 56 c = f → (∃ s : Nat, s < 12 ∧ y_W M c s ≠ -1 ∧ R s ≠ -1 ∧ R s ≠ y_W M c s) ∨ y_W M c k ≠ u) (hcov : y_cov M f (y_u R k u)) : y_cov M f R := by
  have hg : ∃ g : Int → Int, ∀ T : Int, (∃ x, y_C M x T) → y_C M (g T) T := by
    refine Classical.axiomOfChoice (r := fun T x => (∃ y, y_C M y T) → y_C M x T) (fun T => ?_)
    by_cases h : ∃ y, y_C M y T
    · obtain ⟨y, hy⟩ := h
      exact ⟨y, fun _ => hy⟩
    · exact ⟨0, fun h9 => absurd h9 h⟩
  obtain ⟨g, hg⟩ := hg
  intro v hv hxv
  -- the same row with the slot's constructor, its parts anew where it is an outer one
  let v' : Nat → Int := fun s => if s = k then u else if k % 4 = 0 ∧ s / 4 = k / 4 then g (M 48 (3 * u.toNat + (s % 4 - 1))) else v s
  have hvk : v' k = u := if_pos rfl
  have hvo : ∀ s, s / 4 ≠ k / 4 → v' s = v s := by
    intro s h1
    show (if s = k then u else if k % 4 = 0 ∧ s / 4 = k / 4 then _ else v s) = v s
    rw [if_neg (fun h => h1 (by rw [h])), if_neg (fun h => h1 h.2)]
  have hvi : k % 4 ≠ 0 → ∀ s, s ≠ k → v' s = v s := by
    intro h1 s h2
    show (if s = k then u else if k % 4 = 0 ∧ s / 4 = k / 4 then _ else v s) = v s
    rw [if_neg h2, if_neg (fun h => h1 h.1)]
  have hvk0 : k % 4 ≠ 0 → v (k / 4 * 4) = R (k / 4 * 4) := by
    intro h4
    rcases hxv (k / 4 * 4) (by omega) with h5 | h5
    · have := (hs.2 h4).1
      rw [h5] at this
      exact absurd this (by decide)
    · exact h5
  have htyped : y_v M f v' := by
    intro i hiw
    obtain ⟨b1, b2⟩ := hv i hiw
    by_cases hik : i = k / 4
    · subst hik
      by_cases h4 : k % 4 = 0
      · have e : 4 * (k / 4) = k := by omega
        rw [e, hvk]
        unfold y_t at hu
        rw [if_pos h4] at hu
        refine ⟨hu, fun j hj => ?_⟩
        have hj3 := hw2 u.toNat (by have := hu.1; have := hu.2.1; omega)
        have e2 : v' (k + 1 + j) = g (M 48 (3 * u.toNat + j)) := by
          show (if k + 1 + j = k then u else if k % 4 = 0 ∧ (k + 1 + j) / 4 = k / 4 then g (M 48 (3 * u.toNat + ((k + 1 + j) % 4 - 1))) else v _) = _
          rw [if_neg (by omega), if_pos ⟨h4, by omega⟩, show (k + 1 + j) % 4 - 1 = j by omega]
        rw [e2]
        exact hg _ (hi.2 _ j (by have := hu.1; have := hu.2.1; omega) hj)
      · have e : v' (4 * (k / 4)) = v (4 * (k / 4)) := hvi h4 _ (by omega)
        rw [e]
        refine ⟨b1, fun j hj => ?_⟩
        by_cases hjk : 4 * (k / 4) + 1 + j = k
        · rw [hjk, hvk]
          unfold y_t at hu
          rw [if_neg h4, ← hvk0 h4, show k % 4 - 1 = j by omega, show k / 4 * 4 = 4 * (k / 4) by omega] at hu
          exact hu
        · rw [hvi h4 _ hjk]
          exact b2 j hj
    · have hj3 : ∀ j : Nat, (j : Int) < M 47 (v (4 * i)).toNat → j < 3 := fun j hj => by
        have := hw2 (v (4 * i)).toNat (by have := b1.1; have := b1.2.1; omega)
        omega
      rw [hvo (4 * i) (by omega)]
      refine ⟨b1, fun j hj => ?_⟩
      have := hj3 j hj
      rw [hvo (4 * i + 1 + j) (by omega)]
      exact b2 j hj
  have hRout : ∀ s : Nat, s < 12 → k % 4 = 0 → s / 4 = k / 4 → s ≠ k → R s = -1 := by
    intro s h1 h2 h3 h4
    rcases hR s h1 with h5 | ⟨⟨-, h5⟩, -⟩
    · exact h5
    · have h6 := (h5 (by omega)).1
      rw [show s / 4 * 4 = k by omega, h0] at h6
      exact absurd h6 (by decide)
  have hext : y_x (y_u R k u) v' := by
    intro s hs3
    by_cases hsk : s = k
    · subst hsk
      right
      rw [hvk]
      exact (if_pos rfl).symm
    · have e : y_u R k u s = R s := if_neg hsk
      rw [e]
      by_cases h4 : k % 4 = 0 ∧ s / 4 = k / 4
      · exact Or.inl (hRout s hs3 h4.1 h4.2 hsk)
      · have e2 : v' s = v s := by
          show (if s = k then u else if k % 4 = 0 ∧ s / 4 = k / 4 then _ else v s) = v s
          rw [if_neg hsk, if_neg h4]
        rw [e2]
        exact hxv s hs3
  obtain ⟨c, c1, c2, c3⟩ := hcov v' htyped hext
  have hck : y_W M c k = -1 := by
    rcases hn c c1 c2 with ⟨s, s1, s2, s3, s4⟩ | h1
    · exfalso
      have hsk : s ≠ k := fun h => s3 (h ▸ h0)
      rcases c3 s s1 with h5 | h5
      · exact s2 h5
      · rcases hext s s1 with h6 | h6
        · rw [show y_u R k u s = R s from if_neg hsk] at h6
          exact s3 h6
        · rw [show y_u R k u s = R s from if_neg hsk] at h6
          exact s4 (by rw [← h6, h5])
    · rcases c3 k hk with h5 | h5
      · exact h5
      · rw [hvk] at h5
        exact absurd h5.symm h1
  refine ⟨c, c1, c2, fun s hs3 => ?_⟩
  by_cases hsk : s = k
  · exact Or.inl (hsk ▸ hck)
  · by_cases h4 : k % 4 = 0 ∧ s / 4 = k / 4
    · left
      refine Classical.byContradiction fun h9 => ?_
      have h5 := (y_W_1 h9).2 (by omega)
      rw [show s / 4 * 4 = k by omega] at h5
      exact h5.1 hck
    · have e2 : v' s = v s := by
        show (if s = k then u else if k % 4 = 0 ∧ s / 4 = k / 4 then _ else v s) = v s
        rw [if_neg hsk, if_neg h4]
      rw [← e2]
      exact c3 s hs3
/-- inhabited types have constructors -/
theorem h_c_ex {ty wd pl : Nat → Int} {s : Nat → Bool} : ∀ (n x : Nat), h_c ty wd pl s n x = true → s x = true ∨ ∃ c, c < n ∧ (ty c).toNat = x
  | 0, x, h => Or.inl h
  | n + 1, x, h => by
    rw [h_c_s, Bool.or_eq_true, Bool.and_eq_true, decide_eq_true_iff] at h
    rcases h with h | h
    · rcases h_c_ex n x h with h1 | ⟨c, hc, h1⟩
      · exact Or.inl h1
      · exact Or.inr ⟨c, by omega, h1⟩
    · exact Or.inr ⟨n, by omega, h.1⟩
theorem h_r_ex {ty wd pl : Nat → Int} {n : Nat} : ∀ (r x : Nat), h_r ty wd pl n r x = true → ∃ c, c < n ∧ (ty c).toNat = x
  | 0, x, h => by simp [h_r] at h
  | r + 1, x, h => by
    rw [h_r] at h
    rcases h_c_ex n x h with h1 | h1
    · exact h_r_ex r x h1
    · exact h1
theorem h_u_in {ty wd pl : Nat → Int} : ∀ (n c i : Nat), c < n → (i : Int) < wd c → (pl (3 * c + i)).toNat ∈ h_u ty wd pl n
  | 0, c, i, h, _ => by omega
  | n + 1, c, i, h, hi => by
    rw [h_u]
    by_cases hcn : c = n
    · subst hcn
      refine List.mem_append_right _ (List.mem_cons_of_mem _ (List.mem_map.mpr ⟨i, List.mem_range.mpr (by omega), rfl⟩))
    · exact List.mem_append_left _ (h_u_in n c i (by omega) hi)
theorem y_i_of {M : g_M} (hP : r_P M) (h : h_inh M = true) : y_i M := by
  unfold h_inh at h
  rw [List.all_eq_true] at h
  have hc0 := hP.1.2.2.1
  have hf0 := hP.2.1.2.2.1
  have key : ∀ T : Int, 0 ≤ T → T.toNat ∈ h_u (M 46) (M 47) (M 48) (M 45 0).toNat ++ h_u (M 49) (M 50) (M 51) (M 45 4).toNat → ∃ x, y_C M x T := by
    intro T hT hm
    obtain ⟨c, hc, he⟩ := h_r_ex 3 _ (h _ hm)
    obtain ⟨-, a2, -⟩ := hP.1.2.2.2.2 c (by omega)
    exact ⟨c, by omega, by omega, by rw [Int.toNat_natCast]; omega⟩
  refine ⟨fun f i hf hiw => ?_, fun c i hc hiw => ?_⟩
  · have a5 := (hP.2.1.2.2.2.2 f hf).2.2.2.2 i hiw
    exact key _ a5.2.1 (List.mem_append_right _ (h_u_in _ f i (by omega) hiw))
  · have a5 := (hP.1.2.2.2.2 c hc).2.2.2.2 i hiw
    exact key _ a5.2.1 (List.mem_append_left _ (h_u_in _ c i (by omega) hiw))
