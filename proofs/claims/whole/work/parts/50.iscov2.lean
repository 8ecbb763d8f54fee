theorem y_s_of {M : g_M} {f k c : Nat} {R : Nat → Int} (hk : k < 12) (hR : y_r M f R) (hf : M 56 c = f) (hnd : ¬ ∃ s : Nat, s < 12 ∧ y_W M c s ≠ -1 ∧ R s ≠ -1 ∧ R s ≠ y_W M c s) (hwk : y_W M c k ≠ -1) (hmin : ∀ s : Nat, s < k → y_W M c s = -1 ∨ R s ≠ -1) : y_s M f R k := by
  obtain ⟨h1, h2⟩ := y_W_1 hwk
  rw [hf, Int.toNat_natCast] at h1
  refine ⟨h1, fun h4 => ?_⟩
  obtain ⟨g1, g2⟩ := h2 h4
  have ho : R (k / 4 * 4) ≠ -1 := (hmin (k / 4 * 4) (by omega)).resolve_left g1
  have he : R (k / 4 * 4) = y_W M c (k / 4 * 4) := Classical.byContradiction fun h9 => hnd ⟨k / 4 * 4, by omega, g1, ho, h9⟩
  rcases hR (k / 4 * 4) (by omega) with h5 | ⟨-, h5⟩
  · exact absurd h5 ho
  · exact ⟨h5.1, by rw [he]; exact g2⟩
theorem c_Co_isCovered {M : g_M} (hP : r_P M) (hi : y_i M) {f nf : Nat} (hf : (f : Int) < M 45 4) (hnf : M 24 f = nf) (hW : ∀ r : Nat, r < nf → ∃ c : Nat, (c : Int) < M 45 13 ∧ M 56 c = f ∧ ∀ s : Nat, s < 12 → M 28 (12 * r + s) = y_W M c s) (hW2 : ∀ c : Nat, (c : Int) < M 45 13 → M 56 c = f → ∃ r : Nat, r < nf ∧ ∀ s : Nat, s < 12 → M 28 (12 * r + s) = y_W M c s) :
    ∀ (n lv d : Nat) (Mc : g_M), lv + n = 12 → e29 M Mc → y_r M f (Mc 29) → y_n (Mc 29) 12 ≤ n → ConR y_Co_isCovered w_Co_isCovered (g_rm (d + 2 * n + 4)) LX Mc [g_r 27, g_i (f : Int), g_i (lv : Int)] LX (fun M2 v2 => M2 = Mc ∧ ∃ r : Int, v2 = some (g_i r) ∧ (r = 0 ∨ r = 1) ∧ (r = 1 ↔ y_cov M f (Mc 29))) := by
  have hf6' := hP.2.1.2.2.2.1
  have hf6 : f < 6 := by omega
  have hnf6 : nf ≤ 6 := by
    have := (hP.2.2.2.2.2.2.2 f hf6).2.1
    omega
  have hc0 := hP.1.2.2.1
  have hc8 := hP.1.2.2.2.1
  obtain ⟨m, hm⟩ : ∃ m : Nat, M 45 0 = m := ⟨(M 45 0).toNat, by omega⟩
  have hm1 : M 1 4 = m := by rw [hP.1.1, hm]
  have hw3 : M 50 f ≤ 3 := (hP.2.1.2.2.2.2 f hf).2.2.2.1.2
  have hw2 : ∀ c : Nat, (c : Int) < M 45 0 → M 47 c ≤ 3 := fun c hc => (hP.1.2.2.2.2 c hc).2.2.2.1.2
  have h246 : ∀ q : Nat, q < m → M 2 q = M 46 q := fun q hq => (hP.1.2.2.2.2 q (by omega)).1
  -- differing, as the class sees it and as clauses do
  have hdf : ∀ (R : Nat → Int) (q c : Nat), (∀ s : Nat, s < 12 → M 28 (12 * q + s) = y_W M c s) → (y_df (fun s => M 28 (12 * q + s)) R ↔ ∃ s : Nat, s < 12 ∧ y_W M c s ≠ -1 ∧ R s ≠ -1 ∧ R s ≠ y_W M c s) := by
    intro R q c h
    constructor
    · rintro ⟨s, s1, s2, s3, s4⟩
      simp only at s2 s4
      rw [h s s1] at s2 s4
      exact ⟨s, s1, s2, s3, s4⟩
    · rintro ⟨s, s1, s2, s3, s4⟩
      refine ⟨s, s1, ?_, s3, ?_⟩
      · simp only
        rw [h s s1]
        exact s2
      · simp only
        rw [h s s1]
        exact s4
  intro n
  induction n with
  | zero =>
    intro lv d Mc hlv he hR hn
    have hno : ∀ k : Nat, k < 12 → Mc 29 k ≠ -1 := fun k hk h9 => by
      have := y_n_pos h9 12 hk
      omega
    refine (c_Co_isCovered_s (d + 2) M Mc f nf lv (y_cov M f (Mc 29)) he hf6 hnf hnf6 (fun k hk h9 => absurd h9 (hno k hk)) (fun k o hk ho h9 => absurd h9 (hno k hk))).mono (fun M2 v2 h => ?_)
    obtain ⟨e1, r, rfl, hr, h3⟩ := h
    refine ⟨e1, r, rfl, hr, ?_⟩
    rcases h3 with ⟨q, q1, q2, rfl⟩ | ⟨q1, rfl⟩ | h3
    · obtain ⟨c, c1, c2, c3⟩ := hW q q1
      exact ⟨fun _ => y_met c1 c2 (fun s hs => by rw [← c3 s hs]; exact q2 s hs), fun _ => rfl⟩
    · refine ⟨fun h9 => absurd h9 (by decide), fun h9 => absurd h9 (y_none hi hf hw3 hw2 hR (fun c c1 c2 => ?_))⟩
      obtain ⟨q, q2, q3⟩ := hW2 c c1 c2
      exact (hdf _ q c q3).mp (q1 q q2)
    · exact h3
  | succ n ih =>
    intro lv d Mc hlv he hR hn
    refine (c_Co_isCovered_s (d + 2 * n + 4) M Mc f nf lv (y_cov M f (Mc 29)) he hf6 hnf hnf6 (fun k hk h9 => by omega) (fun k o hk ho h9 hbits hopen => ?_)).mono (fun M2 v2 h => ?_)
    · obtain ⟨q, q1, q2, q3, q4⟩ := hopen
      obtain ⟨c, c1, c2, c3⟩ := hW q q1
      rw [hdf _ q c c3] at q2
      rw [c3 k hk] at q3
      have hys : y_s M f (Mc 29) k := y_s_of hk hR c2 q2 q3 (fun s hs => by rw [← c3 s (by omega)]; exact q4 s hs)
      obtain ⟨sp1, sp2⟩ := y_split hk hR h9 hys
      have hyC : ∀ q' : Nat, q' < m → M 2 q' = y_t M f (Mc 29) k → y_C M (q' : Int) (y_t M f (Mc 29) k) := fun q' h1 h2 => ⟨by omega, by omega, by rw [Int.toNat_natCast, ← h246 q' h1]; exact h2⟩
      refine (c_Co_isCoveredWhenSplit (d + 2 * n + 3) M Mc f k o lv m (y_t M f (Mc 29) k) (fun q' => y_cov M f (y_u (Mc 29) k (q' : Int))) he hk ho (by omega) hm1 (by omega) (c_Co_slotType (d + 2 * n + 3) hP he hk hf hys hR) (fun q' h1 h2 => ⟨q', rfl, h1, h2⟩) (fun z hz => ?_)).mono (fun M2 v2 h => ?_)
      · obtain ⟨q', rfl, h1, h2⟩ := hz
        have hcc := hyC q' h1 h2
        have hyn := y_n_u (z := (q' : Int)) h9 (by omega) 12 hk
        have h3 := ih (lv + 1) d (g_up Mc 29 k (q' : Int)) (by omega) (he.up k _) (by rw [y_u_29]; exact sp1 _ hcc) (by rw [y_u_29]; omega)
        rw [y_u_29] at h3
        exact h3
      · obtain ⟨e1, r, rfl, hr, h3⟩ := h
        refine ⟨e1, r, rfl, hr, ?_⟩
        rcases h3 with ⟨q', p1, p2, p3, p4⟩ | ⟨p1, p2⟩
        · rw [p4]
          refine ⟨fun h8 => y_un hi hk hw2 hR h9 hys (hyC q' p1 p2) (fun c' e2 e3 => ?_) h8, fun h8 => sp2.mp h8 _ (hyC q' p1 p2)⟩
          obtain ⟨r', r1, r2⟩ := hW2 c' e2 e3
          by_cases hd : y_df (fun s => M 28 (12 * r' + s)) (Mc 29)
          · exact Or.inl ((hdf _ r' c' r2).mp hd)
          · right
            intro h7
            exact p3 ⟨r', by omega, (hbits r' (by omega)).mpr ⟨r1, hd⟩, by rw [r2 k hk]; exact h7⟩
        · rw [p2, sp2]
          constructor
          · intro h8 x hx
            obtain ⟨x1, x2, x3⟩ := hx
            have h6 := h8 x.toNat (by omega) (by rw [h246 _ (by omega)]; exact x3)
            rwa [show ((x.toNat : Nat) : Int) = x by omega] at h6
          · intro h8 q' h1 h2
            exact h8 _ (hyC q' h1 h2)
    · obtain ⟨e1, r, rfl, hr, h3⟩ := h
      refine ⟨e1, r, rfl, hr, ?_⟩
      rcases h3 with ⟨q, q1, q2, rfl⟩ | ⟨q1, rfl⟩ | h3
      · obtain ⟨c, c1, c2, c3⟩ := hW q q1
        exact ⟨fun _ => y_met c1 c2 (fun s hs => by rw [← c3 s hs]; exact q2 s hs), fun _ => rfl⟩
      · refine ⟨fun h9 => absurd h9 (by decide), fun h9 => absurd h9 (y_none hi hf hw3 hw2 hR (fun c c1 c2 => ?_))⟩
        obtain ⟨q, q2, q3⟩ := hW2 c c1 c2
        exact (hdf _ q c q3).mp (q1 q q2)
      · exact h3
/-- the rows of a function's clauses -/
theorem s_cn_sur (M : g_M) (f : Int) : ∀ (m r : Nat), (r : Int) < s_cn M f m → ∃ c : Nat, c < m ∧ M 56 c = f ∧ s_cn M f c = r
  | 0, r, h => by simp [s_cn] at h; omega
  | m + 1, r, h => by
    rw [s_cn] at h
    by_cases hm : M 56 m = f
    · rw [if_pos hm] at h
      by_cases hr : (r : Int) < s_cn M f m
      · obtain ⟨c, c1, c2⟩ := s_cn_sur M f m r hr
        exact ⟨c, by omega, c2⟩
      · exact ⟨m, by omega, hm, by omega⟩
    · rw [if_neg hm] at h
      obtain ⟨c, c1, c2⟩ := s_cn_sur M f m r h
      exact ⟨c, by omega, c2⟩
theorem r_row {M : g_M} (hP : r_P M) {f : Nat} (hf6 : f < 6) {nf : Nat} (hnf : M 24 f = nf) : (∀ r : Nat, r < nf → ∃ c : Nat, (c : Int) < M 45 13 ∧ M 56 c = f ∧ M 23 (6 * f + r) = c) ∧ ∀ c : Nat, (c : Int) < M 45 13 → M 56 c = f → ∃ r : Nat, r < nf ∧ M 23 (6 * f + r) = c := by
  obtain ⟨l1, l2, l3, l4, l5⟩ := hP.2.2.2
  obtain ⟨m1, m2, m3⟩ := l5 f hf6
  refine ⟨fun r hr => ?_, fun c hc hcf => ?_⟩
  · obtain ⟨c, c1, c2, c3⟩ := s_cn_sur M f (M 45 13).toNat r (by rw [← m1, hnf]; omega)
    refine ⟨c, by omega, c2, ?_⟩
    have := m3 c (by omega) c2
    rwa [c3, Int.toNat_natCast] at this
  · have h0 := (s_cn_le M (f : Int) c).1
    have h1 := s_cn_mono M (f : Int) (c + 1) ((M 45 13).toNat - (c + 1))
    rw [show c + 1 + ((M 45 13).toNat - (c + 1)) = (M 45 13).toNat by omega, ← m1, hnf, ← s_cn_p hcf] at h1
    exact ⟨(s_cn M (f : Int) c).toNat, by omega, m3 c hc hcf⟩
