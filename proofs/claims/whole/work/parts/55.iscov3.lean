theorem y_r_ag {M : g_M} {f : Nat} {R R' : Nat → Int} (h : ∀ s : Nat, s < 12 → R s = R' s) (hR : y_r M f R) : y_r M f R' := by
  intro s hs
  have e : R (s / 4 * 4) = R' (s / 4 * 4) := h _ (by omega)
  have h1 := hR s hs
  unfold y_s y_t at h1 ⊢
  rw [e, h s hs] at h1
  exact h1
theorem y_n_ag {R R' : Nat → Int} : ∀ i : Nat, (∀ s : Nat, s < i → R s = R' s) → y_n R i = y_n R' i
  | 0, _ => rfl
  | i + 1, h => by rw [y_n, y_n, y_n_ag i (fun s hs => h s (by omega)), h i (by omega)]
/-- the reference's stack of rows, its top first -/
def y_S (M : g_M) : List (Nat → Int) → Prop
  | [] => True
  | R :: S => (∀ q : Nat, q < 12 → M 67 (12 * S.length + q) = R q) ∧ y_S M S
/-- it never grows too high -/
def y_K : List (Nat → Int) → Prop
  | [] => True
  | R :: S => S.length ≤ 7 * (12 - y_n R 12) ∧ y_K S
def y_Z : List (Nat → Int) → Nat
  | [] => 0
  | R :: S => 9 ^ (y_n R 12) + y_Z S
theorem y_S_ag {M M2 : g_M} : ∀ S : List (Nat → Int), (∀ b : Nat, b < 12 * S.length → M2 67 b = M 67 b) → y_S M S → y_S M2 S
  | [], _, _ => trivial
  | R :: S, h, hS => by
    rw [List.length_cons] at h
    exact ⟨fun q hq => by rw [h _ (by omega)]; exact hS.1 q hq, y_S_ag S (fun b hb => h b (by omega)) hS.2⟩
theorem y_S_push {M : g_M} : ∀ (A S : List (Nat → Int)), y_S M S → (∀ (j : Nat) (R : Nat → Int), A[j]? = some R → ∀ q : Nat, q < 12 → M 67 (12 * (S.length + j) + q) = R q) → y_S M (A.reverse ++ S)
  | [], S, h, _ => h
  | a :: A, S, h, hA => by
    rw [List.reverse_cons, List.append_assoc]
    refine y_S_push A (a :: S) ⟨fun q hq => hA 0 a rfl q hq, h⟩ (fun j R hj q hq => ?_)
    have := hA (j + 1) R (by simpa using hj) q hq
    rwa [show (a :: S).length + j = S.length + (j + 1) by rw [List.length_cons]; omega]
theorem y_K_push {n : Nat} : ∀ (A S : List (Nat → Int)), y_K S → (∀ a ∈ A, y_n a 12 = n) → S.length + A.length ≤ 7 * (12 - n) + 1 → y_K (A.reverse ++ S)
  | [], S, h, _, _ => h
  | a :: A, S, h, hA, hl => by
    rw [List.reverse_cons, List.append_assoc]
    rw [List.length_cons] at hl
    refine y_K_push A (a :: S) ⟨by rw [hA a List.mem_cons_self]; omega, h⟩ (fun x hx => hA x (List.mem_cons_of_mem _ hx)) (by rw [List.length_cons]; omega)
theorem y_Z_app {n : Nat} : ∀ (A S : List (Nat → Int)), (∀ a ∈ A, y_n a 12 = n) → y_Z (A.reverse ++ S) = A.length * 9 ^ n + y_Z S
  | [], S, _ => by simp
  | a :: A, S, hA => by
    rw [List.reverse_cons, List.append_assoc]
    have h1 := y_Z_app A (a :: S) (fun x hx => hA x (List.mem_cons_of_mem _ hx))
    show y_Z (A.reverse ++ (a :: S)) = _
    rw [h1, y_Z, hA a List.mem_cons_self, List.length_cons, Nat.succ_mul]
    omega
theorem y_Z_pos (R : Nat → Int) (S : List (Nat → Int)) : y_Z S < y_Z (R :: S) := by
  rw [y_Z]
  have : 0 < 9 ^ (y_n R 12) := Nat.pos_of_ne_zero (by simp)
  omega
theorem y_W_ge (M : g_M) (c s : Nat) : y_W M c s = -1 ∨ 0 ≤ y_W M c s := by
  unfold y_W y_w
  split
  · split
    · exact Or.inl rfl
    · split
      · right; omega
      · split
        · split
          · exact Or.inl rfl
          · right; omega
        · exact Or.inl rfl
  · exact Or.inl rfl
theorem y_r_ge {M : g_M} {f : Nat} {R : Nat → Int} (h : y_r M f R) {s : Nat} (hs : s < 12) : R s = -1 ∨ 0 ≤ R s := (h s hs).imp id (fun h9 => h9.2.1)
/-- what the clauses before c say of a row -/
def y_A (M : g_M) (f : Nat) (R : Nat → Int) (c : Nat) (a : Int) : Prop := (a = -1 ∧ ∃ q : Nat, q < c ∧ M 56 q = f ∧ ∀ s : Nat, s < 12 → y_W M q s < 0 ∨ (0 ≤ R s ∧ y_W M q s = R s)) ∨ (∃ k : Nat, k < 12 ∧ a = k ∧ ∃ q : Nat, q < c ∧ M 56 q = f ∧ (∀ s : Nat, s < 12 → y_W M q s < 0 ∨ R s < 0 ∨ y_W M q s = R s) ∧ 0 ≤ y_W M q k ∧ R k < 0 ∧ ∀ s : Nat, s < k → y_W M q s < 0 ∨ 0 ≤ R s) ∨ (a = -2 ∧ ∀ q : Nat, q < c → M 56 q = f → ∃ s : Nat, s < 12 ∧ 0 ≤ y_W M q s ∧ 0 ≤ R s ∧ y_W M q s ≠ R s)
theorem y_A_k {M : g_M} {f : Nat} {R : Nat → Int} {c : Nat} {a : Int} (h : y_A M f R c a) (ha : a ≠ -2) : y_A M f R (c + 1) a := by
  rcases h with ⟨h1, q, q1, q2⟩ | ⟨k, k1, k2, q, q1, q2⟩ | h
  · exact Or.inl ⟨h1, q, by omega, q2⟩
  · exact Or.inr (Or.inl ⟨k, k1, k2, q, by omega, q2⟩)
  · exact absurd h.1 ha
theorem y_A_n {M : g_M} {f : Nat} {R : Nat → Int} {c : Nat} {a : Int} (h : y_A M f R c a) (hc : M 56 c ≠ f) : y_A M f R (c + 1) a := by
  by_cases ha : a = -2
  · rcases h with ⟨h1, -⟩ | ⟨k, k1, k2, -⟩ | h
    · omega
    · omega
    · refine Or.inr (Or.inr ⟨ha, fun q hq hqf => ?_⟩)
      by_cases hqc : q = c
      · subst hqc; exact absurd hqf hc
      · exact h.2 q (by omega) hqf
  · exact y_A_k h ha
theorem y_A_1 {M : g_M} {f : Nat} {R : Nat → Int} {c : Nat} {x : Int} (hc : M 56 c = f) (h : y_st (y_W M c) R 0 x) (hx : x = -1) : y_A M f R (c + 1) (-1) := by
  refine Or.inl ⟨rfl, c, by omega, hc, fun s hs => ?_⟩
  rcases h.2 with ⟨-, h2⟩ | ⟨k, -, -, k3, -⟩
  · rcases h.1 s (by omega) hs with g | g | g
    · exact Or.inl g
    · rcases h2 s (by omega) hs with g2 | g2
      · exact Or.inl g2
      · omega
    · rcases h2 s (by omega) hs with g2 | g2
      · exact Or.inl g2
      · exact Or.inr ⟨g2, g⟩
  · omega
theorem y_A_h {M : g_M} {f : Nat} {R : Nat → Int} {c : Nat} {a x : Int} (h : y_A M f R c a) (ha : a < 0) (ha1 : a ≠ -1) (hc : M 56 c = f) (hx : (x = -2 ∧ ∃ s : Nat, s < 12 ∧ 0 ≤ y_W M c s ∧ 0 ≤ R s ∧ y_W M c s ≠ R s) ∨ y_st (y_W M c) R 0 x) (hx1 : x ≠ -1) : y_A M f R (c + 1) x := by
  have h2 : a = -2 ∧ ∀ q : Nat, q < c → M 56 q = f → ∃ s : Nat, s < 12 ∧ 0 ≤ y_W M q s ∧ 0 ≤ R s ∧ y_W M q s ≠ R s := by
    clear hx
    rcases h with ⟨h1, -⟩ | ⟨k, k1, k2, -⟩ | h
    · exact absurd h1 ha1
    · omega
    · exact h
  rcases hx with ⟨h3, h4⟩ | h3
  · refine Or.inr (Or.inr ⟨h3, fun q hq hqf => ?_⟩)
    by_cases hqc : q = c
    · subst hqc; exact h4
    · exact h2.2 q (by omega) hqf
  · rcases h3.2 with ⟨h4, -⟩ | ⟨k, k1, k2, k3, k4, k5, k6⟩
    · exact absurd h4 hx1
    · exact Or.inr (Or.inl ⟨k, k2, k3, c, by omega, hc, fun s hs => h3.1 s (by omega) hs, k4, k5, fun s hs => k6 s (by omega) hs⟩)
theorem c_Mo_typeAt (d : Nat) {M M1 : g_M} (hP : r_P M) (he : e67 M M1) {f r k : Nat} (hr : r < 99) (hk : k < 12) (hf : (f : Int) < M 45 4) (hy : y_s M f (fun q => M1 67 (12 * r + q)) k) (hR : y_r M f (fun q => M1 67 (12 * r + q))) : Con y_Mo_typeAt w_Mo_typeAt (g_rm d) LX M1 [g_r 45, g_i (f : Int), g_i (r : Int), g_i (k : Int)] LX M1 (some (g_i (y_t M f (fun q => M1 67 (12 * r + q)) k))) := by
  have hf6 := hP.2.1.2.2.2.1
  have hc8 := hP.1.2.2.2.1
  unfold y_t
  by_cases h4 : k % 4 = 0
  · rw [if_pos h4]
    exact c_Mo_typeAt_o d M M1 f r k he (by omega) hr hk h4
  · rw [if_neg h4]
    obtain ⟨h1, h2⟩ := hy.2 h4
    have hlt : M1 67 (12 * r + k / 4 * 4) < M 45 0 := by
      rcases hR (k / 4 * 4) (by omega) with h5 | ⟨-, h5⟩
      · rw [h5] at h1; exact absurd h1 (by decide)
      · exact h5.2.1
    obtain ⟨q, hq⟩ : ∃ q : Nat, M1 67 (12 * r + k / 4 * 4) = q := ⟨(M1 67 (12 * r + k / 4 * 4)).toNat, by have : 0 ≤ M1 67 (12 * r + k / 4 * 4) := h1; omega⟩
    show Con _ _ _ _ _ _ _ _ (some (g_i (M 48 (3 * (M1 67 (12 * r + k / 4 * 4)).toNat + (k % 4 - 1)))))
    rw [hq, Int.toNat_natCast]
    exact c_Mo_typeAt_i d M M1 f r k q he hr hk hq (by omega) h4
theorem c_Mo_stands_a (d : Nat) {M M1 : g_M} (hP : r_P M) (he : e67 M M1) {c r : Nat} (hr : r < 99) (hc : (c : Int) < M 45 13) : ConR y_Mo_stands w_Mo_stands (g_rm (d + 1)) LX M1 [g_r 45, g_i (c : Int), g_i (r : Int)] LX (fun M2 v2 => M2 = M1 ∧ ∃ x : Int, v2 = some (g_i x) ∧ ((x = -2 ∧ ∃ s : Nat, s < 12 ∧ 0 ≤ y_W M c s ∧ 0 ≤ (fun q => M1 67 (12 * r + q)) s ∧ y_W M c s ≠ (fun q => M1 67 (12 * r + q)) s) ∨ y_st (y_W M c) (fun q => M1 67 (12 * r + q)) 0 x)) := by
  obtain ⟨f, w, b, c24, hf56, hf6, hfn, hf20, hw50, hw7, hw3, hbb, hb22, hbt, h49, hpat⟩ := r_cn hP hc
  have hT := hP.2.2.1.2.1
  have hnt := hT.2.1
  refine c_Mo_stands d M M1 c r f w he c24 hr hf56 hf6 hw50 hw3 (fun i hi => ?_) (fun p i j hi hj hp => ?_)
  · obtain ⟨p, hp1, -, hpt, -⟩ := hpat i hi
    exact ⟨p, hp1, by omega⟩
  · obtain ⟨p9, hp1, -, hpt, -, -, hp16, -⟩ := hpat i hi
    have ep : p9 = p := by omega
    subst ep
    have hpl := q_pl_eq hT hpt
    obtain ⟨t1, t2, t3, t4, t5, -⟩ := hT.2.2 p9 hpt
    have h16 := hp16 p9 (by rw [hpl]; exact List.mem_cons_self)
    have hqw : 8 ≤ M 52 p9 → q_w M p9 = M 47 (M 52 p9 - 8).toNat := by
      intro h8
      unfold q_w
      rw [if_neg (by omega), if_pos h16]
    refine c_Mo_wants (d + 0) M M1 p9 j he (by omega) hj t1 h16 (fun h8 => by rw [← hqw h8]; exact t4) (fun h8 i hi => ?_)
    rw [← hqw h8] at hi
    have h9 := t5 i hi
    obtain ⟨u1, u2, -⟩ := hT.2.2 (M 53 (3 * p9 + i)).toNat (by omega)
    exact ⟨(M 53 (3 * p9 + i)).toNat, by omega, by omega, u1, u2⟩
theorem c_Mo_isCovered (d : Nat) (M : g_M) (M0 : g_M) (f mm nc : Nat) (hP : r_P M) (hi : y_i M) (he : e67 M M0) (hfn : (f : Int) < M 45 4) (hmm : M 45 13 = mm) (hnc : M 45 0 = nc) : ConR y_Mo_isCovered w_Mo_isCovered (g_rm (d + 3)) LX M0 [g_r 45, g_i (f : Int)] LX (fun M2 v2 => ∃ r : Int, v2 = some (g_i r) ∧ (r = 0 ∨ r = 1) ∧ e67 M M2 ∧ (r = 1 ↔ y_cov M f y_e)) := by
  refine con_ofR (av := [g_r 45, g_i (f : Int)]) (ls0 := [some (g_r 45), some (g_i (f : Int)), none, none, none, none, none]) (by decide) rfl (Nat.le_of_ble_eq_true rfl) (g_hls (av := [g_r 45, g_i (f : Int)]) (k := 5)) (fun _ h9 => List.mem_cons_of_mem _ h9) ?_
  have hmm24 : mm ≤ 24 := by have := hP.2.2.2.2.2.1; omega
  have hnc8 : nc ≤ 8 := by have := hP.1.2.2.2.1; omega
  have hw3 : M 50 f ≤ 3 := (hP.2.1.2.2.2.2 f hfn).2.2.2.1.2
  have hw2 : ∀ c : Nat, (c : Int) < M 45 0 → M 47 c ≤ 3 := fun c hc => (hP.1.2.2.2.2 c hc).2.2.2.1.2
  refine ev_iconst d_Mo_isCovered_0 rfl ⟨by decide, by decide⟩ ?_
  refine ev_istore_n (i := 2) d_Mo_isCovered_1 rfl rfl (by decide) rfl ?_
  refine ev_wh (fun n ls1 M1 => ∃ q : Nat, q ≤ 12 ∧ n = 12 - q ∧ ls1 = [some (g_r 45), some (g_i (f : Int)), some (g_i (q : Int)), none, none, none, none] ∧ e67 M M1 ∧ ∀ j : Nat, j < q → M1 67 j = -1) ?_ (n := 12) (⟨0, Nat.zero_le _, rfl, rfl, he, fun j hj => by omega⟩)
  intro n ls1 M1 hP0 ih
  obtain ⟨q, hq, hn, rfl, he1, h11⟩ := hP0
  refine ev_iload_n (i := 2) d_Mo_isCovered_2 rfl rfl rfl ?_
  refine ev_bipush d_Mo_isCovered_3 rfl (by decide +kernel) ⟨by decide, by decide⟩ ?_
  refine ev_icmp_ge (tgt := 21) d_Mo_isCovered_5 (by decide) rfl (fun hz0 => ?_) (fun hz0 => ?_)
  · refine ev_iconst d_Mo_isCovered_21 rfl ⟨by decide, by decide⟩ ?_
    refine ev_istore_n (i := 2) d_Mo_isCovered_22 rfl rfl (by decide) rfl ?_
    refine ev_wh (fun n2 ls2 M2 => ∃ S : List (Nat → Int), ls2 = [some (g_r 45), some (g_i (f : Int)), some (g_i (S.length : Int)), none, none, none, none] ∧ e67 M M2 ∧ y_S M2 S ∧ (∀ R ∈ S, y_r M f R) ∧ y_K S ∧ n2 = y_Z S ∧ (y_cov M f y_e ↔ ∀ R ∈ S, y_cov M f R)) ?_ (n := _) (⟨[y_e], rfl, he1, ⟨fun q9 hq9 => by show M1 67 (12 * 0 + q9) = -1; rw [show 12 * 0 + q9 = q9 by omega]; exact h11 q9 (by omega), trivial⟩, fun R hR => by rw [List.mem_singleton.mp hR]; exact fun s _ => Or.inl rfl, ⟨Nat.zero_le _, trivial⟩, rfl, by simp⟩)
    clear ih
    intro n2 ls2 M2 hP2 ih2
    obtain ⟨S0, rfl, he2, hS, hrr, hK, hn2, hcv⟩ := hP2
    refine ev_iload_n (i := 2) d_Mo_isCovered_23 rfl rfl rfl ?_
    refine ev_if_le (tgt := 137) d_Mo_isCovered_24 (by decide) rfl (fun hz => ?_) (fun hz => ?_)
    · refine ev_iconst d_Mo_isCovered_137 rfl ⟨by decide, by decide⟩ ?_
      exact ev_retIR d_Mo_isCovered_138 (⟨1, rfl, Or.inr rfl, he2, ⟨fun _ => hcv.mpr (by have e9 : S0 = [] := List.length_eq_zero_iff.mp (by omega); rw [e9]; intro R hR; simp at hR), fun _ => rfl⟩⟩) (Or.inr ⟨rfl, by omega⟩)
    · obtain ⟨R, S, hS0⟩ : ∃ R S, S0 = R :: S := by cases S0 with | nil => simp at hz | cons R S => exact ⟨R, S, rfl⟩
      rw [hS0] at hS hrr hK hn2 hcv
      have hSl : (S0.length : Int) = (S.length : Int) + 1 := by rw [hS0, List.length_cons]; omega
      have hK1 := hK.1
      obtain ⟨Rm, hRm⟩ : ∃ Rm : Nat → Int, Rm = (fun q => M2 67 (12 * S.length + q)) := ⟨_, rfl⟩
      have hRag : ∀ s : Nat, s < 12 → Rm s = R s := fun s hs => by rw [hRm]; exact hS.1 s hs
      have hRr : y_r M f Rm := y_r_ag (fun s hs => (hRag s hs).symm) (hrr R List.mem_cons_self)
      refine ev_iload_n (i := 2) d_Mo_isCovered_27 rfl rfl rfl ?_
      refine ev_iconst d_Mo_isCovered_28 rfl ⟨by decide, by decide⟩ ?_
      refine ev_isub (z := (S.length : Int)) d_Mo_isCovered_29 rfl (by rw [g_w_id (by unfold g_rg; omega)]; omega) ?_
      refine ev_istore_n (i := 3) d_Mo_isCovered_30 rfl rfl (by decide) rfl ?_
      refine ev_bipush d_Mo_isCovered_31 rfl (by decide +kernel) ⟨by decide, by decide⟩ ?_
      refine ev_istore (i := 4) d_Mo_isCovered_33 rfl (by decide) rfl ?_
      refine ev_iconst d_Mo_isCovered_35 rfl ⟨by decide, by decide⟩ ?_
      refine ev_istore (i := 5) d_Mo_isCovered_36 rfl (by decide) rfl ?_
      refine ev_wl (fun n3 ls3 => ∃ (c : Nat) (a : Int), c ≤ mm ∧ n3 = mm - c ∧ ls3 = [some (g_r 45), some (g_i (f : Int)), some (g_i (S0.length : Int)), some (g_i (S.length : Int)), some (g_i a), some (g_i (c : Int)), none] ∧ y_A M f Rm c a) ?_ (n := mm) (⟨0, -2, Nat.zero_le _, rfl, rfl, Or.inr (Or.inr ⟨rfl, fun q hq => by omega⟩)⟩)
      intro n3 ls3 hP3 ih3
      obtain ⟨c, a, hc, hn3, rfl, hA⟩ := hP3
      refine ev_iload (i := 5) d_Mo_isCovered_38 rfl rfl ?_
      refine ev_aload_n (i := 0) d_Mo_isCovered_40 rfl rfl rfl ?_
      refine ev_getI (z := (mm : Int)) d_Mo_isCovered_41 rfl lk_Mo_166 lx_45 rfl ((he2 45 13 (by decide)).trans hmm) ?_
      refine ev_icmp_ge (tgt := 108) d_Mo_isCovered_44 (by decide) rfl (fun hz3 => ?_) (fun hz3 => ?_)
      · refine ev_iload (i := 4) d_Mo_isCovered_108 rfl rfl ?_
        refine ev_bipush d_Mo_isCovered_110 rfl (by decide +kernel) ⟨by decide, by decide⟩ ?_
        refine ev_icmp_ne (tgt := 117) d_Mo_isCovered_112 (by decide) rfl (fun c5 => ?_) (fun c5 => ?_)
        · refine ev_iinc (z := (S.length : Int)) d_Mo_isCovered_117 rfl rfl (by decide) (by rw [g_w_id (by unfold g_rg; omega)]; omega) rfl ?_
          refine ev_iload (i := 4) d_Mo_isCovered_120 rfl rfl ?_
          refine ev_if_lt (tgt := 134) d_Mo_isCovered_122 (by decide) rfl (fun c6 => ?_) (fun c6 => ?_)
          · refine ev_goto (tgt := 23) d_Mo_isCovered_134 (by decide) ?_
            refine ev_le (ih2 (y_Z S) [some (g_r 45), some (g_i (f : Int)), some (g_i ((S).length : Int)), none, none, none, none] M2 (by rw [hn2]; exact y_Z_pos R S) ⟨S, rfl, he2, hS.2, fun R9 hR9 => hrr R9 (List.mem_cons_of_mem _ hR9), hK.2, rfl, ?_⟩) rfl ⟨rfl, rfl, rfl, trivial⟩
            rw [hcv]
            have hco : y_cov M f R := by
              rcases hA with ⟨-, q, q1, q2, q3⟩ | ⟨k, k1, k2, -⟩ | h9
              · rw [← y_cov_ag hRag]
                refine y_met (c := q) (by omega) q2 (fun s hs => ?_)
                have g1 := y_W_ge M q s
                have g3 := q3 s hs
                rcases g3 with g3 | g3
                · left; omega
                · right
                  exact ⟨by have := g3.1; omega, g3.2.symm⟩
              · omega
              · omega
            exact ⟨fun h R9 hR9 => h R9 (List.mem_cons_of_mem _ hR9), fun h R9 hR9 => (List.mem_cons.mp hR9).elim (fun e => e ▸ hco) (fun hm => h R9 hm)⟩
          · obtain ⟨k, hk12, hak, q9, q1, q2, q3, q4, q5, q6⟩ : ∃ k : Nat, k < 12 ∧ a = k ∧ ∃ q : Nat, q < c ∧ M 56 q = f ∧ (∀ s : Nat, s < 12 → y_W M q s < 0 ∨ Rm s < 0 ∨ y_W M q s = Rm s) ∧ 0 ≤ y_W M q k ∧ Rm k < 0 ∧ ∀ s : Nat, s < k → y_W M q s < 0 ∨ 0 ≤ Rm s := by
              rcases hA with h9 | h9 | h9
              · omega
              · exact h9
              · omega
            have hRk : Rm k = -1 := (y_r_ge hRr hk12).resolve_right (fun h9 => by omega)
            have hys : y_s M f Rm k := y_s_of hk12 hRr q2 (fun ⟨s, s1, s2, s3, s4⟩ => by
              rcases q3 s s1 with g | g | g
              · exact absurd ((y_W_ge M q9 s).resolve_left s2) (by omega)
              · exact absurd ((y_r_ge hRr s1).resolve_left s3) (by omega)
              · exact s4 g.symm) (by omega) (fun s hs => (q6 s hs).imp (fun g => (y_W_ge M q9 s).resolve_right (by omega)) (fun g g2 => by rw [g2] at g; exact absurd g (by decide)))
            obtain ⟨sp1, sp2⟩ := y_split hk12 hRr hRk hys
            have hyn := y_n_pos hRk 12 hk12
            have hyn2 : y_n Rm 12 = y_n R 12 := y_n_ag 12 hRag
            refine ev_aload_n (i := 0) d_Mo_isCovered_125 rfl rfl rfl ?_
            refine ev_iload_n (i := 1) d_Mo_isCovered_126 rfl rfl rfl ?_
            refine ev_iload_n (i := 3) d_Mo_isCovered_127 rfl rfl rfl ?_
            refine ev_iload (i := 4) d_Mo_isCovered_128 rfl rfl ?_
            refine ev_callVR (As := [g_i (f : Int), g_i (S.length : Int), g_i a]) d_Mo_isCovered_130 rfl cl_Mo_180 (by rw [hak]; exact c_Mo_splitAt (d + 1) M M2 f S.length k nc (y_t M f Rm k) he2 (by omega) hk12 hnc hnc8 (by rw [hRm]; exact c_Mo_typeAt (d + 1) hP he2 (by omega) hk12 hfn (by rw [← hRm]; exact hys) (by rw [← hRm]; exact hRr))) (g_hR (by decide)) g_h0 lx_45 rfl rfl (Nat.le_of_ble_eq_true rfl) rfl rfl (fun M4 v9 g9 => ?_)
            obtain ⟨x4, rfl, he4, hx4, h41, h42⟩ := g9
            rw [← hRm] at h42
            obtain ⟨Ls, hLs⟩ : ∃ Ls, Ls = y_l M (y_t M f Rm k) nc := ⟨_, rfl⟩
            rw [← hLs] at hx4 h42
            obtain ⟨SA, hSA⟩ : ∃ SA : List (Nat → Int), SA = (Ls.map (fun x : Nat => y_u Rm k (x : Int))).reverse ++ S := ⟨_, rfl⟩
            have hLl : Ls.length ≤ 8 := by rw [hLs]; have := y_l_len M (y_t M f Rm k) nc; omega
            have hSAl : SA.length = S.length + Ls.length := by rw [hSA, List.length_append, List.length_reverse, List.length_map]; omega
            have hLm : ∀ x, x ∈ Ls ↔ x < nc ∧ M 46 x = y_t M f Rm k := fun x => by rw [hLs]; unfold y_l; rw [List.mem_filter, List.mem_range, decide_eq_true_iff]
            have hLC : ∀ x, x ∈ Ls → y_C M (x : Int) (y_t M f Rm k) := fun x hx => ⟨by omega, by have := ((hLm x).mp hx).1; omega, by rw [Int.toNat_natCast]; exact ((hLm x).mp hx).2⟩
            have hAn : ∀ a9 ∈ Ls.map (fun x : Nat => y_u Rm k (x : Int)), y_n a9 12 = y_n R 12 - 1 := fun a9 ha9 => by
              obtain ⟨x, hx, rfl⟩ := List.mem_map.mp ha9
              have := y_n_u (z := (x : Int)) hRk (by omega) 12 hk12
              omega
            have hS4 : y_S M4 SA := by
              rw [hSA]
              refine y_S_push _ S (y_S_ag S h41 hS.2) (fun j R9 hj q9 hq9 => ?_)
              rw [List.getElem?_map] at hj
              match hjx : Ls[j]? with
              | none => rw [hjx] at hj; simp at hj
              | some x =>
                rw [hjx] at hj
                have e9 : y_u Rm k (x : Int) = R9 := by simpa using hj
                rw [← e9]
                exact h42 j x hjx q9 hq9
            have hr4 : ∀ R9 ∈ SA, y_r M f R9 := fun R9 hR9 => by
              rw [hSA] at hR9
              rcases List.mem_append.mp hR9 with h9 | h9
              · obtain ⟨x, hx, rfl⟩ := List.mem_map.mp (List.mem_reverse.mp h9)
                exact sp1 _ (hLC x hx)
              · exact hrr R9 (List.mem_cons_of_mem _ h9)
            have hK4 : y_K SA := by
              rw [hSA]
              have hy12 := y_n_12 R 12
              exact y_K_push _ S hK.2 hAn (by rw [List.length_map]; omega)
            have hZ4 : y_Z SA < y_Z (R :: S) := by
              rw [hSA, y_Z_app _ S hAn, List.length_map, y_Z]
              obtain ⟨n9, hn9⟩ : ∃ n9, y_n R 12 = n9 + 1 := ⟨y_n R 12 - 1, by omega⟩
              rw [hn9, Nat.add_sub_cancel, Nat.pow_succ]
              have h0 : 0 < 9 ^ n9 := Nat.pos_of_ne_zero (by simp)
              have h1 : Ls.length * 9 ^ n9 ≤ 8 * 9 ^ n9 := Nat.mul_le_mul_right _ hLl
              omega
            have hcv4 : y_cov M f y_e ↔ ∀ R9 ∈ SA, y_cov M f R9 := by
              rw [hcv, hSA]
              have hsp : y_cov M f R ↔ ∀ x ∈ Ls, y_cov M f (y_u Rm k (x : Int)) := by
                rw [← y_cov_ag hRag, sp2]
                refine ⟨fun h x hx => h _ (hLC x hx), fun h x hx => ?_⟩
                obtain ⟨x1, x2, x3⟩ := hx
                have h9 := h x.toNat ((hLm _).mpr ⟨by omega, x3⟩)
                rwa [show ((x.toNat : Nat) : Int) = x by omega] at h9
              constructor
              · intro h R9 hR9
                rcases List.mem_append.mp hR9 with h9 | h9
                · obtain ⟨x, hx, rfl⟩ := List.mem_map.mp (List.mem_reverse.mp h9)
                  exact hsp.mp (h R List.mem_cons_self) x hx
                · exact h R9 (List.mem_cons_of_mem _ h9)
              · intro h R9 hR9
                rcases List.mem_cons.mp hR9 with e9 | h9
                · rw [e9]
                  exact hsp.mpr (fun x hx => h _ (List.mem_append_left _ (List.mem_reverse.mpr (List.mem_map.mpr ⟨x, hx, rfl⟩))))
                · exact h R9 (List.mem_append_right _ h9)
            refine ev_istore_n (i := 2) d_Mo_isCovered_133 rfl rfl (by decide) rfl ?_
            refine ev_goto (tgt := 23) d_Mo_isCovered_134 (by decide) ?_
            refine ev_le (ih2 _ [some (g_r 45), some (g_i (f : Int)), some (g_i ((SA).length : Int)), none, none, none, none] M4 ?_ ⟨SA, rfl, he4, hS4, hr4, hK4, rfl, hcv4⟩) rfl ⟨rfl, rfl, congrArg (fun z => some (some (g_i z))) (by rw [hx4, hSAl]), trivial⟩
            rw [hn2]; exact hZ4
        · refine ev_iconst d_Mo_isCovered_115 rfl ⟨by decide, by decide⟩ ?_
          exact ev_retIR d_Mo_isCovered_116 (⟨0, rfl, Or.inl rfl, he2, ⟨fun h9 => absurd h9 (by decide), fun h9 => absurd (hcv.mp h9 R List.mem_cons_self) (fun h8 => y_none hi hfn hw3 hw2 hRr (fun c9 c1 c2 => by rcases hA with g | ⟨k, k1, k2, -⟩ | g; omega; omega; (obtain ⟨s, s1, s2, s3, s4⟩ := g.2 c9 (by omega) c2; exact ⟨s, s1, by omega, fun g9 => (by rw [g9] at s3; exact absurd s3 (by decide)), fun g9 => s4 g9.symm⟩)) ((y_cov_ag hRag).mpr h8))⟩⟩) (Or.inr ⟨rfl, by omega⟩)
      · refine ev_aload_n (i := 0) d_Mo_isCovered_47 rfl rfl rfl ?_
        refine ev_getR d_Mo_isCovered_48 rfl lk_Mo_40 lx_45 rfl ?_
        refine ev_iload (i := 5) d_Mo_isCovered_51 rfl rfl ?_
        refine ev_iaload (z := M 56 c) d_Mo_isCovered_53 rfl lx_56 (by omega) (by omega) (he2 56 _ (by decide)) ?_
        refine ev_iload_n (i := 1) d_Mo_isCovered_54 rfl rfl rfl ?_
        refine ev_icmp_ne (tgt := 68) d_Mo_isCovered_55 (by decide) rfl (fun c1 => ?_) (fun c1 => ?_)
        · refine ev_bipush d_Mo_isCovered_68 rfl (by decide +kernel) ⟨by decide, by decide⟩ ?_
          refine ev_istore (i := 6) d_Mo_isCovered_70 rfl (by decide) rfl ?_
          refine ev_iload (i := 6) d_Mo_isCovered_72 rfl rfl ?_
          refine ev_iconst d_Mo_isCovered_74 rfl ⟨by decide, by decide⟩ ?_
          refine ev_icmp_eq_f (tgt := 84) d_Mo_isCovered_75 (by decide) rfl (by decide) ?_
          refine ev_iload (i := 4) d_Mo_isCovered_78 rfl rfl ?_
          refine ev_iconst d_Mo_isCovered_80 rfl ⟨by decide, by decide⟩ ?_
          refine ev_icmp_ne (tgt := 88) d_Mo_isCovered_81 (by decide) rfl (fun c3 => ?_) (fun c3 => ?_)
          · refine ev_iload (i := 4) d_Mo_isCovered_88 rfl rfl ?_
            refine ev_if_lt (tgt := 98) d_Mo_isCovered_90 (by decide) rfl (fun c4 => ?_) (fun c4 => ?_)
            · refine ev_iload (i := 6) d_Mo_isCovered_98 rfl rfl ?_
              refine ev_istore (i := 4) d_Mo_isCovered_100 rfl (by decide) rfl ?_
              refine ev_iinc (z := (c : Int) + 1) d_Mo_isCovered_102 rfl rfl (by decide) (g_w_id (by unfold g_rg; omega)) rfl ?_
              refine ev_goto (tgt := 38) d_Mo_isCovered_105 (by decide) ?_
              exact ev_le (ih3 (mm - (c + 1)) [some (g_r 45), some (g_i (f : Int)), some (g_i (S0.length : Int)), some (g_i (S.length : Int)), some (g_i (-2)), some (g_i ((c + 1 : Nat) : Int)), none] (by omega) ⟨c + 1, _, by omega, rfl, rfl, (by have e9 : a = -2 := (by rcases hA with h9 | ⟨k, k1, k2, -⟩ | h9; omega; omega; exact h9.1); rw [e9] at hA; exact y_A_n hA c1)⟩) rfl ⟨rfl, rfl, rfl, rfl, rfl, rfl, trivial⟩
            · refine ev_iload (i := 4) d_Mo_isCovered_93 rfl rfl ?_
              refine ev_goto (tgt := 100) d_Mo_isCovered_95 (by decide) ?_
              refine ev_istore (i := 4) d_Mo_isCovered_100 rfl (by decide) rfl ?_
              refine ev_iinc (z := (c : Int) + 1) d_Mo_isCovered_102 rfl rfl (by decide) (g_w_id (by unfold g_rg; omega)) rfl ?_
              refine ev_goto (tgt := 38) d_Mo_isCovered_105 (by decide) ?_
              exact ev_le (ih3 (mm - (c + 1)) [some (g_r 45), some (g_i (f : Int)), some (g_i (S0.length : Int)), some (g_i (S.length : Int)), some (g_i a), some (g_i ((c + 1 : Nat) : Int)), none] (by omega) ⟨c + 1, _, by omega, rfl, rfl, y_A_n hA c1⟩) rfl ⟨rfl, rfl, rfl, rfl, rfl, rfl, trivial⟩
          · refine ev_iconst d_Mo_isCovered_84 rfl ⟨by decide, by decide⟩ ?_
            refine ev_goto (tgt := 100) d_Mo_isCovered_85 (by decide) ?_
            refine ev_istore (i := 4) d_Mo_isCovered_100 rfl (by decide) rfl ?_
            refine ev_iinc (z := (c : Int) + 1) d_Mo_isCovered_102 rfl rfl (by decide) (g_w_id (by unfold g_rg; omega)) rfl ?_
            refine ev_goto (tgt := 38) d_Mo_isCovered_105 (by decide) ?_
            exact ev_le (ih3 (mm - (c + 1)) [some (g_r 45), some (g_i (f : Int)), some (g_i (S0.length : Int)), some (g_i (S.length : Int)), some (g_i (-1)), some (g_i ((c + 1 : Nat) : Int)), none] (by omega) ⟨c + 1, _, by omega, rfl, rfl, by rw [c3] at hA; exact y_A_n hA c1⟩) rfl ⟨rfl, rfl, rfl, rfl, rfl, rfl, trivial⟩
        · refine ev_aload_n (i := 0) d_Mo_isCovered_58 rfl rfl rfl ?_
          refine ev_iload (i := 5) d_Mo_isCovered_59 rfl rfl ?_
          refine ev_iload_n (i := 3) d_Mo_isCovered_61 rfl rfl rfl ?_
          refine ev_callVR (As := [g_i (c : Int), g_i (S.length : Int)]) d_Mo_isCovered_62 rfl cl_Mo_177 (c_Mo_stands_a (d + 1) hP he2 (r := S.length) (by omega) (c := c) (by omega)) (g_hR (by decide)) g_h0 lx_45 rfl rfl (Nat.le_of_ble_eq_true rfl) rfl rfl (fun M9 v9 g9 => ?_)
          obtain ⟨e9, x3, rfl, hx3⟩ := g9
          rw [e9]
          rw [← hRm] at hx3
          refine ev_goto (tgt := 70) d_Mo_isCovered_65 (by decide) ?_
          refine ev_istore (i := 6) d_Mo_isCovered_70 rfl (by decide) rfl ?_
          refine ev_iload (i := 6) d_Mo_isCovered_72 rfl rfl ?_
          refine ev_iconst d_Mo_isCovered_74 rfl ⟨by decide, by decide⟩ ?_
          refine ev_icmp_eq (tgt := 84) d_Mo_isCovered_75 (by decide) rfl (fun c2 => ?_) (fun c2 => ?_)
          · refine ev_iconst d_Mo_isCovered_84 rfl ⟨by decide, by decide⟩ ?_
            refine ev_goto (tgt := 100) d_Mo_isCovered_85 (by decide) ?_
            refine ev_istore (i := 4) d_Mo_isCovered_100 rfl (by decide) rfl ?_
            refine ev_iinc (z := (c : Int) + 1) d_Mo_isCovered_102 rfl rfl (by decide) (g_w_id (by unfold g_rg; omega)) rfl ?_
            refine ev_goto (tgt := 38) d_Mo_isCovered_105 (by decide) ?_
            exact ev_le (ih3 (mm - (c + 1)) [some (g_r 45), some (g_i (f : Int)), some (g_i (S0.length : Int)), some (g_i (S.length : Int)), some (g_i (-1)), some (g_i ((c + 1 : Nat) : Int)), none] (by omega) ⟨c + 1, _, by omega, rfl, rfl, (by first | exact y_A_1 c1 (hx3.resolve_left (fun h9 => by omega)) c2 | (rw [c3] at hA; exact y_A_k hA (by decide)))⟩) rfl ⟨rfl, rfl, rfl, rfl, rfl, rfl, trivial⟩
          · refine ev_iload (i := 4) d_Mo_isCovered_78 rfl rfl ?_
            refine ev_iconst d_Mo_isCovered_80 rfl ⟨by decide, by decide⟩ ?_
            refine ev_icmp_ne (tgt := 88) d_Mo_isCovered_81 (by decide) rfl (fun c3 => ?_) (fun c3 => ?_)
            · refine ev_iload (i := 4) d_Mo_isCovered_88 rfl rfl ?_
              refine ev_if_lt (tgt := 98) d_Mo_isCovered_90 (by decide) rfl (fun c4 => ?_) (fun c4 => ?_)
              · refine ev_iload (i := 6) d_Mo_isCovered_98 rfl rfl ?_
                refine ev_istore (i := 4) d_Mo_isCovered_100 rfl (by decide) rfl ?_
                refine ev_iinc (z := (c : Int) + 1) d_Mo_isCovered_102 rfl rfl (by decide) (g_w_id (by unfold g_rg; omega)) rfl ?_
                refine ev_goto (tgt := 38) d_Mo_isCovered_105 (by decide) ?_
                exact ev_le (ih3 (mm - (c + 1)) [some (g_r 45), some (g_i (f : Int)), some (g_i (S0.length : Int)), some (g_i (S.length : Int)), some (g_i x3), some (g_i ((c + 1 : Nat) : Int)), none] (by omega) ⟨c + 1, _, by omega, rfl, rfl, y_A_h hA (by omega) c3 c1 hx3 c2⟩) rfl ⟨rfl, rfl, rfl, rfl, rfl, rfl, trivial⟩
              · refine ev_iload (i := 4) d_Mo_isCovered_93 rfl rfl ?_
                refine ev_goto (tgt := 100) d_Mo_isCovered_95 (by decide) ?_
                refine ev_istore (i := 4) d_Mo_isCovered_100 rfl (by decide) rfl ?_
                refine ev_iinc (z := (c : Int) + 1) d_Mo_isCovered_102 rfl rfl (by decide) (g_w_id (by unfold g_rg; omega)) rfl ?_
                refine ev_goto (tgt := 38) d_Mo_isCovered_105 (by decide) ?_
                exact ev_le (ih3 (mm - (c + 1)) [some (g_r 45), some (g_i (f : Int)), some (g_i (S0.length : Int)), some (g_i (S.length : Int)), some (g_i a), some (g_i ((c + 1 : Nat) : Int)), none] (by omega) ⟨c + 1, _, by omega, rfl, rfl, y_A_k hA (by omega)⟩) rfl ⟨rfl, rfl, rfl, rfl, rfl, rfl, trivial⟩
            · refine ev_iconst d_Mo_isCovered_84 rfl ⟨by decide, by decide⟩ ?_
              refine ev_goto (tgt := 100) d_Mo_isCovered_85 (by decide) ?_
              refine ev_istore (i := 4) d_Mo_isCovered_100 rfl (by decide) rfl ?_
              refine ev_iinc (z := (c : Int) + 1) d_Mo_isCovered_102 rfl rfl (by decide) (g_w_id (by unfold g_rg; omega)) rfl ?_
              refine ev_goto (tgt := 38) d_Mo_isCovered_105 (by decide) ?_
              exact ev_le (ih3 (mm - (c + 1)) [some (g_r 45), some (g_i (f : Int)), some (g_i (S0.length : Int)), some (g_i (S.length : Int)), some (g_i (-1)), some (g_i ((c + 1 : Nat) : Int)), none] (by omega) ⟨c + 1, _, by omega, rfl, rfl, (by first | exact y_A_1 c1 (hx3.resolve_left (fun h9 => by omega)) c2 | (rw [c3] at hA; exact y_A_k hA (by decide)))⟩) rfl ⟨rfl, rfl, rfl, rfl, rfl, rfl, trivial⟩
  · refine ev_aload_n (i := 0) d_Mo_isCovered_8 rfl rfl rfl ?_
    refine ev_getR d_Mo_isCovered_9 rfl lk_Mo_74 lx_45 rfl ?_
    refine ev_iload_n (i := 2) d_Mo_isCovered_12 rfl rfl rfl ?_
    refine ev_iconst d_Mo_isCovered_13 rfl ⟨by decide, by decide⟩ ?_
    refine ev_iastore d_Mo_isCovered_14 rfl lx_67 (by omega) (by omega) ?_
    rw [show Int.toNat ((q : Int)) = q by rfl]
    refine ev_iinc (z := (q : Int) + 1) d_Mo_isCovered_15 rfl rfl (by decide) (g_w_id (by unfold g_rg; omega)) rfl ?_
    refine ev_goto (tgt := 2) d_Mo_isCovered_18 (by decide) ?_
    refine ev_le (ih (12 - (q + 1)) [some (g_r 45), some (g_i (f : Int)), some (g_i ((q + 1 : Nat) : Int)), none, none, none, none] _ (by omega) ⟨q + 1, by omega, rfl, rfl, he1.up _ _, fun j hj => ?_⟩) rfl ⟨rfl, rfl, rfl, trivial⟩
    simp only [g_up, true_and]
    by_cases hjq : j = q
    · rw [if_pos hjq]
    · rw [if_neg hjq]; exact h11 j (by omega)
