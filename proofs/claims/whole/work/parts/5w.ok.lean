/-! trees that are whole: each node has its constructor's parts -/
def u_gd (wd : Nat → Int) : u_F → Bool → Nat → Nat → Prop
  | .tag c l, true, _, _ => c < 8 ∧ u_gd wd l false c 0
  | .append a l, false, c, i => u_gd wd a true 0 0 ∧ i < 3 ∧ u_gd wd l false c (i + 1)
  | .nil, false, c, i => wd c = (i : Int)
  | _, _, _, _ => False
def u_gt (M : g_M) (t : u_F) : Prop := u_gd (M 47) t true 0 0 ∧ u_sz t ≤ 60
theorem u_gd_nd {wd : Nat → Int} {t : u_F} {x i : Nat} (h : u_gd wd t true x i) : ∃ (c : Nat) (l : u_F), t = .tag c l ∧ u_gd wd l false c 0 ∧ c < 8 := by
  match t, h with
  | .tag c l, h => exact ⟨c, l, rfl, h.2, h.1⟩
  | .append _ _, h => exact absurd h id
  | .nil, h => exact absurd h id
  | .line, h => exact absurd h id
  | .align _, h => exact absurd h id
  | .text _, h => exact absurd h id
  | .nest _ _, h => exact absurd h id
  | .group _ _, h => exact absurd h id
theorem u_gd_rw {wd : Nat → Int} {t : u_F} {c i : Nat} (h : u_gd wd t false c i) : (t = .nil ∧ wd c = (i : Int)) ∨ ∃ (a l : u_F), t = .append a l ∧ u_gd wd a true 0 0 ∧ i < 3 ∧ u_gd wd l false c (i + 1) := by
  match t, h with
  | .tag c l, h => exact absurd h id
  | .append a l, h => exact Or.inr ⟨a, l, rfl, h⟩
  | .nil, h => exact Or.inl ⟨rfl, h⟩
  | .line, h => exact absurd h id
  | .align _, h => exact absurd h id
  | .text _, h => exact absurd h id
  | .nest _ _, h => exact absurd h id
  | .group _ _, h => exact absurd h id
theorem u_gd_ch {wd : Nat → Int} {c : Nat} : ∀ (k : Nat) (l : u_F) (i : Nat), u_gd wd l false c i → ((i + k : Nat) : Int) < wd c → u_gd wd (u_ch l k) true 0 0 := by
  intro k
  induction k with
  | zero =>
    intro l i h hw
    rcases u_gd_rw h with ⟨-, h1⟩ | ⟨a, l, rfl, h1, -, -⟩
    · simp at hw; omega
    · exact h1
  | succ k ih =>
    intro l i h hw
    rcases u_gd_rw h with ⟨-, h1⟩ | ⟨a, l, rfl, -, -, h2⟩
    · omega
    · exact ih l (i + 1) h2 (by rw [show i + 1 + k = i + (k + 1) by omega]; exact hw)
theorem u_sz_ch {wd : Nat → Int} {c : Nat} : ∀ (k : Nat) (l : u_F) (i : Nat), u_gd wd l false c i → u_sz (u_ch l k) ≤ u_sz l := by
  intro k
  induction k with
  | zero =>
    intro l i h
    rcases u_gd_rw h with ⟨rfl, h1⟩ | ⟨a, l, rfl, h1, -, -⟩
    · exact Nat.le_refl _
    · show u_sz a ≤ u_sz a + u_sz l
      omega
  | succ k ih =>
    intro l i h
    rcases u_gd_rw h with ⟨rfl, h1⟩ | ⟨a, l, rfl, -, -, h2⟩
    · exact Nat.le_refl _
    · have := ih l (i + 1) h2
      show u_sz (u_ch l k) ≤ u_sz a + u_sz l
      omega
theorem u_gd_ls {wd : Nat → Int} {c : Nat} : ∀ (l : List u_F) (i : Nat), (∀ a ∈ l, u_gd wd a true 0 0) → i + l.length ≤ 3 → wd c = ((i + l.length : Nat) : Int) → u_gd wd (u_ls l) false c i
  | [], i, _, _, hw => by
    show wd c = (i : Int)
    simpa using hw
  | a :: l, i, h, h3, hw => by
    rw [List.length_cons] at h3 hw
    exact ⟨h a List.mem_cons_self, by omega, u_gd_ls l (i + 1) (fun b hb => h b (List.mem_cons_of_mem _ hb)) (by omega) (by rw [hw]; omega)⟩
/-- what variables stand for: nothing yet, or whole trees -/
def u_bo (M : g_M) (b : Nat → u_F) : Prop := ∀ v, b v = .nil ∨ u_gt M (b v)
def u_P (M : g_M) (A : List Nat) (b : Nat → u_F) (r : Bool × (Nat → u_F)) : Prop := u_bo M r.2 ∧ (∀ v, u_gt M (b v) → u_gt M (r.2 v)) ∧ (r.1 = true → ∀ v ∈ A, u_gt M (r.2 v))
theorem u_fd_P {M : g_M} {g : Nat → (Nat → u_F) → Bool × (Nat → u_F)} {A : Nat → List Nat} {b : Nat → u_F} : ∀ n : Nat, (∀ k, k < n → ∀ b, u_bo M b → u_P M (A k) b (g k b)) → u_bo M b → u_P M ((List.range n).flatMap A) b (u_fd g n b)
  | 0, _, hb => ⟨hb, fun v h => h, fun _ v hv => by simp at hv⟩
  | n + 1, hg, hb => by
    obtain ⟨h1, h2, h3⟩ := u_fd_P n (fun k hk => hg k (by omega)) hb
    rw [u_fd_s]
    by_cases h : (u_fd g n b).1 = true
    · rw [if_pos h]
      obtain ⟨g1, g2, g3⟩ := hg n (by omega) _ h1
      refine ⟨g1, fun v hv => g2 v (h2 v hv), fun hr v hv => ?_⟩
      rw [List.range_succ, List.flatMap_append, List.mem_append] at hv
      rcases hv with hv | hv
      · exact g2 v (h3 h v hv)
      · exact g3 hr v (by simpa using hv)
    · rw [if_neg h]
      exact ⟨h1, h2, fun h9 => absurd h9 h⟩
theorem u_m_P {M : g_M} (hT : q_T M) : ∀ (p : Nat), (p : Int) < M 45 8 → (∀ x ∈ q_pl M p, M 52 x < 16) → ∀ t b, u_gt M t → u_bo M b → u_P M (v_l M p) b (u_m M p t b) := by
  intro p
  induction p using Nat.strongRecOn with
  | ind p ih =>
    intro hp h16 t b ht hb
    obtain ⟨h1, h2, h3, h4, h5, -, -⟩ := hT.2.2 p hp
    by_cases h8 : M 52 p < 8
    · rw [u_m_v h8, v_l_v hT hp h8]
      refine ⟨fun v => ?_, fun v hv => ?_, fun _ v hv => ?_⟩
      · show (if v = (M 52 p).toNat then t else b v) = .nil ∨ u_gt M (if v = (M 52 p).toNat then t else b v)
        by_cases hv : v = (M 52 p).toNat
        · rw [if_pos hv]; exact Or.inr ht
        · rw [if_neg hv]; exact hb v
      · show u_gt M (if v = (M 52 p).toNat then t else b v)
        by_cases hv2 : v = (M 52 p).toNat
        · rw [if_pos hv2]; exact ht
        · rw [if_neg hv2]; exact hv
      · have e : v = (M 52 p).toNat := by simpa using hv
        show u_gt M (if v = (M 52 p).toNat then t else b v)
        rw [if_pos e]; exact ht
    · obtain ⟨c, l, rfl, hl, -⟩ := u_gd_nd ht.1
      rw [u_m_c hT hp (by omega)]
      by_cases hc : M 52 p - 8 = (c : Int)
      · rw [if_pos hc, v_l_n hT hp (by omega), List.flatMap_map]
        have hw : q_w M p = M 47 c := by
          unfold q_w
          rw [if_neg h8, if_pos (h16 p (by rw [q_pl_eq hT hp]; exact List.mem_cons_self)), hc]
          rfl
        refine u_fd_P _ (fun k hk b hb => ?_) hb
        have h6 := h5 k (by omega)
        have hkid : (M 53 (3 * p + k)).toNat ∈ q_kids M p := by rw [q_kids_map, List.mem_map]; exact ⟨k, List.mem_range.mpr hk, rfl⟩
        refine ih _ (by omega) (by omega) (fun x hx => h16 x (by rw [q_pl_eq hT hp]; exact List.mem_cons_of_mem _ (List.mem_flatMap.mpr ⟨_, hkid, hx⟩))) _ b ⟨u_gd_ch k l 0 hl (by omega), ?_⟩ hb
        have g1 := u_sz_ch k l 0 hl
        have g2 := ht.2
        rw [u_sz] at g2
        omega
      · rw [if_neg hc]
        exact ⟨hb, fun v h => h, fun h9 => by cases h9⟩
/-- the clause that is found -/
theorem u_en_P {M : g_M} (hT : q_T M) (hL : ∀ c : Nat, (c : Int) < M 45 13 → r_c M c) {f w : Nat} (hw : M 50 f = w) (hw3 : w ≤ 3) {as : Nat → u_F} (has : ∀ k, k < w → u_gt M (as k)) {b : Nat → u_F} (hb : u_bo M b) : ∀ n : Nat, (n : Int) ≤ M 45 13 → u_bo M (u_en M f w as b n).2 ∧ ∀ c, (u_en M f w as b n).1 = some c → c < n ∧ M 56 c = f ∧ ∀ v ∈ v_l M (M 58 c).toNat, u_gt M ((u_en M f w as b n).2 v)
  | 0, _ => ⟨hb, fun c h => by rw [u_en_0] at h; exact absurd h (by simp)⟩
  | n + 1, hn => by
    obtain ⟨h1, h2⟩ := u_en_P hT hL hw hw3 has hb n (by omega)
    match he : u_en M f w as b n with
    | (some c, bc) =>
      rw [he] at h1 h2
      rw [u_en_e, he]
      simp only [Option.isSome_some, if_true]
      obtain ⟨g1, g2, g3⟩ := h2 c rfl
      exact ⟨h1, fun c' hc' => by
        have : c = c' := by simpa using hc'
        subst this
        exact ⟨by omega, g2, g3⟩⟩
    | (none, bc) =>
      rw [he] at h1
      by_cases hf : M 56 n = f
      · obtain ⟨-, -, -, -, -, -, c7, -, c9⟩ := hL n (by omega)
        rw [hf, Int.toNat_natCast, hw] at c7
        have hP : u_P M ((List.range w).flatMap (fun k => v_l M (M 57 (3 * n + k)).toNat)) bc (u_mc M n as bc w) := by
          rw [u_mc_fd]
          refine u_fd_P _ (fun k hk b hb => ?_) h1
          obtain ⟨-, d2, d3, -, -, d6⟩ := c7 k (by omega)
          exact u_m_P hT _ (by omega) d6 _ b (has k hk) hb
        obtain ⟨p1, p2, p3⟩ := hP
        match hm : u_mc M n as bc w with
        | (true, bk) =>
          rw [hm] at p1 p2 p3
          have e := u_en_t he hf hm 0
          rw [Nat.add_zero] at e
          rw [e]
          refine ⟨p1, fun c hc => ?_⟩
          have ec : n = c := by simpa using hc
          subst ec
          refine ⟨by omega, hf, fun v hv => p3 rfl v ?_⟩
          have h9 := c9 v hv
          rw [hf, Int.toNat_natCast, hw, Int.toNat_natCast] at h9
          obtain ⟨k, hk, hk2⟩ := v_p_mem w v h9
          rw [j_pk_57 M n k (by omega)] at hk2
          exact List.mem_flatMap.mpr ⟨k, List.mem_range.mpr hk, hk2⟩
        | (false, bk) =>
          rw [hm] at p1 p2 p3
          rw [u_en_f he hf hm]
          exact ⟨p1, fun c hc => absurd hc (by simp)⟩
      · rw [u_en_n he hf]
        exact ⟨h1, fun c hc => absurd hc (by simp)⟩
/-! what holds of every state of a run -/
/-- how many values an open thing takes -/
def u_wd (M : g_M) (t : Int) : Nat := if t ≤ -11 then (M 50 (-11 - t).toNat).toNat else (M 47 (-1 - t).toNat).toNat
/-- with h values held, what is open leaves one -/
def u_nd (M : g_M) : List (Int × Nat) → Nat → Prop
  | [], h => h = 1
  | (t, _) :: K, h => if 0 ≤ t then u_nd M K (h + 1) else u_wd M t ≤ h ∧ u_nd M K (h - u_wd M t + 1)
def u_no : List (Int × Nat) → Nat
  | [] => 0
  | (t, _) :: K => (if 0 ≤ t then 0 else 1) + u_no K
def u_mu (M : g_M) : List (Int × Nat) → Nat
  | [] => 0
  | (t, _) :: K => (if 0 ≤ t then 2 * (M 55 t.toNat).toNat else 1) + u_mu M K
/-- each of the open things, over those below it -/
def u_ki (M : g_M) (B : Nat → Nat → u_F) (st : Nat) : List (Int × Nat) → Prop
  | [] => True
  | (t, fr) :: K => ((0 ≤ t ∧ t < M 45 8 ∧ (∀ v ∈ v_l M t.toNat, u_gt M (B fr v)) ∧ K.length + 3 * (M 54 t.toNat).toNat ≤ 15 * fr + 3 ∧ u_no K + (M 54 t.toNat).toNat ≤ 5 * fr + 1) ∨ (t < 0 ∧ ((t ≤ -11 ∧ -11 - t < M 45 4) ∨ (-11 < t ∧ -1 - t < M 45 0)) ∧ K.length ≤ 15 * fr ∧ u_no K ≤ 5 * fr)) ∧ fr ≤ st ∧ u_ki M B st K
def u_ok (M : g_M) (n : Nat) (s : u_S) : Prop := u_ki M s.2.2.1 s.2.2.2.1 s.1 ∧ u_nd M s.1 s.2.1.length ∧ (∀ t ∈ s.2.1, u_gt M t) ∧ (∀ q, u_bo M (s.2.2.1 q)) ∧ s.2.2.2.1 ≤ 200 ∧ s.2.2.2.2 ≤ 600 ∧ n + u_mu M s.1 ≤ 80 * s.2.2.2.1 + 1
theorem u_ki_up {M : g_M} {B B' : Nat → Nat → u_F} {st : Nat} (hB : ∀ q, q ≤ st → B' q = B q) : ∀ K, u_ki M B st K → u_ki M B' (st + 1) K
  | [], _ => trivial
  | (t, fr) :: K, h => by
    obtain ⟨h1, h2, h3⟩ := h
    refine ⟨?_, by omega, u_ki_up hB K h3⟩
    rw [hB fr h2]
    exact h1
/-- parts that are open over what stands there -/
theorem u_ki_ks {M : g_M} {B : Nat → Nat → u_F} {st fr h : Nat} {K : List (Int × Nat)} (hK : u_ki M B st K) (hfr : fr ≤ st) (hh1 : 1 ≤ h) (h1 : K.length + 3 * h ≤ 15 * fr + 4) (h2 : u_no K + h ≤ 5 * fr + 2) (hno : 1 ≤ u_no K) (hK1 : 1 ≤ K.length) : ∀ L : List Nat, L.length ≤ 3 → (∀ y ∈ L, (y : Int) < M 45 8 ∧ (∀ v ∈ v_l M y, u_gt M (B fr v)) ∧ M 54 y < h) → u_ki M B st (L.map (fun y : Nat => ((y : Int), fr)) ++ K) ∧ u_no (L.map (fun y : Nat => ((y : Int), fr)) ++ K) = u_no K
  | [], _, _ => ⟨hK, rfl⟩
  | y :: L, hl, hy => by
    rw [List.length_cons] at hl
    obtain ⟨g1, g2⟩ := u_ki_ks hK hfr hh1 h1 h2 hno hK1 L (by omega) (fun y hy2 => hy y (List.mem_cons_of_mem _ hy2))
    obtain ⟨a1, a2, a3⟩ := hy y List.mem_cons_self
    rw [List.map_cons, List.cons_append]
    refine ⟨⟨Or.inl ⟨by omega, a1, a2, ?_, ?_⟩, hfr, g1⟩, ?_⟩
    · rw [List.length_append, List.length_map, Int.toNat_natCast]; omega
    · rw [g2, Int.toNat_natCast]; omega
    · rw [u_no, if_pos (by omega), g2, Nat.zero_add]
theorem u_nd_ks {M : g_M} {fr : Nat} {K : List (Int × Nat)} : ∀ (L : List Nat) (h : Nat), u_nd M (L.map (fun y : Nat => ((y : Int), fr)) ++ K) h ↔ u_nd M K (h + L.length)
  | [], h => Iff.rfl
  | y :: L, h => by
    rw [List.map_cons, List.cons_append, u_nd, if_pos (by omega), u_nd_ks L (h + 1), List.length_cons, show h + 1 + L.length = h + (L.length + 1) by omega]
theorem u_mu_ks {M : g_M} {fr : Nat} {K : List (Int × Nat)} : ∀ (L : List Nat), (∀ y ∈ L, 0 ≤ M 55 y) → ((u_mu M (L.map (fun y : Nat => ((y : Int), fr)) ++ K) : Nat) : Int) = 2 * (L.map (M 55)).sum + (u_mu M K : Nat)
  | [], _ => by simp
  | y :: L, hy => by
    have h1 := u_mu_ks (fr := fr) (K := K) L (fun y hy2 => hy y (List.mem_cons_of_mem _ hy2))
    have h2 := hy y List.mem_cons_self
    rw [List.map_cons, List.cons_append, u_mu, if_pos (by omega), List.map_cons, List.sum_cons, Int.toNat_natCast]
    omega
theorem u_nd_le {M : g_M} (h3 : ∀ t : Int, u_wd M t ≤ 3 ∨ True) : ∀ (K : List (Int × Nat)) (h : Nat), (∀ i ∈ K, i.1 < 0 → u_wd M i.1 ≤ 3) → u_nd M K h → h ≤ 1 + 2 * u_no K
  | [], h, _, hn => by
    have : h = 1 := hn
    omega
  | (t, fr) :: K, h, hw, hn => by
    rw [u_nd] at hn
    rw [u_no]
    by_cases ht : 0 ≤ t
    · rw [if_pos ht] at hn ⊢
      have := u_nd_le h3 K (h + 1) (fun i hi => hw i (List.mem_cons_of_mem _ hi)) hn
      omega
    · rw [if_neg ht] at hn ⊢
      have h1 := u_nd_le h3 K _ (fun i hi => hw i (List.mem_cons_of_mem _ hi)) hn.2
      have h2 := hw (t, fr) List.mem_cons_self (by show t < 0; omega)
      have h4 := hn.1
      have h5 : u_wd M t ≤ 3 := h2
      omega
theorem r_P_47 {M : g_M} (hP : r_P M) {c : Nat} (hc : (c : Int) < M 45 0) : 0 ≤ M 47 c ∧ M 47 c ≤ 3 ∧ M 3 c = M 47 c := by
  obtain ⟨-, -, -, -, h⟩ := hP.1
  have := h c hc
  exact ⟨this.2.2.2.1.1, this.2.2.2.1.2, this.2.2.1⟩
theorem r_P_50 {M : g_M} (hP : r_P M) {f : Nat} (hf : (f : Int) < M 45 4) : 0 ≤ M 50 f ∧ M 50 f ≤ 3 ∧ M 7 f = M 50 f := by
  obtain ⟨-, -, -, -, h⟩ := hP.2.1
  have := h f hf
  exact ⟨this.2.2.2.1.1, this.2.2.2.1.2, this.2.2.1⟩
theorem u_ki_w {M : g_M} (hP : r_P M) {B : Nat → Nat → u_F} {st : Nat} : ∀ K, u_ki M B st K → ∀ i ∈ K, i.1 < 0 → u_wd M i.1 ≤ 3
  | [], _, i, hi, _ => by simp at hi
  | (t, fr) :: K, h, i, hi, hi0 => by
    obtain ⟨h1, -, h3⟩ := h
    rcases List.mem_cons.mp hi with rfl | hi
    · rcases h1 with h1 | ⟨-, h1, -⟩
      · have := h1.1; simp only at hi0; omega
      · simp only [u_wd]
        rcases h1 with ⟨a, b⟩ | ⟨a, b⟩
        · rw [if_pos a]
          have := r_P_50 hP (f := (-11 - t).toNat) (by simp only at hi0; omega)
          omega
        · rw [if_neg (by omega)]
          have := r_P_47 hP (c := (-1 - t).toNat) (by simp only at hi0; omega)
          omega
    · exact u_ki_w hP K h3 i hi hi0
/-- the bounds -/
theorem u_ok_b {M : g_M} (hP : r_P M) {n : Nat} {s : u_S} (h : u_ok M n s) : s.1.length ≤ 3004 ∧ u_no s.1 ≤ 1001 ∧ s.2.1.length ≤ 2003 ∧ n ≤ 16001 := by
  obtain ⟨K, H, B, st, bu⟩ := s
  obtain ⟨h1, h2, h3, h4, h5, h6, h7⟩ := h
  simp only at h1 h2 h3 h4 h5 h6 h7 ⊢
  have a : K.length ≤ 3004 ∧ u_no K ≤ 1001 := by
    match K, h1 with
    | [], _ => exact ⟨Nat.zero_le _, Nat.zero_le _⟩
    | (t, fr) :: K, h1 =>
      obtain ⟨g1, g2, -⟩ := h1
      rw [List.length_cons, u_no]
      rcases g1 with ⟨a1, -, -, a2, a3⟩ | ⟨a1, -, a2, a3⟩
      · rw [if_pos a1]; omega
      · rw [if_neg (by omega)]; omega
  have b := u_nd_le (M := M) (fun _ => Or.inr trivial) K H.length (u_ki_w hP K h1) h2
  omega
theorem u_op_w {M : g_M} (hP : r_P M) {t : Nat} (ht : (t : Int) < M 45 8) (h8 : 8 ≤ M 52 t) : u_op M t < 0 ∧ u_wd M (u_op M t) = (q_w M t).toNat ∧ ((u_op M t ≤ -11 ∧ -11 - u_op M t < M 45 4) ∨ (-11 < u_op M t ∧ -1 - u_op M t < M 45 0)) := by
  have hr := (hP.2.2.1.2.2.1 t ht).1
  have h8' : M 45 0 ≤ 8 := hP.1.2.2.2.1
  unfold u_op u_wd q_w
  rw [if_neg (by omega : ¬ M 52 t < 8)]
  by_cases h16 : M 52 t < 16
  · rw [if_pos h16, if_pos h16]
    refine ⟨by omega, ?_, Or.inr ⟨by omega, by omega⟩⟩
    rw [if_neg (by omega), show -1 - (-1 - (M 52 t - 8)) = M 52 t - 8 by omega]
  · rw [if_neg h16, if_neg h16]
    refine ⟨by omega, ?_, Or.inl ⟨by omega, by omega⟩⟩
    rw [if_pos (by omega), show -11 - (-11 - (M 52 t - 16)) = M 52 t - 16 by omega]
theorem q_sz_0 {M : g_M} (hT : q_T M) {t : Nat} (ht : (t : Int) < M 45 8) : 1 ≤ M 55 t := by
  have h1 := q_pl_len hT t ht
  rw [q_pl_eq hT ht, List.length_cons] at h1
  omega
/-- a step keeps it -/
theorem u_ok_st {M : g_M} (hP : r_P M) {n : Nat} {s : u_S} (h : u_ok M n s) (hs : s.1 ≠ []) (he : (u_st M s).2 = false) : u_ok M (n + 1) (u_st M s).1 := by
  have hT := hP.2.2.1.2.1
  have hrt := hP.2.2.1.2.2.1
  obtain ⟨K, H, B, st, bu⟩ := s
  obtain ⟨h1, h2, h3, h4, h5, h6, h7⟩ := h
  match K with
  | [] => exact absurd rfl hs
  | (t, fr) :: K =>
    simp only at h1 h2 h3 h4 h5 h6 h7
    obtain ⟨k1, k2, k3⟩ := h1
    by_cases ht : 0 ≤ t
    · have k4 : t < M 45 8 ∧ (∀ v ∈ v_l M t.toNat, u_gt M (B fr v)) ∧ K.length + 3 * (M 54 t.toNat).toNat ≤ 15 * fr + 3 ∧ u_no K + (M 54 t.toNat).toNat ≤ 5 * fr + 1 := by
        rcases k1 with k1 | k1
        · exact k1.2
        · have := k1.1; omega
      obtain ⟨a1, a2, a3, a4⟩ := k4
      obtain ⟨t, rfl⟩ : ∃ t' : Nat, t = t' := ⟨t.toNat, by omega⟩
      rw [Int.toNat_natCast] at a2 a3 a4
      rw [u_nd, if_pos ht] at h2
      rw [u_mu, if_pos ht, Int.toNat_natCast] at h7
      have hsz := q_sz_0 hT a1
      rw [u_st, if_pos ht, Int.toNat_natCast] at he ⊢
      by_cases h8 : M 52 t < 8
      · rw [if_pos h8]
        have hv := v_l_v hT a1 h8
        refine ⟨k3, h2, fun x hx => ?_, h4, h5, h6, ?_⟩
        · rcases List.mem_cons.mp hx with rfl | hx
          · exact a2 _ (by rw [hv]; exact List.mem_cons_self)
          · exact h3 x hx
        · show n + 1 + u_mu M K ≤ 80 * st + 1
          omega
      · rw [if_neg h8]
        obtain ⟨o1, o2, o3⟩ := u_op_w hP a1 (by omega)
        obtain ⟨q1, q2, q3, q4, q5, q6, q7⟩ := hT.2.2 t a1
        have hr := hrt t a1
        have hlen : (q_kids M t).length = (q_w M t).toNat := by rw [q_kids_map, List.length_map, List.length_range]
        have hh : 1 ≤ M 54 t := by have := hr.1; omega
        have hkid : ∀ y ∈ q_kids M t, (y : Int) < M 45 8 ∧ (∀ v ∈ v_l M y, u_gt M (B fr v)) ∧ M 54 y < (((M 54 t).toNat : Nat) : Int) := by
          intro y hy
          rw [q_kids_map, List.mem_map] at hy
          obtain ⟨k, hk, rfl⟩ := hy
          rw [List.mem_range] at hk
          have g5 := q5 k (by omega)
          have g6 := (hr.2.2.1 k (by omega)).2
          exact ⟨by omega, fun v hv => a2 v (v_l_kid hT a1 (by omega) v hv), by omega⟩
        have hop : u_ki M B st ((u_op M t, fr) :: K) := ⟨Or.inr ⟨o1, o3, by omega, by omega⟩, k2, k3⟩
        have hno : u_no ((u_op M t, fr) :: K) = 1 + u_no K := by rw [u_no, if_neg (by omega)]
        have hks := u_ki_ks hop k2 (h := (M 54 t).toNat) (by omega) (by rw [List.length_cons]; omega) (by rw [hno]; omega) (by rw [hno]; omega) (by rw [List.length_cons]; omega) (q_kids M t) (by omega) hkid
        have hmu := u_mu_ks (M := M) (fr := fr) (K := (u_op M t, fr) :: K) (q_kids M t) (fun y hy => by have := q_sz_0 hT (hkid y hy).1; omega)
        refine ⟨hks.1, ?_, h3, h4, h5, h6, ?_⟩
        · show u_nd M ((q_kids M t).map (fun y : Nat => ((y : Int), fr)) ++ (u_op M t, fr) :: K) H.length
          rw [u_nd_ks, u_nd, if_neg (by omega), hlen, o2]
          exact ⟨by omega, by rw [show H.length + (q_w M t).toNat - (q_w M t).toNat + 1 = H.length + 1 by omega]; exact h2⟩
        · show n + 1 + u_mu M ((q_kids M t).map (fun y : Nat => ((y : Int), fr)) ++ (u_op M t, fr) :: K) ≤ 80 * st + 1
          rw [u_mu, if_neg (by omega)] at hmu
          omega
    · have k4 : ((t ≤ -11 ∧ -11 - t < M 45 4) ∨ (-11 < t ∧ -1 - t < M 45 0)) ∧ K.length ≤ 15 * fr ∧ u_no K ≤ 5 * fr := by
        rcases k1 with k1 | k1
        · have := k1.1; omega
        · exact k1.2
      obtain ⟨a1, a3, a4⟩ := k4
      rw [u_nd, if_neg ht] at h2
      rw [u_mu, if_neg ht] at h7
      rw [u_st, if_neg ht] at he ⊢
      by_cases h11 : t ≤ -11
      · rw [if_pos h11] at he ⊢
        obtain ⟨f, rfl⟩ : ∃ f : Nat, t = -11 - (f : Int) := ⟨(-11 - t).toNat, by omega⟩
        have ef : (-11 - (-11 - (f : Int))).toNat = f := by omega
        have hwd : u_wd M (-11 - (f : Int)) = (M 50 f).toNat := by rw [u_wd, if_pos h11, ef]
        have hf4 : (f : Int) < M 45 4 := by omega
        obtain ⟨w0, w3, -⟩ := r_P_50 hP hf4
        rw [hwd] at h2
        rw [ef] at he ⊢
        by_cases h200 : st = 200
        · rw [if_pos h200] at he; exact absurd he (by simp)
        · rw [if_neg h200] at he ⊢
          have hm := hP.2.2.2.2.1
          have hen := u_en_P hT hP.2.2.2.2.2.2.1 (f := f) (w := (M 50 f).toNat) (by omega) (by omega) (as := fun k => (H[(M 50 f).toNat - 1 - k]?).getD .nil) (fun k hk => by
            have hl : (M 50 f).toNat - 1 - k < H.length := by have := h2.1; omega
            show u_gt M ((H[(M 50 f).toNat - 1 - k]?).getD .nil)
            rw [List.getElem?_eq_getElem hl]
            exact h3 _ (List.getElem_mem hl)) (h4 (st + 1)) (M 45 13).toNat (by omega)
          match hE : u_en M f (M 50 f).toNat (fun k => (H[(M 50 f).toNat - 1 - k]?).getD .nil) (B (st + 1)) (M 45 13).toNat with
          | (none, b) => rw [hE] at he; exact absurd he (by simp)
          | (some c, b) =>
            rw [hE] at hen
            obtain ⟨e1, e2⟩ := hen
            obtain ⟨e3, e4, e5⟩ := e2 c rfl
            have hc := hP.2.2.2.2.2.2.1 c (by omega)
            obtain ⟨-, -, -, -, c5, c6, -⟩ := hc
            obtain ⟨-, -, -, -, -, q6, -⟩ := hT.2.2 (M 58 c).toNat (by omega)
            have q7 := (hrt (M 58 c).toNat (by omega)).2.2.2.2.2.1
            refine ⟨⟨Or.inl ⟨c5, c6, fun v hv => ?_, ?_, ?_⟩, Nat.le_refl _, u_ki_up (B := B) (fun q hq => ?_) K k3⟩, ?_, fun x hx => h3 x (List.mem_of_mem_drop hx), fun q => ?_, ?_, h6, ?_⟩
            · show u_gt M ((if st + 1 = st + 1 then b else B (st + 1)) v)
              rw [if_pos rfl]
              exact e5 v hv
            · show K.length + 3 * (M 54 (M 58 c).toNat).toNat ≤ 15 * (st + 1) + 3
              omega
            · show u_no K + (M 54 (M 58 c).toNat).toNat ≤ 5 * (st + 1) + 1
              omega
            · exact if_neg (by omega)
            · show u_nd M ((M 58 c, st + 1) :: K) (H.drop (M 50 f).toNat).length
              rw [u_nd, if_pos c5, List.length_drop]
              exact h2.2
            · show u_bo M (if q = st + 1 then b else B q)
              by_cases hq : q = st + 1
              · rw [if_pos hq]; exact e1
              · rw [if_neg hq]; exact h4 q
            · show st + 1 ≤ 200
              omega
            · show n + 1 + u_mu M ((M 58 c, st + 1) :: K) ≤ 80 * (st + 1) + 1
              rw [u_mu, if_pos c5]
              omega
      · rw [if_neg h11] at he ⊢
        obtain ⟨c, rfl⟩ : ∃ c : Nat, t = -1 - (c : Int) := ⟨(-1 - t).toNat, by omega⟩
        have ec : (-1 - (-1 - (c : Int))).toNat = c := by omega
        have hwd : u_wd M (-1 - (c : Int)) = (M 47 c).toNat := by rw [u_wd, if_neg h11, ec]
        have hc0 : (c : Int) < M 45 0 := by omega
        obtain ⟨w0, w3, -⟩ := r_P_47 hP hc0
        rw [hwd] at h2
        rw [ec] at he ⊢
        by_cases h600 : bu = 600
        · rw [if_pos h600] at he; exact absurd he (by simp)
        · rw [if_neg h600] at he ⊢
          by_cases h60 : 60 < u_sz (.tag c (u_ls (H.take (M 47 c).toNat).reverse))
          · rw [if_pos h60] at he; exact absurd he (by simp)
          · rw [if_neg h60]
            have hl : (H.take (M 47 c).toNat).reverse.length = (M 47 c).toNat := by rw [List.length_reverse, List.length_take]; have := h2.1; omega
            refine ⟨k3, ?_, fun x hx => ?_, h4, h5, by show bu + 1 ≤ 600; omega, ?_⟩
            · show u_nd M K (_ :: H.drop (M 47 c).toNat).length
              rw [List.length_cons, List.length_drop]
              exact h2.2
            · rcases List.mem_cons.mp hx with rfl | hx
              · refine ⟨?_, by omega⟩
                have hc8 : M 45 0 ≤ 8 := hP.1.2.2.2.1
                refine ⟨by omega, ?_⟩
                exact u_gd_ls _ 0 (fun a ha => (h3 a (List.mem_of_mem_take (List.mem_reverse.mp ha))).1) (by omega) (by omega)
              · exact h3 x (List.mem_of_mem_drop hx)
            · show n + 1 + u_mu M K ≤ 80 * st + 1
              omega
