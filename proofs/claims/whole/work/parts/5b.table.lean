/-! the class's table of graphs -/
def o_h (x : Nat) : Nat := (g_b (fun a b => (a.toUInt32 >>> (b.toUInt32 &&& Int32.toUInt32 31)).toInt32) (g_w ((x : Int) * (-1640531535))) 23).toNat
theorem o_h_int (z : Int) : 0 ≤ g_b (fun a b => (a.toUInt32 >>> (b.toUInt32 &&& Int32.toUInt32 31)).toInt32) z 23 ∧ g_b (fun a b => (a.toUInt32 >>> (b.toUInt32 &&& Int32.toUInt32 31)).toInt32) z 23 < 512 := by
  have e : ((Int32.ofInt 23).toUInt32 &&& Int32.toUInt32 31) = 23 := by decide
  show 0 ≤ (((Int32.ofInt z).toUInt32 >>> ((Int32.ofInt 23).toUInt32 &&& Int32.toUInt32 31)).toInt32).toInt ∧ (((Int32.ofInt z).toUInt32 >>> ((Int32.ofInt 23).toUInt32 &&& Int32.toUInt32 31)).toInt32).toInt < 512
  rw [e]
  have h1 : ((Int32.ofInt z).toUInt32 >>> 23).toNat < 512 := by
    rw [UInt32.toNat_shiftRight]
    have h2 : (Int32.ofInt z).toUInt32.toNat < 4294967296 := UInt32.toNat_lt _
    show (Int32.ofInt z).toUInt32.toNat >>> (23 % 32) < 512
    rw [Nat.shiftRight_eq_div_pow, show 23 % 32 = 23 from rfl, show (2 : Nat) ^ 23 = 8388608 by decide]
    omega
  have h3 : (((Int32.ofInt z).toUInt32 >>> 23).toInt32).toInt = (((Int32.ofInt z).toUInt32 >>> 23).toNat : Int) := by
    show (((Int32.ofInt z).toUInt32 >>> 23).toBitVec).toInt = _
    rw [z_int _ (by show ((Int32.ofInt z).toUInt32 >>> 23).toNat < _; omega)]
    rfl
  rw [h3]
  omega
theorem o_h_lt (x : Nat) : o_h x < 512 := by
  have := o_h_int (g_w ((x : Int) * (-1640531535)))
  unfold o_h
  omega
def o_B (M1 : g_M) (l : List Nat) : Prop := l.length ≤ 200 ∧ l.Nodup ∧ (∀ x ∈ l, x < 16777216) ∧ (∀ i x : Nat, l[i]? = some x → M1 32 i = x) ∧ M1 30 6 = l.length ∧
  (∃ ps : List Nat, ps.length = l.length ∧ ∀ q : Nat, q < 512 → M1 33 q ≠ -1 → q ∈ ps) ∧ (∀ q : Nat, q < 512 → M1 33 q = -1 ∨ ∃ x ∈ l, M1 33 q = (x : Nat)) ∧
  ∀ x ∈ l, ∃ t : Nat, t < 512 ∧ M1 33 ((o_h x + t) % 512) = (x : Nat) ∧ ∀ t' : Nat, t' < t → M1 33 ((o_h x + t') % 512) ≠ -1
/-- a free place is found -/
theorem o_B_free {M1 : g_M} {l : List Nat} (h : o_B M1 l) (x : Nat) : ∃ t : Nat, t < 512 ∧ M1 33 ((o_h x + t) % 512) = -1 := by
  obtain ⟨h1, -, -, -, -, ⟨ps, p1, p2⟩, -, -⟩ := h
  have hq : ∃ q : Nat, q < 512 ∧ M1 33 q = -1 := by
    refine Classical.byContradiction fun h9 => ?_
    have h2 := z_nodup_le (List.range 512) ps List.nodup_range (fun q hq => p2 q (List.mem_range.mp hq) (fun h8 => h9 ⟨q, List.mem_range.mp hq, h8⟩))
    rw [List.length_range] at h2
    omega
  obtain ⟨q, q1, q2⟩ := hq
  have hl := o_h_lt x
  refine ⟨(q + 512 - o_h x) % 512, Nat.mod_lt _ (by decide), ?_⟩
  rw [show (o_h x + (q + 512 - o_h x) % 512) % 512 = q by omega]
  exact q2
/-- what the probing has seen -/
def o_pr (M1 : g_M) (x t : Nat) : Prop := ∀ t' : Nat, t' < t → M1 33 ((o_h x + t') % 512) ≠ -1 ∧ M1 33 ((o_h x + t') % 512) ≠ (x : Nat)
theorem o_B_in {M1 : g_M} {l : List Nat} (h : o_B M1 l) {q x : Nat} (hq : q < 512) (he : M1 33 q = (x : Nat)) : x ∈ l := by
  rcases h.2.2.2.2.2.2.1 q hq with h9 | ⟨y, hy, h9⟩
  · omega
  · have : x = y := by omega
    exact this ▸ hy
theorem o_B_out {M1 : g_M} {l : List Nat} (h : o_B M1 l) {x t : Nat} (hp : o_pr M1 x t) (he : M1 33 ((o_h x + t) % 512) = -1) : x ∉ l := by
  intro hx
  obtain ⟨s, s1, s2, s3⟩ := h.2.2.2.2.2.2.2 x hx
  rcases Nat.lt_trichotomy s t with h9 | h9 | h9
  · exact (hp s h9).2 s2
  · subst h9
    omega
  · exact s3 t h9 he
theorem o_B_add {M1 : g_M} {l : List Nat} (h : o_B M1 l) {x t : Nat} (hx : x < 16777216) (hl : l.length < 200) (ht : t < 512) (hp : o_pr M1 x t) {a : Nat} (ha : (o_h x + t) % 512 = a) (he : M1 33 a = -1) : o_B (g_up (g_up (g_up M1 33 a (x : Nat)) 32 l.length (x : Nat)) 30 6 ((l.length : Int) + 1)) (l ++ [x]) := by
  have hout := o_B_out h hp (by rw [ha]; exact he)
  obtain ⟨h1, h2, h3, h4, h5, ⟨ps, p1, p2⟩, h7, h8⟩ := h
  have e33 : ∀ q, (g_up (g_up (g_up M1 33 a (x : Nat)) 32 l.length (x : Nat)) 30 6 ((l.length : Int) + 1)) 33 q = if q = a then ((x : Nat) : Int) else M1 33 q := by
    intro q
    rw [g_up_ne (by decide), g_up_ne (by decide)]
    simp [g_up]
  refine ⟨by rw [List.length_append, List.length_cons, List.length_nil]; omega, List.nodup_append.mpr ⟨h2, by simp, fun a9 ha9 b9 hb9 hab => hout (by rw [List.mem_singleton.mp hb9] at hab; exact hab ▸ ha9)⟩, fun y hy => ?_, fun i y hy => ?_, ?_, ⟨ps ++ [a], by rw [List.length_append, List.length_append, p1]; rfl, fun q hq hne => ?_⟩, fun q hq => ?_, fun y hy => ?_⟩
  · rcases List.mem_append.mp hy with hy | hy
    · exact h3 y hy
    · rw [List.mem_singleton.mp hy]; exact hx
  · rw [g_up_ne (by decide)]
    by_cases hi : i < l.length
    · rw [List.getElem?_append_left hi] at hy
      simp only [g_up, true_and]
      rw [if_neg (by omega), if_neg (by omega)]
      exact h4 i y hy
    · rw [List.getElem?_append_right (by omega)] at hy
      have e0 : i - l.length = 0 := by
        have h9 := (List.getElem?_eq_some_iff.mp hy).1
        simp at h9
        omega
      rw [e0] at hy
      have ey : x = y := by simpa using hy
      have ei : i = l.length := by omega
      rw [ei, ← ey]
      simp [g_up]
  · rw [List.length_append, List.length_cons, List.length_nil]
    simp [g_up]
  · rw [e33] at hne
    by_cases hqt : q = a
    · exact List.mem_append_right _ (by rw [hqt]; exact List.mem_cons_self)
    · rw [if_neg hqt] at hne
      exact List.mem_append_left _ (p2 q hq hne)
  · rw [e33]
    by_cases hqt : q = a
    · rw [if_pos hqt]
      exact Or.inr ⟨x, List.mem_append_right _ List.mem_cons_self, rfl⟩
    · rw [if_neg hqt]
      exact (h7 q hq).imp id (fun ⟨y, hy, h9⟩ => ⟨y, List.mem_append_left _ hy, h9⟩)
  · have hkeep : ∀ q, M1 33 q ≠ -1 → (if q = a then ((x : Nat) : Int) else M1 33 q) ≠ -1 := by
      intro q hq
      split
      · omega
      · exact hq
    rcases List.mem_append.mp hy with hy | hy
    · obtain ⟨s, s1, s2, s3⟩ := h8 y hy
      refine ⟨s, s1, ?_, fun t' ht' => ?_⟩
      · rw [e33, if_neg (fun h9 => by rw [h9, he] at s2; omega)]
        exact s2
      · rw [e33]
        exact hkeep _ (s3 t' ht')
    · rw [List.mem_singleton.mp hy]
      refine ⟨t, ht, by rw [ha, e33, if_pos rfl], fun t' ht' => ?_⟩
      rw [e33]
      exact hkeep _ (hp t' ht').1
