section LW1
variable {Me : g_Me} {R : Room} {Fi : g_Fin} {pc q : Nat} {ls : g_Ls} {st : List g_v} {L : g_L} {M : g_M} {nc ns : Nat}
theorem g_ofL {x : Int} (h : g_rg x) : (Int32.ofInt x).toInt64 = Int64.ofInt x := by
  rw [← Int64.ofInt_int32ToInt, g_t h]
theorem ev_i2l {x : Int} (h : decode Me.2.1 pc = .ok (.i2l, 1)) (hq : pc + 1 = q) (k : Ev Me R Fi q ls (g_j x :: st) L M nc ns) : Ev Me R Fi pc ls (g_i x :: st) L M nc ns := by
  subst hq
  intro p l e s m args below meth c Q D cs A C ad H locs lsA hH hV hF
  have hx : g_rg x := g_hd hV.2.2
  exact lv_i2l C.1.1 C.1.2.1 h (g_ofL hx) (k p l e s m args below meth c Q D cs A C ad H locs lsA hH (g_V_st hV (g_st1 (v := g_j x) hx (g_tl hV.2.2))) hF)
theorem g_updL (f : Nat → Int) (i : Nat) (z : Int) : vp_updL (fun j => Int64.ofInt (f j)) i (Int64.ofInt z) = fun j => Int64.ofInt (if j = i then z else f j) := by
  funext j
  unfold vp_updL
  split <;> rfl
theorem ev_lastore {k n : Nat} {x z : Int} (h : decode Me.2.1 pc = .ok (.lastore, 1)) (hq : pc + 1 = q) (hL : L[k]? = some (.inl (2, n))) (h0 : 0 ≤ x) (hn : x < n) (kk : Ev Me R Fi q ls st L (g_up M k x.toNat z) nc ns) : Ev Me R Fi pc ls (g_j z :: g_i x :: g_r k :: st) L M nc ns := by
  subst hq
  intro p l e s m args below meth c Q D cs A C0 ad H locs lsA hH hV hF
  have hx : g_rg x := g_hd (g_tl hV.2.2)
  refine va_last (D := D) C0.1.1 C0.1.2.1 C0.2.2.2.1.1 hH.1 hH.2.1 hH.2.2.1 k 2 (g_W_at hL) rfl (g_in hx h0 hn) h ?_
  intro H1 locs1 a1 a2 a3
  rw [g_cl hx h0, g_updL] at a1 a2
  have e9 : (g_W cs ad L M).set k (ad k, .inl (cs.2.2, n, .inr (.inl (fun j => Int64.ofInt (if j = x.toNat then z else M k j))))) = g_W cs ad L (g_up M k x.toNat z) := by
    rw [← g_W_set hL (fun a ha => g_upN (i := x.toNat) (z := z) ha)]
    simp only [g_ent, g_arr, g_up_k]
  rw [e9] at a1 a2
  have hz : g_rg z := g_hd hV.2.2
  exact kk p l e s m args below meth c Q D cs A C0 ad H1 locs1 lsA ⟨a1, a2, a3, g_up_rg hH.2.2.2.1 hz, hH.2.2.2.2⟩ (g_V_st hV (g_tl (g_tl (g_tl hV.2.2)))) hF
theorem ev_laload {k n : Nat} {x z : Int} (h : decode Me.2.1 pc = .ok (.laload, 1)) (hq : pc + 1 = q) (hL : L[k]? = some (.inl (2, n))) (h0 : 0 ≤ x) (hn : x < n) (hz : M k x.toNat = z) (kk : Ev Me R Fi q ls (g_j z :: st) L M nc ns) : Ev Me R Fi pc ls (g_i x :: g_r k :: st) L M nc ns := by
  subst hq
  subst hz
  intro p l e s m args below meth c Q D cs A C0 ad H locs lsA hH hV hF
  have hx : g_rg x := g_hd hV.2.2
  refine va_lald (D := D) C0.1.1 C0.1.2.1 C0.2.2.2.1.1 hH.1 k 2 (g_W_at hL) rfl (g_in hx h0 hn) h ?_
  rw [g_cl hx h0]
  exact kk p l e s m args below meth c Q D cs A C0 ad H locs lsA hH (g_V_st hV (g_st1 (v := g_j (M k x.toNat)) (hH.2.2.2.1 k x.toNat) (g_tl (g_tl hV.2.2)))) hF
theorem g_tL {z : Int} (h : g_rg z) : (Int64.ofInt z).toInt = z := Int64.toInt_ofInt_of_le (by have := h.1; omega) (by have := h.2; omega)
theorem ev_lcmp {x y z : Int} (h : decode Me.2.1 pc = .ok (.lcmp, 1)) (hq : pc + 1 = q) (hz : (if y < x then 1 else if x = y then 0 else -1) = z) (k : Ev Me R Fi q ls (g_i z :: st) L M nc ns) : Ev Me R Fi pc ls (g_j y :: g_j x :: st) L M nc ns := by
  subst hq
  subst hz
  intro p l e s m args below meth c Q D cs A C ad H locs lsA hH hV hF
  have hy : g_rg y := g_hd hV.2.2
  have hx : g_rg x := g_hd (g_tl hV.2.2)
  have hk := k p l e s m args below meth c Q D cs A C ad H locs lsA hH (g_V_st hV (g_st1 (v := g_i (if y < x then 1 else if x = y then 0 else -1)) (by show g_rg _; unfold g_rg; split <;> (try split) <;> omega) (g_tl (g_tl hV.2.2)))) hF
  refine W.lcmp (x := Int64.ofInt x) (y := Int64.ofInt y) C.1.1 C.1.2.1 h ?_
  have a1 : Int64.ofInt y < Int64.ofInt x ↔ y < x := by rw [Int64.lt_iff_toInt_lt, g_tL hy, g_tL hx]
  have a2 : Int64.ofInt x = Int64.ofInt y ↔ x = y := by rw [← Int64.toInt_inj, g_tL hy, g_tL hx]
  have e9 : lg_cmp (Int64.ofInt x) (Int64.ofInt y) = Int32.ofInt (if y < x then 1 else if x = y then 0 else -1) := by
    unfold lg_cmp
    simp only [a1, a2, GT.gt]
    split
    · rfl
    · split <;> rfl
  rw [e9]
  exact hk
/-- the law's own script -/
theorem ev_sld {b N : Nat} {xs : Nat → Int32} {x : Int} (hEx : ∀ l s c A, Me.2.2.2.2.1 l s c A → va_X b N xs s s.heap ∧ b < s.heap.size ∧ ¬ A b) (h : decode Me.2.1 pc = .ok (.iaload, 1)) (hq : pc + 1 = q) (h0 : 0 ≤ x) (hn : x < N) (k : Ev Me R Fi q ls (g_i (xs x.toNat).toInt :: st) L M nc ns) : Ev Me R Fi pc ls (g_i x :: g_o b :: st) L M nc ns := by
  subst hq
  intro p l e s m args below meth c Q D cs A C ad H locs lsA hH hV hF
  have hx : g_rg x := g_hd hV.2.2
  obtain ⟨e1, e2, e3⟩ := hEx _ _ _ _ C.2.2.2.2.2.1.2.2
  have hk := k p l e s m args below meth c Q D cs A C ad H locs lsA hH (g_V_st hV (g_st1 (v := g_i (xs x.toNat).toInt) (g_rg_toInt _) (g_tl (g_tl hV.2.2)))) hF
  refine va_sld C.1.1 C.1.2.1 e1 e2 e3 hH.2.2.1 (g_in hx h0 hn) h ?_
  rw [g_cl hx h0]
  have e9 : g_val ad (g_i (xs x.toNat).toInt) = .int (xs x.toNat) := by
    show Value.int (Int32.ofInt (xs x.toNat).toInt) = _
    rw [Int32.ofInt_toInt]
  rw [List.map_cons, e9] at hk
  exact hk
theorem ev_slen {b N : Nat} {xs : Nat → Int32} (hEx : ∀ l s c A, Me.2.2.2.2.1 l s c A → va_X b N xs s s.heap ∧ b < s.heap.size ∧ ¬ A b) (hN : N < 2147483648) (h : decode Me.2.1 pc = .ok (.arraylength, 1)) (hq : pc + 1 = q) (k : Ev Me R Fi q ls (g_i (N : Int) :: st) L M nc ns) : Ev Me R Fi pc ls (g_o b :: st) L M nc ns := by
  subst hq
  intro p l e s m args below meth c Q D cs A C ad H locs lsA hH hV hF
  obtain ⟨e1, e2, e3⟩ := hEx _ _ _ _ C.2.2.2.2.2.1.2.2
  have hk := k p l e s m args below meth c Q D cs A C ad H locs lsA hH (g_V_st hV (g_st1 (v := g_i (N : Int)) (by show g_rg _; unfold g_rg; omega) (g_tl hV.2.2))) hF
  refine va_slen C.1.1 C.1.2.1 e1 e2 e3 hH.2.2.1 h ?_
  have e9 : g_val ad (g_i (N : Int)) = .int (Int32.ofNat N) := by
    show Value.int (Int32.ofInt (N : Int)) = _
    rw [Int32.ofInt_eq_ofNat]
  rw [List.map_cons, e9] at hk
  exact hk
theorem ev_tsIn {dflt lo hi off : Int} {offs : Array Int} {len tgt : Nat} {x : Int} (h : decode Me.2.1 pc = .ok (.tableswitch dflt lo hi offs, len)) (h1 : lo ≤ x) (h2 : x ≤ hi) (ho : offs[(x - lo).toNat]? = some off) (ht : (pc : Int) + off = (tgt : Int)) (k : Ev Me R Fi tgt ls st L M nc ns) : Ev Me R Fi pc ls (g_i x :: st) L M nc ns := by
  intro p l e s m args below meth c Q D cs A C ad H locs lsA hH hV hF
  have hx : g_rg x := g_hd hV.2.2
  exact lv_tableIn C.1.1 C.1.2.1 h (by rw [g_t hx]; omega) (by rw [g_t hx]; omega) (by rw [g_t hx]; exact ho) ht (k p l e s m args below meth c Q D cs A C ad H locs lsA hH (g_V_st hV (g_tl hV.2.2)) hF)
theorem ev_tsOut {dflt lo hi : Int} {offs : Array Int} {len tgt : Nat} {x : Int} (h : decode Me.2.1 pc = .ok (.tableswitch dflt lo hi offs, len)) (h1 : x < lo ∨ hi < x) (ht : (pc : Int) + dflt = (tgt : Int)) (k : Ev Me R Fi tgt ls st L M nc ns) : Ev Me R Fi pc ls (g_i x :: st) L M nc ns := by
  intro p l e s m args below meth c Q D cs A C ad H locs lsA hH hV hF
  have hx : g_rg x := g_hd hV.2.2
  exact lv_tableOut C.1.1 C.1.2.1 h (by rw [g_t hx]; exact h1) ht (k p l e s m args below meth c Q D cs A C ad H locs lsA hH (g_V_st hV (g_tl hV.2.2)) hF)
end LW1
