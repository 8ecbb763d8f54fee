section CTR
variable {Me : g_Me} {R : Room} {Fi : g_Fin} {pc q : Nat} {ls : g_Ls} {st : List g_v} {L : g_L} {M : g_M} {nc ns : Nat}
theorem g_clr_id {M : g_M} {k : Nat} (h : ∀ i, M k i = 0) : g_clr M k = M := by
  funext a b
  unfold g_clr
  split
  · rename_i h1
    rw [h1, h b]
  · rfl
theorem ev_cNew {idx ci N k0 : Nat} {C : String} {T : u_T} {fs : List g_F} {nc' ns' : Nat} {L' : g_L} (h : decode Me.2.1 pc = .ok (.new idx, 3)) (hq : pc + 3 = q) (hn : g_Nl Me.1 idx ci C T N fs) (hk : L.length = k0) (hM : ∀ i, M k0 i = 0) (hL : L ++ [.inr (ci, fs)] = L') (hcs : nc + 1 ≤ R.cells ∧ ns + N ≤ R.slots) (hnc : nc + 1 = nc') (hns : ns + N = ns')
    (kk : Ev Me R Fi q ls (g_r k0 :: st) L' M nc' ns') : Ev Me R Fi pc ls st L M nc ns := by
  subst hk
  subst hL
  refine ev_new h hq hn hcs hnc hns ?_
  rw [g_clr_id hM]
  exact kk
theorem ev_cArr0 {n : Int} {k0 m : Nat} {nc' ns' : Nat} {L' : g_L} (h : decode Me.2.1 pc = .ok (.newarray .int, 2)) (hq : pc + 2 = q) (hw : Cond.arrayClass .int ∈ gw) (h0 : n = (m : Int)) (hb : m ≤ 100000) (hk : L.length = k0) (hM : ∀ i, M k0 i = 0) (hL : L ++ [.inl (0, m)] = L') (hcs : nc + 1 ≤ R.cells ∧ ns + m ≤ R.slots) (hnc : nc + 1 = nc') (hns : ns + m = ns')
    (kk : Ev Me R Fi q ls (g_r k0 :: st) L' M nc' ns') : Ev Me R Fi pc ls (g_i n :: st) L M nc ns := by
  subst hk
  subst hL
  subst h0
  refine ev_newarr0 h hq hw (by omega) (by omega) hcs hnc hns ?_
  rw [g_clr_id hM]
  exact kk
theorem ev_cArr1 {n : Int} {k0 m : Nat} {nc' ns' : Nat} {L' : g_L} (h : decode Me.2.1 pc = .ok (.newarray .boolean, 2)) (hq : pc + 2 = q) (hw : Cond.arrayClass .boolean ∈ gw) (h0 : n = (m : Int)) (hb : m ≤ 100000) (hk : L.length = k0) (hM : ∀ i, M k0 i = 0) (hL : L ++ [.inl (1, m)] = L') (hcs : nc + 1 ≤ R.cells ∧ ns + m ≤ R.slots) (hnc : nc + 1 = nc') (hns : ns + m = ns')
    (kk : Ev Me R Fi q ls (g_r k0 :: st) L' M nc' ns') : Ev Me R Fi pc ls (g_i n :: st) L M nc ns := by
  subst hk
  subst hL
  subst h0
  refine ev_newarr1 h hq hw (by omega) (by omega) hcs hnc hns ?_
  rw [g_clr_id hM]
  exact kk
theorem ev_cArr2 {n : Int} {k0 m : Nat} {nc' ns' : Nat} {L' : g_L} (h : decode Me.2.1 pc = .ok (.newarray .long, 2)) (hq : pc + 2 = q) (hw : Cond.arrayClass .long ∈ gw) (h0 : n = (m : Int)) (hb : m ≤ 100000) (hk : L.length = k0) (hM : ∀ i, M k0 i = 0) (hL : L ++ [.inl (2, m)] = L') (hcs : nc + 1 ≤ R.cells ∧ ns + m ≤ R.slots) (hnc : nc + 1 = nc') (hns : ns + m = ns')
    (kk : Ev Me R Fi q ls (g_r k0 :: st) L' M nc' ns') : Ev Me R Fi pc ls (g_i n :: st) L M nc ns := by
  subst hk
  subst hL
  subst h0
  refine ev_newarr2 h hq hw (by omega) (by omega) hcs hnc hns ?_
  rw [g_clr_id hM]
  exact kk
end CTR
