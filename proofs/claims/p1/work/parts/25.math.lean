theorem gx_max1 : Cond.methodLink R_Te 52 Lib.Math.max.name ∈ gw := gm_520
theorem gx_max2 : Cond.static Lib.Math.max.name ∈ gw := gm_521
theorem gx_max3 : Cond.code Lib.Math.max.name Lib.Math.max.code 2 (some .int) ∈ gw := by
  have e : b_Jm_max = Lib.Math.max.code := by decide +kernel
  have h : Cond.code y_Jm_max b_Jm_max 2 (some .int) ∈ gw := gm_522
  rw [e] at h
  exact h
theorem ev_max {Me : g_Me} {R : Room} {Fi : g_Fin} {pc q idx : Nat} {ls : g_Ls} {st : List g_v} {L : g_L} {M : g_M} {nc ns : Nat} {x y z : Int} (h : decode Me.2.1 pc = .ok (.invokestatic idx, 3)) (hq : pc + 3 = q) (hl : Cond.methodLink Me.1 idx Lib.Math.max.name ∈ gw) (hR : 1 ≤ R.frames ∧ (st.map g_cw).sum + 13 ≤ R.locals) (hc : nc ≤ R.cells ∧ ns ≤ R.slots) (hz : (if x < y then y else x) = z) (kk : Ev Me R Fi q ls (g_i z :: st) L M nc ns) : Ev Me R Fi pc ls (g_i y :: g_i x :: st) L M nc ns := by
  subst hq
  subst hz
  intro p l e s m args below meth c Q D cs A C ad H locs lsA hH hV hF
  have hts := C.1.2.2.2.2
  have hy : g_rg y := g_hd hV.2.2
  have hx : g_rg x := g_hd (g_tl hV.2.2)
  have hk := kk p l e s m args below meth c Q D cs A C ad H locs lsA hH (g_V_st hV (g_st1 (v := g_i (if x < y then y else x)) (by show g_rg _; split <;> assumption) (g_tl (g_tl hV.2.2)))) hF
  refine va_mmax C.1.1 C.1.2.1 (by rw [C.1.2.2.1]; exact hV.1.1.symm) C.1.2.2.2.1 (hts _ hl) (hts _ gx_max2) (hts _ gm_11) (hts _ gx_max3) hR.1 (by rw [g_cw_sum]; exact hR.2) hc.1 hc.2 h ?_
  have e9 : (if Int32.ofInt x < Int32.ofInt y then Int32.ofInt y else Int32.ofInt x) = Int32.ofInt (if x < y then y else x) := by
    have := g_ltI (x := x) (y := y) hx hy
    by_cases h1 : x < y
    · rw [if_pos (this.mpr h1), if_pos h1]
    · rw [if_neg (fun h2 => h1 (this.mp h2)), if_neg h1]
  rw [e9]
  exact hk
theorem gx_min1 : Cond.methodLink R_Co 83 Lib.Math.min.name ∈ gw := gm_337
theorem gx_min2 : Cond.static Lib.Math.min.name ∈ gw := gm_338
theorem gx_min3 : Cond.code Lib.Math.min.name Lib.Math.min.code 2 (some .int) ∈ gw := by
  have e : b_Jm_min = Lib.Math.min.code := by decide +kernel
  have h : Cond.code y_Jm_min b_Jm_min 2 (some .int) ∈ gw := gm_339
  rw [e] at h
  exact h
theorem ev_min {Me : g_Me} {R : Room} {Fi : g_Fin} {pc q idx : Nat} {ls : g_Ls} {st : List g_v} {L : g_L} {M : g_M} {nc ns : Nat} {x y z : Int} (h : decode Me.2.1 pc = .ok (.invokestatic idx, 3)) (hq : pc + 3 = q) (hl : Cond.methodLink Me.1 idx Lib.Math.min.name ∈ gw) (hR : 1 ≤ R.frames ∧ (st.map g_cw).sum + 13 ≤ R.locals) (hc : nc ≤ R.cells ∧ ns ≤ R.slots) (hz : (if y < x then y else x) = z) (kk : Ev Me R Fi q ls (g_i z :: st) L M nc ns) : Ev Me R Fi pc ls (g_i y :: g_i x :: st) L M nc ns := by
  subst hq
  subst hz
  intro p l e s m args below meth c Q D cs A C ad H locs lsA hH hV hF
  have hts := C.1.2.2.2.2
  have hy : g_rg y := g_hd hV.2.2
  have hx : g_rg x := g_hd (g_tl hV.2.2)
  have hk := kk p l e s m args below meth c Q D cs A C ad H locs lsA hH (g_V_st hV (g_st1 (v := g_i (if y < x then y else x)) (by show g_rg _; split <;> assumption) (g_tl (g_tl hV.2.2)))) hF
  refine va_mmin C.1.1 C.1.2.1 (by rw [C.1.2.2.1]; exact hV.1.1.symm) C.1.2.2.2.1 (hts _ hl) (hts _ gx_min2) (hts _ gm_11) (hts _ gx_min3) hR.1 (by rw [g_cw_sum]; exact hR.2) hc.1 hc.2 h ?_
  have e9 : (if Int32.ofInt y < Int32.ofInt x then Int32.ofInt y else Int32.ofInt x) = Int32.ofInt (if y < x then y else x) := by
    have := g_ltI (x := y) (y := x) hy hx
    by_cases h1 : y < x
    · rw [if_pos (this.mpr h1), if_pos h1]
    · rw [if_neg (fun h2 => h1 (this.mp h2)), if_neg h1]
  rw [e9]
  exact hk
