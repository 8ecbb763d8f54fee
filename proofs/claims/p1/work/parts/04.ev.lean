section GEN2
variable {Me : g_Me} {R : Room} {Fi : g_Fin} {pc q : Nat} {ls : g_Ls} {st : List g_v} {L : g_L} {M : g_M} {nc ns : Nat}
theorem ev_done (h : Fi pc ls st L M nc ns) : Ev Me R Fi pc ls st L M nc ns := by
  intro p l e s m args below meth c Q D cs A C ad H locs lsA hH hV hF
  exact hF pc ls st L M nc ns ad H locs lsA h (fun _ _ => rfl) (Nat.le_refl _) hH hV
theorem ev_trans {Fi1 : g_Fin} (h : Ev Me R Fi1 pc ls st L M nc ns) (k : ∀ pc' ls' st' L' M' nc' ns', Fi1 pc' ls' st' L' M' nc' ns' → Ev Me R Fi pc' ls' st' L' M' nc' ns') : Ev Me R Fi pc ls st L M nc ns := by
  intro p l e s m args below meth c Q D cs A C ad H locs lsA hH hV hF
  refine h p l e s m args below meth c Q D cs A C ad H locs lsA hH hV ?_
  intro pc' ls' st' L' M' nc' ns' ad' H' locs' lsA' h1 h2 h3 h4 h5
  refine k pc' ls' st' L' M' nc' ns' h1 p l e s m args below meth c Q D cs A C ad' H' locs' lsA' h4 h5 ?_
  intro pc2 ls2 st2 L2 M2 nc2 ns2 ad2 H2 locs2 lsA2 g1 g2 g3 g4 g5
  exact hF pc2 ls2 st2 L2 M2 nc2 ns2 ad2 H2 locs2 lsA2 g1 (fun k hk => (g2 k (Nat.lt_of_lt_of_le hk h3)).trans (h2 k hk)) (Nat.le_trans h3 g3) g4 g5
/-- fewer known places -/
theorem ev_less {ls' : g_Ls} (h : ∀ (i : Nat) (v : g_v), ls'[i]? = some (some v) → ls[i]? = some (some v)) (k : Ev Me R Fi pc ls' st L M nc ns) : Ev Me R Fi pc ls st L M nc ns := by
  intro p l e s m args below meth c Q D cs A C ad H locs lsA hH hV hF
  exact k p l e s m args below meth c Q D cs A C ad H locs lsA hH ⟨⟨hV.1.1, hV.1.2.1, fun i v hi => hV.1.2.2 i v (h i v hi)⟩, fun i v hi => hV.2.1 i v (h i v hi), hV.2.2⟩ hF
/-- what holds of every state: numbers of memory are in range, and those of the stack -/
theorem ev_rg (k : (∀ a b, g_rg (M a b)) → (∀ v ∈ st, g_ok L.length v) → (∀ (i : Nat) (v : g_v), ls[i]? = some (some v) → g_okl L.length v) → Ev Me R Fi pc ls st L M nc ns) : Ev Me R Fi pc ls st L M nc ns := by
  intro p l e s m args below meth c Q D cs A C ad H locs lsA hH hV hF
  exact k hH.2.2.2.1 hV.2.2 hV.2.1 p l e s m args below meth c Q D cs A C ad H locs lsA hH hV hF
/-- a top that is the same number otherwise told -/
theorem ev_top {x y : Int} (h : x = y) (k : Ev Me R Fi pc ls (g_i y :: st) L M nc ns) : Ev Me R Fi pc ls (g_i x :: st) L M nc ns := h ▸ k
theorem g_st1 {n : Nat} {v : g_v} {st : List g_v} (hv : g_ok n v) (h : ∀ w ∈ st, g_ok n w) : ∀ w ∈ v :: st, g_ok n w := fun w hw => (List.mem_cons.mp hw).elim (fun e => e ▸ hv) (h w)
theorem g_tl {n : Nat} {v : g_v} {st : List g_v} (h : ∀ w ∈ v :: st, g_ok n w) : ∀ w ∈ st, g_ok n w := fun w hw => h w (List.mem_cons_of_mem _ hw)
theorem g_hd {n : Nat} {v : g_v} {st : List g_v} (h : ∀ w ∈ v :: st, g_ok n w) : g_ok n v := h v List.mem_cons_self

theorem ev_iconst {n : Int} (h : decode Me.2.1 pc = .ok (.iconst n, 1)) (hq : pc + 1 = q) (hn : g_rg n) (k : Ev Me R Fi q ls (g_i n :: st) L M nc ns) : Ev Me R Fi pc ls st L M nc ns := by
  subst hq
  intro p l e s m args below meth c Q D cs A C ad H locs lsA hH hV hF
  refine lv_iconst C.1.1 C.1.2.1 h rfl ?_
  exact k p l e s m args below meth c Q D cs A C ad H locs lsA hH (g_V_st hV (g_st1 hn hV.2.2)) hF

theorem ev_bipush {n : Int} (h : decode Me.2.1 pc = .ok (.bipush n, 2)) (hq : pc + 2 = q) (hv : (Int8.ofInt n).toInt32 = Int32.ofInt n) (hn : g_rg n) (k : Ev Me R Fi q ls (g_i n :: st) L M nc ns) : Ev Me R Fi pc ls st L M nc ns := by
  subst hq
  intro p l e s m args below meth c Q D cs A C ad H locs lsA hH hV hF
  refine lv_bipush C.1.1 C.1.2.1 h hv ?_
  exact k p l e s m args below meth c Q D cs A C ad H locs lsA hH (g_V_st hV (g_st1 hn hV.2.2)) hF

theorem ev_sipush {n : Int} (h : decode Me.2.1 pc = .ok (.sipush n, 3)) (hq : pc + 3 = q) (hv : (Int16.ofInt n).toInt32 = Int32.ofInt n) (hn : g_rg n) (k : Ev Me R Fi q ls (g_i n :: st) L M nc ns) : Ev Me R Fi pc ls st L M nc ns := by
  subst hq
  intro p l e s m args below meth c Q D cs A C ad H locs lsA hH hV hF
  refine lv_sipush C.1.1 C.1.2.1 h hv ?_
  exact k p l e s m args below meth c Q D cs A C ad H locs lsA hH (g_V_st hV (g_st1 hn hV.2.2)) hF

theorem ev_ldc {idx : Nat} {v : Int32} {n : Int} (h : decode Me.2.1 pc = .ok (.ldc idx, 2)) (hq : pc + 2 = q) (hc : Jvm.Cond.constant Me.1 idx v ∈ gw) (hv : v = Int32.ofInt n) (hn : g_rg n) (k : Ev Me R Fi q ls (g_i n :: st) L M nc ns) : Ev Me R Fi pc ls st L M nc ns := by
  subst hq
  subst hv
  intro p l e s m args below meth c Q D cs A C ad H locs lsA hH hV hF
  refine lv_ldc C.1.1 C.1.2.1 C.1.2.2.2.1 (C.1.2.2.2.2 _ hc) h ?_
  exact k p l e s m args below meth c Q D cs A C ad H locs lsA hH (g_V_st hV (g_st1 hn hV.2.2)) hF

theorem ev_iload_n {i : Nat} {k0 : Fin 4} {x : Int} (h : decode Me.2.1 pc = .ok (.iload_n k0, 1)) (hq : pc + 1 = q) (hi : (k0 : Nat) = i) (hl : ls[i]? = some (some (g_i x))) (k : Ev Me R Fi q ls (g_i x :: st) L M nc ns) : Ev Me R Fi pc ls st L M nc ns := by
  subst hq
  intro p l e s m args below meth c Q D cs A C ad H locs lsA hH hV hF
  refine lv_iload_n C.1.1 C.1.2.1 h hi (hV.1.2.2 i _ hl) ?_
  exact k p l e s m args below meth c Q D cs A C ad H locs lsA hH (g_V_st hV (g_st1 (g_okl_ok (hV.2.1 i _ hl)) hV.2.2)) hF

theorem ev_iload {i : Nat} {x : Int} (h : decode Me.2.1 pc = .ok (.iload i, 2)) (hq : pc + 2 = q) (hl : ls[i]? = some (some (g_i x))) (k : Ev Me R Fi q ls (g_i x :: st) L M nc ns) : Ev Me R Fi pc ls st L M nc ns := by
  subst hq
  intro p l e s m args below meth c Q D cs A C ad H locs lsA hH hV hF
  refine lv_iload C.1.1 C.1.2.1 h (hV.1.2.2 i _ hl) ?_
  exact k p l e s m args below meth c Q D cs A C ad H locs lsA hH (g_V_st hV (g_st1 (g_okl_ok (hV.2.1 i _ hl)) hV.2.2)) hF

theorem ev_aload_n {i : Nat} {k0 : Fin 4} {x : Nat} (h : decode Me.2.1 pc = .ok (.aload_n k0, 1)) (hq : pc + 1 = q) (hi : (k0 : Nat) = i) (hl : ls[i]? = some (some (g_r x))) (k : Ev Me R Fi q ls (g_r x :: st) L M nc ns) : Ev Me R Fi pc ls st L M nc ns := by
  subst hq
  intro p l e s m args below meth c Q D cs A C ad H locs lsA hH hV hF
  refine lv_aload_n C.1.1 C.1.2.1 h hi (hV.1.2.2 i _ hl) ?_
  exact k p l e s m args below meth c Q D cs A C ad H locs lsA hH (g_V_st hV (g_st1 (g_okl_ok (hV.2.1 i _ hl)) hV.2.2)) hF

theorem ev_aload {i : Nat} {x : Nat} (h : decode Me.2.1 pc = .ok (.aload i, 2)) (hq : pc + 2 = q) (hl : ls[i]? = some (some (g_r x))) (k : Ev Me R Fi q ls (g_r x :: st) L M nc ns) : Ev Me R Fi pc ls st L M nc ns := by
  subst hq
  intro p l e s m args below meth c Q D cs A C ad H locs lsA hH hV hF
  refine lv_aload C.1.1 C.1.2.1 h (hV.1.2.2 i _ hl) ?_
  exact k p l e s m args below meth c Q D cs A C ad H locs lsA hH (g_V_st hV (g_st1 (g_okl_ok (hV.2.1 i _ hl)) hV.2.2)) hF

theorem ev_aload_nO {i : Nat} {k0 : Fin 4} {x : Nat} (h : decode Me.2.1 pc = .ok (.aload_n k0, 1)) (hq : pc + 1 = q) (hi : (k0 : Nat) = i) (hl : ls[i]? = some (some (g_o x))) (k : Ev Me R Fi q ls (g_o x :: st) L M nc ns) : Ev Me R Fi pc ls st L M nc ns := by
  subst hq
  intro p l e s m args below meth c Q D cs A C ad H locs lsA hH hV hF
  refine lv_aload_n C.1.1 C.1.2.1 h hi (hV.1.2.2 i _ hl) ?_
  exact k p l e s m args below meth c Q D cs A C ad H locs lsA hH (g_V_st hV (g_st1 (g_okl_ok (hV.2.1 i _ hl)) hV.2.2)) hF

theorem ev_aloadO {i : Nat} {x : Nat} (h : decode Me.2.1 pc = .ok (.aload i, 2)) (hq : pc + 2 = q) (hl : ls[i]? = some (some (g_o x))) (k : Ev Me R Fi q ls (g_o x :: st) L M nc ns) : Ev Me R Fi pc ls st L M nc ns := by
  subst hq
  intro p l e s m args below meth c Q D cs A C ad H locs lsA hH hV hF
  refine lv_aload C.1.1 C.1.2.1 h (hV.1.2.2 i _ hl) ?_
  exact k p l e s m args below meth c Q D cs A C ad H locs lsA hH (g_V_st hV (g_st1 (g_okl_ok (hV.2.1 i _ hl)) hV.2.2)) hF

theorem ev_istore_n {i : Nat} {k0 : Fin 4} {x : Int} {ls' : g_Ls} (h : decode Me.2.1 pc = .ok (.istore_n k0, 1)) (hq : pc + 1 = q) (hi : (k0 : Nat) = i) (hn : i < Me.2.2.1) (hs : ls.set i (some (g_i x)) = ls') (k : Ev Me R Fi q ls' st L M nc ns) : Ev Me R Fi pc ls (g_i x :: st) L M nc ns := by
  subst hq
  subst hs
  intro p l e s m args below meth c Q D cs A C ad H locs lsA hH hV hF
  have hv : g_okl L.length (g_i x) := g_hd hV.2.2
  refine lv_istore_n C.1.1 C.1.2.1 h hi (g_has hV) hn rfl fun lsA' h' => ?_
  exact k p l e s m args below meth c Q D cs A C ad H locs lsA' hH (g_back (v := g_i x) hV hv h') hF

theorem ev_istore {i : Nat} {x : Int} {ls' : g_Ls} (h : decode Me.2.1 pc = .ok (.istore i, 2)) (hq : pc + 2 = q) (hn : i < Me.2.2.1) (hs : ls.set i (some (g_i x)) = ls') (k : Ev Me R Fi q ls' st L M nc ns) : Ev Me R Fi pc ls (g_i x :: st) L M nc ns := by
  subst hq
  subst hs
  intro p l e s m args below meth c Q D cs A C ad H locs lsA hH hV hF
  have hv : g_okl L.length (g_i x) := g_hd hV.2.2
  refine lv_istore C.1.1 C.1.2.1 h (g_has hV) hn rfl fun lsA' h' => ?_
  exact k p l e s m args below meth c Q D cs A C ad H locs lsA' hH (g_back (v := g_i x) hV hv h') hF

theorem ev_astore_n {i : Nat} {k0 : Fin 4} {x : Nat} {ls' : g_Ls} (h : decode Me.2.1 pc = .ok (.astore_n k0, 1)) (hq : pc + 1 = q) (hi : (k0 : Nat) = i) (hn : i < Me.2.2.1) (hs : ls.set i (some (g_r x)) = ls') (k : Ev Me R Fi q ls' st L M nc ns) : Ev Me R Fi pc ls (g_r x :: st) L M nc ns := by
  subst hq
  subst hs
  intro p l e s m args below meth c Q D cs A C ad H locs lsA hH hV hF
  have hv : g_okl L.length (g_r x) := g_hd hV.2.2
  refine lv_astore_n C.1.1 C.1.2.1 h hi (g_has hV) hn rfl fun lsA' h' => ?_
  exact k p l e s m args below meth c Q D cs A C ad H locs lsA' hH (g_back (v := g_r x) hV hv h') hF

theorem ev_astore {i : Nat} {x : Nat} {ls' : g_Ls} (h : decode Me.2.1 pc = .ok (.astore i, 2)) (hq : pc + 2 = q) (hn : i < Me.2.2.1) (hs : ls.set i (some (g_r x)) = ls') (k : Ev Me R Fi q ls' st L M nc ns) : Ev Me R Fi pc ls (g_r x :: st) L M nc ns := by
  subst hq
  subst hs
  intro p l e s m args below meth c Q D cs A C ad H locs lsA hH hV hF
  have hv : g_okl L.length (g_r x) := g_hd hV.2.2
  refine lv_astore C.1.1 C.1.2.1 h (g_has hV) hn rfl fun lsA' h' => ?_
  exact k p l e s m args below meth c Q D cs A C ad H locs lsA' hH (g_back (v := g_r x) hV hv h') hF

theorem ev_astore_nO {i : Nat} {k0 : Fin 4} {x : Nat} {ls' : g_Ls} (h : decode Me.2.1 pc = .ok (.astore_n k0, 1)) (hq : pc + 1 = q) (hi : (k0 : Nat) = i) (hn : i < Me.2.2.1) (hs : ls.set i (some (g_o x)) = ls') (k : Ev Me R Fi q ls' st L M nc ns) : Ev Me R Fi pc ls (g_o x :: st) L M nc ns := by
  subst hq
  subst hs
  intro p l e s m args below meth c Q D cs A C ad H locs lsA hH hV hF
  have hv : g_okl L.length (g_o x) := g_hd hV.2.2
  refine lv_astore_n C.1.1 C.1.2.1 h hi (g_has hV) hn rfl fun lsA' h' => ?_
  exact k p l e s m args below meth c Q D cs A C ad H locs lsA' hH (g_back (v := g_o x) hV hv h') hF

theorem ev_astoreO {i : Nat} {x : Nat} {ls' : g_Ls} (h : decode Me.2.1 pc = .ok (.astore i, 2)) (hq : pc + 2 = q) (hn : i < Me.2.2.1) (hs : ls.set i (some (g_o x)) = ls') (k : Ev Me R Fi q ls' st L M nc ns) : Ev Me R Fi pc ls (g_o x :: st) L M nc ns := by
  subst hq
  subst hs
  intro p l e s m args below meth c Q D cs A C ad H locs lsA hH hV hF
  have hv : g_okl L.length (g_o x) := g_hd hV.2.2
  refine lv_astore C.1.1 C.1.2.1 h (g_has hV) hn rfl fun lsA' h' => ?_
  exact k p l e s m args below meth c Q D cs A C ad H locs lsA' hH (g_back (v := g_o x) hV hv h') hF

theorem ev_iinc {i : Nat} {n x z : Int} {ls' : g_Ls} (h : decode Me.2.1 pc = .ok (.iinc i n, 3)) (hq : pc + 3 = q) (hl : ls[i]? = some (some (g_i x))) (hn : i < Me.2.2.1) (hz : g_w (x + n) = z) (hs : ls.set i (some (g_i z)) = ls') (k : Ev Me R Fi q ls' st L M nc ns) : Ev Me R Fi pc ls st L M nc ns := by
  subst hq
  subst hs
  subst hz
  intro p l e s m args below meth c Q D cs A C ad H locs lsA hH hV hF
  obtain ⟨j, hj⟩ := List.getElem?_of_mem (g_lst_mem (ad := ad) hl)
  refine lv_iinc (v := Int32.ofInt (g_w (x + n))) C.1.1 C.1.2.1 h (g_has hV) hj (by rw [g_ofw, Int32.ofInt_add]) hn rfl fun lsA' h' => ?_
  exact k p l e s m args below meth c Q D cs A C ad H locs lsA' hH (g_back (v := g_i (g_w (x + n))) (g_V_st hV (g_st1 (g_w_rg _) hV.2.2)) (g_w_rg _) h') hF

theorem ev_iadd {x y z : Int} (h : decode Me.2.1 pc = .ok (.iadd, 1)) (hq : pc + 1 = q) (hz : g_w (x + y) = z) (k : Ev Me R Fi q ls (g_i z :: st) L M nc ns) : Ev Me R Fi pc ls (g_i y :: g_i x :: st) L M nc ns := by
  subst hq
  subst hz
  intro p l e s m args below meth c Q D cs A C ad H locs lsA hH hV hF
  have hx := g_hd (g_tl hV.2.2)
  have hy := g_hd hV.2.2
  have hk := k p l e s m args below meth c Q D cs A C ad H locs lsA hH (g_V_st hV (g_st1 (v := g_i (g_w (x + y))) (g_w_rg _) (g_tl (g_tl hV.2.2)))) hF
  have e9 : g_val ad (g_i (g_w (x + y))) = .int (Int32.ofInt x + Int32.ofInt y) := by
    show Value.int (Int32.ofInt (g_w (x + y))) = _
    rw [g_ofw, Int32.ofInt_add]
  rw [List.map_cons, e9] at hk
  exact lv_iadd C.1.1 C.1.2.1 h hk

theorem ev_isub {x y z : Int} (h : decode Me.2.1 pc = .ok (.isub, 1)) (hq : pc + 1 = q) (hz : g_w (x - y) = z) (k : Ev Me R Fi q ls (g_i z :: st) L M nc ns) : Ev Me R Fi pc ls (g_i y :: g_i x :: st) L M nc ns := by
  subst hq
  subst hz
  intro p l e s m args below meth c Q D cs A C ad H locs lsA hH hV hF
  have hx := g_hd (g_tl hV.2.2)
  have hy := g_hd hV.2.2
  have hk := k p l e s m args below meth c Q D cs A C ad H locs lsA hH (g_V_st hV (g_st1 (v := g_i (g_w (x - y))) (g_w_rg _) (g_tl (g_tl hV.2.2)))) hF
  have e9 : g_val ad (g_i (g_w (x - y))) = .int (Int32.ofInt x - Int32.ofInt y) := by
    show Value.int (Int32.ofInt (g_w (x - y))) = _
    rw [g_ofw, Int32.ofInt_sub]
  rw [List.map_cons, e9] at hk
  exact lv_isub C.1.1 C.1.2.1 h hk

theorem ev_imul {x y z : Int} (h : decode Me.2.1 pc = .ok (.imul, 1)) (hq : pc + 1 = q) (hz : g_w (x * y) = z) (k : Ev Me R Fi q ls (g_i z :: st) L M nc ns) : Ev Me R Fi pc ls (g_i y :: g_i x :: st) L M nc ns := by
  subst hq
  subst hz
  intro p l e s m args below meth c Q D cs A C ad H locs lsA hH hV hF
  have hx := g_hd (g_tl hV.2.2)
  have hy := g_hd hV.2.2
  have hk := k p l e s m args below meth c Q D cs A C ad H locs lsA hH (g_V_st hV (g_st1 (v := g_i (g_w (x * y))) (g_w_rg _) (g_tl (g_tl hV.2.2)))) hF
  have e9 : g_val ad (g_i (g_w (x * y))) = .int (Int32.ofInt x * Int32.ofInt y) := by
    show Value.int (Int32.ofInt (g_w (x * y))) = _
    rw [g_ofw, Int32.ofInt_mul]
  rw [List.map_cons, e9] at hk
  exact lv_imul C.1.1 C.1.2.1 h hk

theorem ev_iand {x y z : Int} (h : decode Me.2.1 pc = .ok (.iand, 1)) (hq : pc + 1 = q) (hz : g_b (fun a b => a &&& b) x y = z) (k : Ev Me R Fi q ls (g_i z :: st) L M nc ns) : Ev Me R Fi pc ls (g_i y :: g_i x :: st) L M nc ns := by
  subst hq
  subst hz
  intro p l e s m args below meth c Q D cs A C ad H locs lsA hH hV hF
  have hx := g_hd (g_tl hV.2.2)
  have hy := g_hd hV.2.2
  have hk := k p l e s m args below meth c Q D cs A C ad H locs lsA hH (g_V_st hV (g_st1 (v := g_i (g_b (fun a b => a &&& b) x y)) (g_b_rg _ _ _) (g_tl (g_tl hV.2.2)))) hF
  have e9 : g_val ad (g_i (g_b (fun a b => a &&& b) x y)) = .int (Int32.ofInt x &&& Int32.ofInt y) := by
    show Value.int (Int32.ofInt (g_b (fun a b => a &&& b) x y)) = _
    rw [g_ofb]
  rw [List.map_cons, e9] at hk
  exact lv_iand C.1.1 C.1.2.1 h hk

theorem ev_ior {x y z : Int} (h : decode Me.2.1 pc = .ok (.ior, 1)) (hq : pc + 1 = q) (hz : g_b (fun a b => a ||| b) x y = z) (k : Ev Me R Fi q ls (g_i z :: st) L M nc ns) : Ev Me R Fi pc ls (g_i y :: g_i x :: st) L M nc ns := by
  subst hq
  subst hz
  intro p l e s m args below meth c Q D cs A C ad H locs lsA hH hV hF
  have hx := g_hd (g_tl hV.2.2)
  have hy := g_hd hV.2.2
  have hk := k p l e s m args below meth c Q D cs A C ad H locs lsA hH (g_V_st hV (g_st1 (v := g_i (g_b (fun a b => a ||| b) x y)) (g_b_rg _ _ _) (g_tl (g_tl hV.2.2)))) hF
  have e9 : g_val ad (g_i (g_b (fun a b => a ||| b) x y)) = .int (Int32.ofInt x ||| Int32.ofInt y) := by
    show Value.int (Int32.ofInt (g_b (fun a b => a ||| b) x y)) = _
    rw [g_ofb]
  rw [List.map_cons, e9] at hk
  exact lv_ior C.1.1 C.1.2.1 h hk

theorem ev_ixor {x y z : Int} (h : decode Me.2.1 pc = .ok (.ixor, 1)) (hq : pc + 1 = q) (hz : g_b (fun a b => a ^^^ b) x y = z) (k : Ev Me R Fi q ls (g_i z :: st) L M nc ns) : Ev Me R Fi pc ls (g_i y :: g_i x :: st) L M nc ns := by
  subst hq
  subst hz
  intro p l e s m args below meth c Q D cs A C ad H locs lsA hH hV hF
  have hx := g_hd (g_tl hV.2.2)
  have hy := g_hd hV.2.2
  have hk := k p l e s m args below meth c Q D cs A C ad H locs lsA hH (g_V_st hV (g_st1 (v := g_i (g_b (fun a b => a ^^^ b) x y)) (g_b_rg _ _ _) (g_tl (g_tl hV.2.2)))) hF
  have e9 : g_val ad (g_i (g_b (fun a b => a ^^^ b) x y)) = .int (Int32.ofInt x ^^^ Int32.ofInt y) := by
    show Value.int (Int32.ofInt (g_b (fun a b => a ^^^ b) x y)) = _
    rw [g_ofb]
  rw [List.map_cons, e9] at hk
  exact lv_ixor C.1.1 C.1.2.1 h hk

theorem ev_ishl {x y z : Int} (h : decode Me.2.1 pc = .ok (.ishl, 1)) (hq : pc + 1 = q) (hz : g_b (fun a b => a <<< (b &&& 31)) x y = z) (k : Ev Me R Fi q ls (g_i z :: st) L M nc ns) : Ev Me R Fi pc ls (g_i y :: g_i x :: st) L M nc ns := by
  subst hq
  subst hz
  intro p l e s m args below meth c Q D cs A C ad H locs lsA hH hV hF
  have hx := g_hd (g_tl hV.2.2)
  have hy := g_hd hV.2.2
  have hk := k p l e s m args below meth c Q D cs A C ad H locs lsA hH (g_V_st hV (g_st1 (v := g_i (g_b (fun a b => a <<< (b &&& 31)) x y)) (g_b_rg _ _ _) (g_tl (g_tl hV.2.2)))) hF
  have e9 : g_val ad (g_i (g_b (fun a b => a <<< (b &&& 31)) x y)) = .int (Int32.ofInt x <<< (Int32.ofInt y &&& 31)) := by
    show Value.int (Int32.ofInt (g_b (fun a b => a <<< (b &&& 31)) x y)) = _
    rw [g_ofb]
  rw [List.map_cons, e9] at hk
  exact lv_ishl C.1.1 C.1.2.1 h hk

theorem ev_ishr {x y z : Int} (h : decode Me.2.1 pc = .ok (.ishr, 1)) (hq : pc + 1 = q) (hz : g_b (fun a b => a >>> (b &&& 31)) x y = z) (k : Ev Me R Fi q ls (g_i z :: st) L M nc ns) : Ev Me R Fi pc ls (g_i y :: g_i x :: st) L M nc ns := by
  subst hq
  subst hz
  intro p l e s m args below meth c Q D cs A C ad H locs lsA hH hV hF
  have hx := g_hd (g_tl hV.2.2)
  have hy := g_hd hV.2.2
  have hk := k p l e s m args below meth c Q D cs A C ad H locs lsA hH (g_V_st hV (g_st1 (v := g_i (g_b (fun a b => a >>> (b &&& 31)) x y)) (g_b_rg _ _ _) (g_tl (g_tl hV.2.2)))) hF
  have e9 : g_val ad (g_i (g_b (fun a b => a >>> (b &&& 31)) x y)) = .int (Int32.ofInt x >>> (Int32.ofInt y &&& 31)) := by
    show Value.int (Int32.ofInt (g_b (fun a b => a >>> (b &&& 31)) x y)) = _
    rw [g_ofb]
  rw [List.map_cons, e9] at hk
  exact lv_ishr C.1.1 C.1.2.1 h hk

theorem ev_idiv {x y z : Int} (h : decode Me.2.1 pc = .ok (.idiv, 1)) (hq : pc + 1 = q) (hne : y ≠ 0) (hz : g_b (fun a b => a / b) x y = z) (k : Ev Me R Fi q ls (g_i z :: st) L M nc ns) : Ev Me R Fi pc ls (g_i y :: g_i x :: st) L M nc ns := by
  subst hq
  subst hz
  intro p l e s m args below meth c Q D cs A C ad H locs lsA hH hV hF
  have hx := g_hd (g_tl hV.2.2)
  have hy := g_hd hV.2.2
  have hk := k p l e s m args below meth c Q D cs A C ad H locs lsA hH (g_V_st hV (g_st1 (v := g_i (g_b (fun a b => a / b) x y)) (g_b_rg _ _ _) (g_tl (g_tl hV.2.2)))) hF
  have e9 : g_val ad (g_i (g_b (fun a b => a / b) x y)) = .int (Int32.ofInt x / Int32.ofInt y) := by
    show Value.int (Int32.ofInt (g_b (fun a b => a / b) x y)) = _
    rw [g_ofb]
  rw [List.map_cons, e9] at hk
  exact lv_idiv C.1.1 C.1.2.1 h (fun e0 => hne ((g_eqI (y := 0) hy g_rg0).mp e0)) hk

theorem ev_irem {x y z : Int} (h : decode Me.2.1 pc = .ok (.irem, 1)) (hq : pc + 1 = q) (hne : y ≠ 0) (hz : g_b (fun a b => a - a / b * b) x y = z) (k : Ev Me R Fi q ls (g_i z :: st) L M nc ns) : Ev Me R Fi pc ls (g_i y :: g_i x :: st) L M nc ns := by
  subst hq
  subst hz
  intro p l e s m args below meth c Q D cs A C ad H locs lsA hH hV hF
  have hx := g_hd (g_tl hV.2.2)
  have hy := g_hd hV.2.2
  have hk := k p l e s m args below meth c Q D cs A C ad H locs lsA hH (g_V_st hV (g_st1 (v := g_i (g_b (fun a b => a - a / b * b) x y)) (g_b_rg _ _ _) (g_tl (g_tl hV.2.2)))) hF
  have e9 : g_val ad (g_i (g_b (fun a b => a - a / b * b) x y)) = .int (Int32.ofInt x - Int32.ofInt x / Int32.ofInt y * Int32.ofInt y) := by
    show Value.int (Int32.ofInt (g_b (fun a b => a - a / b * b) x y)) = _
    rw [g_ofb]
  rw [List.map_cons, e9] at hk
  exact lv_irem C.1.1 C.1.2.1 h (fun e0 => hne ((g_eqI (y := 0) hy g_rg0).mp e0)) hk

theorem ev_iushr {x y z : Int} (h : decode Me.2.1 pc = .ok (.iushr, 1)) (hq : pc + 1 = q) (hz : g_b (fun a b => (a.toUInt32 >>> (b.toUInt32 &&& Int32.toUInt32 31)).toInt32) x y = z) (k : Ev Me R Fi q ls (g_i z :: st) L M nc ns) : Ev Me R Fi pc ls (g_i y :: g_i x :: st) L M nc ns := by
  subst hq
  subst hz
  intro p l e s m args below meth c Q D cs A C ad H locs lsA hH hV hF
  refine lv_iushr C.1.1 C.1.2.1 h (v := Int32.ofInt (g_b (fun a b => (a.toUInt32 >>> (b.toUInt32 &&& Int32.toUInt32 31)).toInt32) x y)) (by rw [g_ofb]) ?_
  exact k p l e s m args below meth c Q D cs A C ad H locs lsA hH (g_V_st hV (g_st1 (g_b_rg _ _ _) (g_tl (g_tl hV.2.2)))) hF

theorem ev_dup {v : g_v} (h : decode Me.2.1 pc = .ok (.dup, 1)) (hq : pc + 1 = q) (hj : g_nj v = true) (k : Ev Me R Fi q ls (v :: v :: st) L M nc ns) : Ev Me R Fi pc ls (v :: st) L M nc ns := by
  subst hq
  intro p l e s m args below meth c Q D cs A C ad H locs lsA hH hV hF
  exact lv_dup C.1.1 C.1.2.1 h (g_nj_cat hj) (k p l e s m args below meth c Q D cs A C ad H locs lsA hH (g_V_st hV (g_st1 (g_hd hV.2.2) hV.2.2)) hF)
theorem ev_pop {v : g_v} (h : decode Me.2.1 pc = .ok (.pop, 1)) (hq : pc + 1 = q) (hj : g_nj v = true) (k : Ev Me R Fi q ls st L M nc ns) : Ev Me R Fi pc ls (v :: st) L M nc ns := by
  subst hq
  intro p l e s m args below meth c Q D cs A C ad H locs lsA hH hV hF
  exact lv_pop C.1.1 C.1.2.1 h (g_nj_cat hj) (k p l e s m args below meth c Q D cs A C ad H locs lsA hH (g_V_st hV (g_tl hV.2.2)) hF)
theorem ev_dup_x1 {v w : g_v} (h : decode Me.2.1 pc = .ok (.dup_x1, 1)) (hq : pc + 1 = q) (hj : g_nj v = true) (hj2 : g_nj w = true) (k : Ev Me R Fi q ls (v :: w :: v :: st) L M nc ns) : Ev Me R Fi pc ls (v :: w :: st) L M nc ns := by
  subst hq
  intro p l e s m args below meth c Q D cs A C ad H locs lsA hH hV hF
  exact lv_dup_x1 C.1.1 C.1.2.1 h (g_nj_cat hj) (g_nj_cat hj2) (k p l e s m args below meth c Q D cs A C ad H locs lsA hH (g_V_st hV (g_st1 (g_hd hV.2.2) (g_st1 (g_hd (g_tl hV.2.2)) (g_st1 (g_hd hV.2.2) (g_tl (g_tl hV.2.2)))))) hF)
theorem ev_dup_x2 {v w u : g_v} (h : decode Me.2.1 pc = .ok (.dup_x2, 1)) (hq : pc + 1 = q) (hj : g_nj v = true) (hj2 : g_nj w = true) (hj3 : g_nj u = true) (k : Ev Me R Fi q ls (v :: w :: u :: v :: st) L M nc ns) : Ev Me R Fi pc ls (v :: w :: u :: st) L M nc ns := by
  subst hq
  intro p l e s m args below meth c Q D cs A C ad H locs lsA hH hV hF
  exact lv_dup_x2 C.1.1 C.1.2.1 h (g_nj_cat hj) (g_nj_cat hj2) (g_nj_cat hj3) (k p l e s m args below meth c Q D cs A C ad H locs lsA hH (g_V_st hV (g_st1 (g_hd hV.2.2) (g_st1 (g_hd (g_tl hV.2.2)) (g_st1 (g_hd (g_tl (g_tl hV.2.2))) (g_st1 (g_hd hV.2.2) (g_tl (g_tl (g_tl hV.2.2)))))))) hF)
theorem ev_dup2 {v w : g_v} (h : decode Me.2.1 pc = .ok (.dup2, 1)) (hq : pc + 1 = q) (hj : g_nj v = true) (hj2 : g_nj w = true) (k : Ev Me R Fi q ls (v :: w :: v :: w :: st) L M nc ns) : Ev Me R Fi pc ls (v :: w :: st) L M nc ns := by
  subst hq
  intro p l e s m args below meth c Q D cs A C ad H locs lsA hH hV hF
  exact lv_dup2_11 C.1.1 C.1.2.1 h (g_nj_cat hj) (g_nj_cat hj2) (k p l e s m args below meth c Q D cs A C ad H locs lsA hH (g_V_st hV (g_st1 (g_hd hV.2.2) (g_st1 (g_hd (g_tl hV.2.2)) hV.2.2))) hF)

theorem ev_icmp_eq {x y : Int} {off : Int} {tgt : Nat} (h : decode Me.2.1 pc = .ok (.if_icmp .eq off, 3)) (ht : (pc : Int) + off = (tgt : Int)) (hq : pc + 3 = q) (kt : x = y → Ev Me R Fi tgt ls st L M nc ns) (kf : ¬ x = y → Ev Me R Fi q ls st L M nc ns) : Ev Me R Fi pc ls (g_i y :: g_i x :: st) L M nc ns := by
  subst hq
  intro p l e s m args below meth c Q D cs A C ad H locs lsA hH hV hF
  have hx : g_rg x := g_hd (g_tl hV.2.2)
  have hy : g_rg y := g_hd hV.2.2
  have iff9 : Int32.ofInt x = Int32.ofInt y ↔ x = y := g_eqI (x := x) (y := y) hx hy
  exact lv_icmp_eq C.1.1 C.1.2.1 h ht (fun h9 => kt (iff9.mp h9) p l e s m args below meth c Q D cs A C ad H locs lsA hH (g_V_st hV (g_tl (g_tl hV.2.2))) hF) (fun h9 => kf (fun e9 => h9 (iff9.mpr e9)) p l e s m args below meth c Q D cs A C ad H locs lsA hH (g_V_st hV (g_tl (g_tl hV.2.2))) hF)
theorem ev_icmp_eq_t {x y : Int} {off : Int} {tgt : Nat} (h : decode Me.2.1 pc = .ok (.if_icmp .eq off, 3)) (ht : (pc : Int) + off = (tgt : Int)) (hc : x = y) (k : Ev Me R Fi tgt ls st L M nc ns) : Ev Me R Fi pc ls (g_i y :: g_i x :: st) L M nc ns :=
  ev_icmp_eq h ht rfl (fun _ => k) (fun h9 => absurd hc h9)
theorem ev_icmp_eq_f {x y : Int} {off : Int} {tgt : Nat} (h : decode Me.2.1 pc = .ok (.if_icmp .eq off, 3)) (ht : (pc : Int) + off = (tgt : Int)) (hq : pc + 3 = q) (hc : ¬ x = y) (k : Ev Me R Fi q ls st L M nc ns) : Ev Me R Fi pc ls (g_i y :: g_i x :: st) L M nc ns :=
  ev_icmp_eq h ht hq (fun h9 => absurd h9 hc) (fun _ => k)

theorem ev_if_eq {x : Int} {off : Int} {tgt : Nat} (h : decode Me.2.1 pc = .ok (.ifCond .eq off, 3)) (ht : (pc : Int) + off = (tgt : Int)) (hq : pc + 3 = q) (kt : x = 0 → Ev Me R Fi tgt ls st L M nc ns) (kf : ¬ x = 0 → Ev Me R Fi q ls st L M nc ns) : Ev Me R Fi pc ls (g_i x :: st) L M nc ns := by
  subst hq
  intro p l e s m args below meth c Q D cs A C ad H locs lsA hH hV hF
  have hx : g_rg x := g_hd hV.2.2
  have iff9 : Int32.ofInt x = 0 ↔ x = 0 := g_eqI (x := x) (y := 0) hx g_rg0
  exact lv_if_eq C.1.1 C.1.2.1 h ht (fun h9 => kt (iff9.mp h9) p l e s m args below meth c Q D cs A C ad H locs lsA hH (g_V_st hV (g_tl hV.2.2)) hF) (fun h9 => kf (fun e9 => h9 (iff9.mpr e9)) p l e s m args below meth c Q D cs A C ad H locs lsA hH (g_V_st hV (g_tl hV.2.2)) hF)
theorem ev_if_eq_t {x : Int} {off : Int} {tgt : Nat} (h : decode Me.2.1 pc = .ok (.ifCond .eq off, 3)) (ht : (pc : Int) + off = (tgt : Int)) (hc : x = 0) (k : Ev Me R Fi tgt ls st L M nc ns) : Ev Me R Fi pc ls (g_i x :: st) L M nc ns :=
  ev_if_eq h ht rfl (fun _ => k) (fun h9 => absurd hc h9)
theorem ev_if_eq_f {x : Int} {off : Int} {tgt : Nat} (h : decode Me.2.1 pc = .ok (.ifCond .eq off, 3)) (ht : (pc : Int) + off = (tgt : Int)) (hq : pc + 3 = q) (hc : ¬ x = 0) (k : Ev Me R Fi q ls st L M nc ns) : Ev Me R Fi pc ls (g_i x :: st) L M nc ns :=
  ev_if_eq h ht hq (fun h9 => absurd h9 hc) (fun _ => k)

theorem ev_icmp_ne {x y : Int} {off : Int} {tgt : Nat} (h : decode Me.2.1 pc = .ok (.if_icmp .ne off, 3)) (ht : (pc : Int) + off = (tgt : Int)) (hq : pc + 3 = q) (kt : x ≠ y → Ev Me R Fi tgt ls st L M nc ns) (kf : x = y → Ev Me R Fi q ls st L M nc ns) : Ev Me R Fi pc ls (g_i y :: g_i x :: st) L M nc ns := by
  subst hq
  intro p l e s m args below meth c Q D cs A C ad H locs lsA hH hV hF
  have hx : g_rg x := g_hd (g_tl hV.2.2)
  have hy : g_rg y := g_hd hV.2.2
  have iff9 : Int32.ofInt x = Int32.ofInt y ↔ x = y := g_eqI (x := x) (y := y) hx hy
  exact lv_icmp_ne C.1.1 C.1.2.1 h ht (fun h9 => kt (fun e9 => h9 (iff9.mpr e9)) p l e s m args below meth c Q D cs A C ad H locs lsA hH (g_V_st hV (g_tl (g_tl hV.2.2))) hF) (fun h9 => kf (iff9.mp h9) p l e s m args below meth c Q D cs A C ad H locs lsA hH (g_V_st hV (g_tl (g_tl hV.2.2))) hF)
theorem ev_icmp_ne_t {x y : Int} {off : Int} {tgt : Nat} (h : decode Me.2.1 pc = .ok (.if_icmp .ne off, 3)) (ht : (pc : Int) + off = (tgt : Int)) (hc : x ≠ y) (k : Ev Me R Fi tgt ls st L M nc ns) : Ev Me R Fi pc ls (g_i y :: g_i x :: st) L M nc ns :=
  ev_icmp_ne h ht rfl (fun _ => k) (fun h9 => absurd hc (fun e9 => e9 h9))
theorem ev_icmp_ne_f {x y : Int} {off : Int} {tgt : Nat} (h : decode Me.2.1 pc = .ok (.if_icmp .ne off, 3)) (ht : (pc : Int) + off = (tgt : Int)) (hq : pc + 3 = q) (hc : x = y) (k : Ev Me R Fi q ls st L M nc ns) : Ev Me R Fi pc ls (g_i y :: g_i x :: st) L M nc ns :=
  ev_icmp_ne h ht hq (fun h9 => absurd hc h9) (fun _ => k)

theorem ev_if_ne {x : Int} {off : Int} {tgt : Nat} (h : decode Me.2.1 pc = .ok (.ifCond .ne off, 3)) (ht : (pc : Int) + off = (tgt : Int)) (hq : pc + 3 = q) (kt : x ≠ 0 → Ev Me R Fi tgt ls st L M nc ns) (kf : x = 0 → Ev Me R Fi q ls st L M nc ns) : Ev Me R Fi pc ls (g_i x :: st) L M nc ns := by
  subst hq
  intro p l e s m args below meth c Q D cs A C ad H locs lsA hH hV hF
  have hx : g_rg x := g_hd hV.2.2
  have iff9 : Int32.ofInt x = 0 ↔ x = 0 := g_eqI (x := x) (y := 0) hx g_rg0
  exact lv_if_ne C.1.1 C.1.2.1 h ht (fun h9 => kt (fun e9 => h9 (iff9.mpr e9)) p l e s m args below meth c Q D cs A C ad H locs lsA hH (g_V_st hV (g_tl hV.2.2)) hF) (fun h9 => kf (iff9.mp h9) p l e s m args below meth c Q D cs A C ad H locs lsA hH (g_V_st hV (g_tl hV.2.2)) hF)
theorem ev_if_ne_t {x : Int} {off : Int} {tgt : Nat} (h : decode Me.2.1 pc = .ok (.ifCond .ne off, 3)) (ht : (pc : Int) + off = (tgt : Int)) (hc : x ≠ 0) (k : Ev Me R Fi tgt ls st L M nc ns) : Ev Me R Fi pc ls (g_i x :: st) L M nc ns :=
  ev_if_ne h ht rfl (fun _ => k) (fun h9 => absurd hc (fun e9 => e9 h9))
theorem ev_if_ne_f {x : Int} {off : Int} {tgt : Nat} (h : decode Me.2.1 pc = .ok (.ifCond .ne off, 3)) (ht : (pc : Int) + off = (tgt : Int)) (hq : pc + 3 = q) (hc : x = 0) (k : Ev Me R Fi q ls st L M nc ns) : Ev Me R Fi pc ls (g_i x :: st) L M nc ns :=
  ev_if_ne h ht hq (fun h9 => absurd hc h9) (fun _ => k)

theorem ev_icmp_lt {x y : Int} {off : Int} {tgt : Nat} (h : decode Me.2.1 pc = .ok (.if_icmp .lt off, 3)) (ht : (pc : Int) + off = (tgt : Int)) (hq : pc + 3 = q) (kt : x < y → Ev Me R Fi tgt ls st L M nc ns) (kf : ¬ x < y → Ev Me R Fi q ls st L M nc ns) : Ev Me R Fi pc ls (g_i y :: g_i x :: st) L M nc ns := by
  subst hq
  intro p l e s m args below meth c Q D cs A C ad H locs lsA hH hV hF
  have hx : g_rg x := g_hd (g_tl hV.2.2)
  have hy : g_rg y := g_hd hV.2.2
  have iff9 : Int32.ofInt x < Int32.ofInt y ↔ x < y := g_ltI (x := x) (y := y) hx hy
  exact lv_icmp_lt C.1.1 C.1.2.1 h ht (fun h9 => kt (iff9.mp h9) p l e s m args below meth c Q D cs A C ad H locs lsA hH (g_V_st hV (g_tl (g_tl hV.2.2))) hF) (fun h9 => kf (fun e9 => h9 (iff9.mpr e9)) p l e s m args below meth c Q D cs A C ad H locs lsA hH (g_V_st hV (g_tl (g_tl hV.2.2))) hF)
theorem ev_icmp_lt_t {x y : Int} {off : Int} {tgt : Nat} (h : decode Me.2.1 pc = .ok (.if_icmp .lt off, 3)) (ht : (pc : Int) + off = (tgt : Int)) (hc : x < y) (k : Ev Me R Fi tgt ls st L M nc ns) : Ev Me R Fi pc ls (g_i y :: g_i x :: st) L M nc ns :=
  ev_icmp_lt h ht rfl (fun _ => k) (fun h9 => absurd hc h9)
theorem ev_icmp_lt_f {x y : Int} {off : Int} {tgt : Nat} (h : decode Me.2.1 pc = .ok (.if_icmp .lt off, 3)) (ht : (pc : Int) + off = (tgt : Int)) (hq : pc + 3 = q) (hc : ¬ x < y) (k : Ev Me R Fi q ls st L M nc ns) : Ev Me R Fi pc ls (g_i y :: g_i x :: st) L M nc ns :=
  ev_icmp_lt h ht hq (fun h9 => absurd h9 hc) (fun _ => k)

theorem ev_if_lt {x : Int} {off : Int} {tgt : Nat} (h : decode Me.2.1 pc = .ok (.ifCond .lt off, 3)) (ht : (pc : Int) + off = (tgt : Int)) (hq : pc + 3 = q) (kt : x < 0 → Ev Me R Fi tgt ls st L M nc ns) (kf : ¬ x < 0 → Ev Me R Fi q ls st L M nc ns) : Ev Me R Fi pc ls (g_i x :: st) L M nc ns := by
  subst hq
  intro p l e s m args below meth c Q D cs A C ad H locs lsA hH hV hF
  have hx : g_rg x := g_hd hV.2.2
  have iff9 : Int32.ofInt x < 0 ↔ x < 0 := g_ltI (x := x) (y := 0) hx g_rg0
  exact lv_if_lt C.1.1 C.1.2.1 h ht (fun h9 => kt (iff9.mp h9) p l e s m args below meth c Q D cs A C ad H locs lsA hH (g_V_st hV (g_tl hV.2.2)) hF) (fun h9 => kf (fun e9 => h9 (iff9.mpr e9)) p l e s m args below meth c Q D cs A C ad H locs lsA hH (g_V_st hV (g_tl hV.2.2)) hF)
theorem ev_if_lt_t {x : Int} {off : Int} {tgt : Nat} (h : decode Me.2.1 pc = .ok (.ifCond .lt off, 3)) (ht : (pc : Int) + off = (tgt : Int)) (hc : x < 0) (k : Ev Me R Fi tgt ls st L M nc ns) : Ev Me R Fi pc ls (g_i x :: st) L M nc ns :=
  ev_if_lt h ht rfl (fun _ => k) (fun h9 => absurd hc h9)
theorem ev_if_lt_f {x : Int} {off : Int} {tgt : Nat} (h : decode Me.2.1 pc = .ok (.ifCond .lt off, 3)) (ht : (pc : Int) + off = (tgt : Int)) (hq : pc + 3 = q) (hc : ¬ x < 0) (k : Ev Me R Fi q ls st L M nc ns) : Ev Me R Fi pc ls (g_i x :: st) L M nc ns :=
  ev_if_lt h ht hq (fun h9 => absurd h9 hc) (fun _ => k)

theorem ev_icmp_ge {x y : Int} {off : Int} {tgt : Nat} (h : decode Me.2.1 pc = .ok (.if_icmp .ge off, 3)) (ht : (pc : Int) + off = (tgt : Int)) (hq : pc + 3 = q) (kt : y ≤ x → Ev Me R Fi tgt ls st L M nc ns) (kf : ¬ y ≤ x → Ev Me R Fi q ls st L M nc ns) : Ev Me R Fi pc ls (g_i y :: g_i x :: st) L M nc ns := by
  subst hq
  intro p l e s m args below meth c Q D cs A C ad H locs lsA hH hV hF
  have hx : g_rg x := g_hd (g_tl hV.2.2)
  have hy : g_rg y := g_hd hV.2.2
  have iff9 : Int32.ofInt y ≤ Int32.ofInt x ↔ y ≤ x := g_leI (x := y) (y := x) hy hx
  exact lv_icmp_ge C.1.1 C.1.2.1 h ht (fun h9 => kt (iff9.mp h9) p l e s m args below meth c Q D cs A C ad H locs lsA hH (g_V_st hV (g_tl (g_tl hV.2.2))) hF) (fun h9 => kf (fun e9 => h9 (iff9.mpr e9)) p l e s m args below meth c Q D cs A C ad H locs lsA hH (g_V_st hV (g_tl (g_tl hV.2.2))) hF)
theorem ev_icmp_ge_t {x y : Int} {off : Int} {tgt : Nat} (h : decode Me.2.1 pc = .ok (.if_icmp .ge off, 3)) (ht : (pc : Int) + off = (tgt : Int)) (hc : y ≤ x) (k : Ev Me R Fi tgt ls st L M nc ns) : Ev Me R Fi pc ls (g_i y :: g_i x :: st) L M nc ns :=
  ev_icmp_ge h ht rfl (fun _ => k) (fun h9 => absurd hc h9)
theorem ev_icmp_ge_f {x y : Int} {off : Int} {tgt : Nat} (h : decode Me.2.1 pc = .ok (.if_icmp .ge off, 3)) (ht : (pc : Int) + off = (tgt : Int)) (hq : pc + 3 = q) (hc : ¬ y ≤ x) (k : Ev Me R Fi q ls st L M nc ns) : Ev Me R Fi pc ls (g_i y :: g_i x :: st) L M nc ns :=
  ev_icmp_ge h ht hq (fun h9 => absurd h9 hc) (fun _ => k)

theorem ev_if_ge {x : Int} {off : Int} {tgt : Nat} (h : decode Me.2.1 pc = .ok (.ifCond .ge off, 3)) (ht : (pc : Int) + off = (tgt : Int)) (hq : pc + 3 = q) (kt : 0 ≤ x → Ev Me R Fi tgt ls st L M nc ns) (kf : ¬ 0 ≤ x → Ev Me R Fi q ls st L M nc ns) : Ev Me R Fi pc ls (g_i x :: st) L M nc ns := by
  subst hq
  intro p l e s m args below meth c Q D cs A C ad H locs lsA hH hV hF
  have hx : g_rg x := g_hd hV.2.2
  have iff9 : 0 ≤ Int32.ofInt x ↔ 0 ≤ x := g_leI (x := 0) (y := x) g_rg0 hx
  exact lv_if_ge C.1.1 C.1.2.1 h ht (fun h9 => kt (iff9.mp h9) p l e s m args below meth c Q D cs A C ad H locs lsA hH (g_V_st hV (g_tl hV.2.2)) hF) (fun h9 => kf (fun e9 => h9 (iff9.mpr e9)) p l e s m args below meth c Q D cs A C ad H locs lsA hH (g_V_st hV (g_tl hV.2.2)) hF)
theorem ev_if_ge_t {x : Int} {off : Int} {tgt : Nat} (h : decode Me.2.1 pc = .ok (.ifCond .ge off, 3)) (ht : (pc : Int) + off = (tgt : Int)) (hc : 0 ≤ x) (k : Ev Me R Fi tgt ls st L M nc ns) : Ev Me R Fi pc ls (g_i x :: st) L M nc ns :=
  ev_if_ge h ht rfl (fun _ => k) (fun h9 => absurd hc h9)
theorem ev_if_ge_f {x : Int} {off : Int} {tgt : Nat} (h : decode Me.2.1 pc = .ok (.ifCond .ge off, 3)) (ht : (pc : Int) + off = (tgt : Int)) (hq : pc + 3 = q) (hc : ¬ 0 ≤ x) (k : Ev Me R Fi q ls st L M nc ns) : Ev Me R Fi pc ls (g_i x :: st) L M nc ns :=
  ev_if_ge h ht hq (fun h9 => absurd h9 hc) (fun _ => k)

theorem ev_icmp_gt {x y : Int} {off : Int} {tgt : Nat} (h : decode Me.2.1 pc = .ok (.if_icmp .gt off, 3)) (ht : (pc : Int) + off = (tgt : Int)) (hq : pc + 3 = q) (kt : y < x → Ev Me R Fi tgt ls st L M nc ns) (kf : ¬ y < x → Ev Me R Fi q ls st L M nc ns) : Ev Me R Fi pc ls (g_i y :: g_i x :: st) L M nc ns := by
  subst hq
  intro p l e s m args below meth c Q D cs A C ad H locs lsA hH hV hF
  have hx : g_rg x := g_hd (g_tl hV.2.2)
  have hy : g_rg y := g_hd hV.2.2
  have iff9 : Int32.ofInt y < Int32.ofInt x ↔ y < x := g_ltI (x := y) (y := x) hy hx
  exact lv_icmp_gt C.1.1 C.1.2.1 h ht (fun h9 => kt (iff9.mp h9) p l e s m args below meth c Q D cs A C ad H locs lsA hH (g_V_st hV (g_tl (g_tl hV.2.2))) hF) (fun h9 => kf (fun e9 => h9 (iff9.mpr e9)) p l e s m args below meth c Q D cs A C ad H locs lsA hH (g_V_st hV (g_tl (g_tl hV.2.2))) hF)
theorem ev_icmp_gt_t {x y : Int} {off : Int} {tgt : Nat} (h : decode Me.2.1 pc = .ok (.if_icmp .gt off, 3)) (ht : (pc : Int) + off = (tgt : Int)) (hc : y < x) (k : Ev Me R Fi tgt ls st L M nc ns) : Ev Me R Fi pc ls (g_i y :: g_i x :: st) L M nc ns :=
  ev_icmp_gt h ht rfl (fun _ => k) (fun h9 => absurd hc h9)
theorem ev_icmp_gt_f {x y : Int} {off : Int} {tgt : Nat} (h : decode Me.2.1 pc = .ok (.if_icmp .gt off, 3)) (ht : (pc : Int) + off = (tgt : Int)) (hq : pc + 3 = q) (hc : ¬ y < x) (k : Ev Me R Fi q ls st L M nc ns) : Ev Me R Fi pc ls (g_i y :: g_i x :: st) L M nc ns :=
  ev_icmp_gt h ht hq (fun h9 => absurd h9 hc) (fun _ => k)

theorem ev_if_gt {x : Int} {off : Int} {tgt : Nat} (h : decode Me.2.1 pc = .ok (.ifCond .gt off, 3)) (ht : (pc : Int) + off = (tgt : Int)) (hq : pc + 3 = q) (kt : 0 < x → Ev Me R Fi tgt ls st L M nc ns) (kf : ¬ 0 < x → Ev Me R Fi q ls st L M nc ns) : Ev Me R Fi pc ls (g_i x :: st) L M nc ns := by
  subst hq
  intro p l e s m args below meth c Q D cs A C ad H locs lsA hH hV hF
  have hx : g_rg x := g_hd hV.2.2
  have iff9 : 0 < Int32.ofInt x ↔ 0 < x := g_ltI (x := 0) (y := x) g_rg0 hx
  exact lv_if_gt C.1.1 C.1.2.1 h ht (fun h9 => kt (iff9.mp h9) p l e s m args below meth c Q D cs A C ad H locs lsA hH (g_V_st hV (g_tl hV.2.2)) hF) (fun h9 => kf (fun e9 => h9 (iff9.mpr e9)) p l e s m args below meth c Q D cs A C ad H locs lsA hH (g_V_st hV (g_tl hV.2.2)) hF)
theorem ev_if_gt_t {x : Int} {off : Int} {tgt : Nat} (h : decode Me.2.1 pc = .ok (.ifCond .gt off, 3)) (ht : (pc : Int) + off = (tgt : Int)) (hc : 0 < x) (k : Ev Me R Fi tgt ls st L M nc ns) : Ev Me R Fi pc ls (g_i x :: st) L M nc ns :=
  ev_if_gt h ht rfl (fun _ => k) (fun h9 => absurd hc h9)
theorem ev_if_gt_f {x : Int} {off : Int} {tgt : Nat} (h : decode Me.2.1 pc = .ok (.ifCond .gt off, 3)) (ht : (pc : Int) + off = (tgt : Int)) (hq : pc + 3 = q) (hc : ¬ 0 < x) (k : Ev Me R Fi q ls st L M nc ns) : Ev Me R Fi pc ls (g_i x :: st) L M nc ns :=
  ev_if_gt h ht hq (fun h9 => absurd h9 hc) (fun _ => k)

theorem ev_icmp_le {x y : Int} {off : Int} {tgt : Nat} (h : decode Me.2.1 pc = .ok (.if_icmp .le off, 3)) (ht : (pc : Int) + off = (tgt : Int)) (hq : pc + 3 = q) (kt : x ≤ y → Ev Me R Fi tgt ls st L M nc ns) (kf : ¬ x ≤ y → Ev Me R Fi q ls st L M nc ns) : Ev Me R Fi pc ls (g_i y :: g_i x :: st) L M nc ns := by
  subst hq
  intro p l e s m args below meth c Q D cs A C ad H locs lsA hH hV hF
  have hx : g_rg x := g_hd (g_tl hV.2.2)
  have hy : g_rg y := g_hd hV.2.2
  have iff9 : Int32.ofInt x ≤ Int32.ofInt y ↔ x ≤ y := g_leI (x := x) (y := y) hx hy
  exact lv_icmp_le C.1.1 C.1.2.1 h ht (fun h9 => kt (iff9.mp h9) p l e s m args below meth c Q D cs A C ad H locs lsA hH (g_V_st hV (g_tl (g_tl hV.2.2))) hF) (fun h9 => kf (fun e9 => h9 (iff9.mpr e9)) p l e s m args below meth c Q D cs A C ad H locs lsA hH (g_V_st hV (g_tl (g_tl hV.2.2))) hF)
theorem ev_icmp_le_t {x y : Int} {off : Int} {tgt : Nat} (h : decode Me.2.1 pc = .ok (.if_icmp .le off, 3)) (ht : (pc : Int) + off = (tgt : Int)) (hc : x ≤ y) (k : Ev Me R Fi tgt ls st L M nc ns) : Ev Me R Fi pc ls (g_i y :: g_i x :: st) L M nc ns :=
  ev_icmp_le h ht rfl (fun _ => k) (fun h9 => absurd hc h9)
theorem ev_icmp_le_f {x y : Int} {off : Int} {tgt : Nat} (h : decode Me.2.1 pc = .ok (.if_icmp .le off, 3)) (ht : (pc : Int) + off = (tgt : Int)) (hq : pc + 3 = q) (hc : ¬ x ≤ y) (k : Ev Me R Fi q ls st L M nc ns) : Ev Me R Fi pc ls (g_i y :: g_i x :: st) L M nc ns :=
  ev_icmp_le h ht hq (fun h9 => absurd h9 hc) (fun _ => k)

theorem ev_if_le {x : Int} {off : Int} {tgt : Nat} (h : decode Me.2.1 pc = .ok (.ifCond .le off, 3)) (ht : (pc : Int) + off = (tgt : Int)) (hq : pc + 3 = q) (kt : x ≤ 0 → Ev Me R Fi tgt ls st L M nc ns) (kf : ¬ x ≤ 0 → Ev Me R Fi q ls st L M nc ns) : Ev Me R Fi pc ls (g_i x :: st) L M nc ns := by
  subst hq
  intro p l e s m args below meth c Q D cs A C ad H locs lsA hH hV hF
  have hx : g_rg x := g_hd hV.2.2
  have iff9 : Int32.ofInt x ≤ 0 ↔ x ≤ 0 := g_leI (x := x) (y := 0) hx g_rg0
  exact lv_if_le C.1.1 C.1.2.1 h ht (fun h9 => kt (iff9.mp h9) p l e s m args below meth c Q D cs A C ad H locs lsA hH (g_V_st hV (g_tl hV.2.2)) hF) (fun h9 => kf (fun e9 => h9 (iff9.mpr e9)) p l e s m args below meth c Q D cs A C ad H locs lsA hH (g_V_st hV (g_tl hV.2.2)) hF)
theorem ev_if_le_t {x : Int} {off : Int} {tgt : Nat} (h : decode Me.2.1 pc = .ok (.ifCond .le off, 3)) (ht : (pc : Int) + off = (tgt : Int)) (hc : x ≤ 0) (k : Ev Me R Fi tgt ls st L M nc ns) : Ev Me R Fi pc ls (g_i x :: st) L M nc ns :=
  ev_if_le h ht rfl (fun _ => k) (fun h9 => absurd hc h9)
theorem ev_if_le_f {x : Int} {off : Int} {tgt : Nat} (h : decode Me.2.1 pc = .ok (.ifCond .le off, 3)) (ht : (pc : Int) + off = (tgt : Int)) (hq : pc + 3 = q) (hc : ¬ x ≤ 0) (k : Ev Me R Fi q ls st L M nc ns) : Ev Me R Fi pc ls (g_i x :: st) L M nc ns :=
  ev_if_le h ht hq (fun h9 => absurd h9 hc) (fun _ => k)

theorem ev_goto {off : Int} {tgt : Nat} (h : decode Me.2.1 pc = .ok (.goto off, 3)) (ht : (pc : Int) + off = (tgt : Int)) (k : Ev Me R Fi tgt ls st L M nc ns) : Ev Me R Fi pc ls st L M nc ns := by
  intro p l e s m args below meth c Q D cs A C ad H locs lsA hH hV hF
  exact lv_goto C.1.1 C.1.2.1 h ht (k p l e s m args below meth c Q D cs A C ad H locs lsA hH hV hF)
end GEN2
