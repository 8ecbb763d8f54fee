/-! a closed term's tree -/
def u_tt (M : g_M) : Nat → Nat → u_F
  | 0, _ => .nil
  | f + 1, t => .tag (M 52 t - 8).toNat (u_ls ((q_kids M t).map (u_tt M f)))
def u_t (M : g_M) (t : Nat) : u_F := u_tt M (t + 1) t
theorem u_tt_f {M : g_M} (hT : q_T M) : ∀ (t f : Nat), (t : Int) < M 45 8 → t < f → u_tt M f t = u_t M t := by
  intro t
  induction t using Nat.strongRecOn with
  | ind t ih =>
    intro f ht hf
    match f with
    | 0 => omega
    | f + 1 =>
      unfold u_t
      rw [u_tt, u_tt]
      congr 2
      refine List.map_congr_left fun y hy => ?_
      have h1 := q_kid_lt hT ht y hy
      rw [ih y h1 f (by omega) (by omega), ih y h1 t (by omega) h1]
theorem u_t_eq {M : g_M} (hT : q_T M) {t : Nat} (ht : (t : Int) < M 45 8) : u_t M t = .tag (M 52 t - 8).toNat (u_ls ((q_kids M t).map (u_t M))) := by
  rw [u_t, u_tt]
  congr 2
  refine List.map_congr_left fun y hy => ?_
  have h1 := q_kid_lt hT ht y hy
  exact u_tt_f hT y t (by omega) h1
/-- a term of constructors alone -/
def u_cl (M : g_M) (t : Nat) : Prop := (t : Int) < M 45 8 ∧ ∀ x ∈ q_pl M t, 8 ≤ M 52 x ∧ M 52 x < 16
theorem u_cl_hd {M : g_M} (hT : q_T M) {t : Nat} (h : u_cl M t) : 8 ≤ M 52 t ∧ M 52 t < 16 := h.2 t (by rw [q_pl_eq hT h.1]; exact List.mem_cons_self)
theorem u_cl_kid {M : g_M} (hT : q_T M) {t : Nat} (h : u_cl M t) : ∀ y ∈ q_kids M t, u_cl M y := by
  intro y hy
  have h1 := q_kid_lt hT h.1 y hy
  have h2 := h.1
  exact ⟨by omega, fun x hx => h.2 x (by rw [q_pl_eq hT h.1]; exact List.mem_cons_of_mem _ (List.mem_flatMap.mpr ⟨y, hy, hx⟩))⟩
theorem u_t_sz {M : g_M} (hT : q_T M) : ∀ (t : Nat), (t : Int) < M 45 8 → ((u_sz (u_t M t) : Nat) : Int) = M 55 t := by
  intro t
  induction t using Nat.strongRecOn with
  | ind t ih =>
    intro ht
    obtain ⟨-, -, -, -, -, -, h7⟩ := hT.2.2 t ht
    rw [u_t_eq hT ht, u_sz, u_sz_ls, h7, List.map_map]
    have key : ∀ L : List Nat, (∀ y ∈ L, y < t) → (((L.map (u_sz ∘ u_t M)).sum : Nat) : Int) = (L.map (M 55)).sum := by
      intro L
      induction L with
      | nil => intro _; rfl
      | cons y L ihL =>
        intro hy
        rw [List.map_cons, List.sum_cons, List.map_cons, List.sum_cons, ← ihL (fun y h => hy y (List.mem_cons_of_mem _ h)), ← ih y (hy y List.mem_cons_self) (by have := hy y List.mem_cons_self; omega)]
        simp
    rw [← key _ (q_kid_lt hT ht)]
    omega
theorem u_t_gd {M : g_M} (hT : q_T M) : ∀ (t : Nat), u_cl M t → u_gd (M 47) (u_t M t) true 0 0 := by
  intro t
  induction t using Nat.strongRecOn with
  | ind t ih =>
    intro h
    obtain ⟨-, -, h3, h4, -, -, -⟩ := hT.2.2 t h.1
    have hh := u_cl_hd hT h
    rw [u_t_eq hT h.1]
    have hw : q_w M t = M 47 (M 52 t - 8).toNat := q_w_c hh.1 hh.2
    have hl : (q_kids M t).length = (q_w M t).toNat := by rw [q_kids_map, List.length_map, List.length_range]
    refine ⟨by omega, u_gd_ls _ 0 (fun a ha => ?_) (by rw [List.length_map, hl]; omega) (by rw [List.length_map, hl]; omega)⟩
    obtain ⟨y, hy, rfl⟩ := List.mem_map.mp ha
    exact ih y (q_kid_lt hT h.1 y hy) (u_cl_kid hT h y hy)
theorem u_t_gt {M : g_M} (hT : q_T M) {t : Nat} (h : u_cl M t) : u_gt M (u_t M t) := by
  refine ⟨u_t_gd hT t h, ?_⟩
  have h1 := u_t_sz hT t h.1
  obtain ⟨-, -, -, -, -, h6, -⟩ := hT.2.2 t h.1
  omega
/-! what give does: tasks (true: a term to be opened; false: a term whose parts are held) -/
def u_gk (M : g_M) (Q : List (Bool × Nat)) : List (Int × Nat) := Q.map (fun q => (if q.1 = true then (q.2 : Int) else u_op M q.2, 0))
def u_gr (M : g_M) : List (Bool × Nat) → List Nat → List Nat → Prop
  | [], T, R => T = R
  | (true, y) :: Q, T, R => u_gr M Q (y :: T) R
  | (false, y) :: Q, T, R => ∃ T0, T = (q_kids M y).reverse ++ T0 ∧ u_gr M Q (y :: T0) R
theorem u_gr_ks {M : g_M} {Q : List (Bool × Nat)} {R : List Nat} : ∀ (L T : List Nat), u_gr M Q (L.reverse ++ T) R → u_gr M (L.map (fun y => (true, y)) ++ Q) T R
  | [], T, h => by simpa using h
  | y :: L, T, h => by
    rw [List.map_cons, List.cons_append]
    show u_gr M (L.map (fun y => (true, y)) ++ Q) (y :: T) R
    refine u_gr_ks L (y :: T) ?_
    rw [List.reverse_cons, List.append_assoc] at h
    exact h
theorem u_gr_t {M : g_M} {y : Nat} {Q : List (Bool × Nat)} {T R : List Nat} (h : u_gr M ((true, y) :: Q) T R) : u_gr M ((q_kids M y).map (fun y => (true, y)) ++ (false, y) :: Q) T R := u_gr_ks _ _ ⟨T, rfl, h⟩
/-- how much is left -/
def u_gm (M : g_M) (Q : List (Bool × Nat)) : Int := (Q.map (fun q => if q.1 = true then 2 * M 55 q.2 else 1)).sum
def u_gc (M : g_M) (Q : List (Bool × Nat)) : Int := (Q.map (fun q => if q.1 = true then M 55 q.2 else 1)).sum
theorem u_gm_a (M : g_M) (A Q : List (Bool × Nat)) : u_gm M (A ++ Q) = u_gm M A + u_gm M Q := by unfold u_gm; rw [List.map_append, List.sum_append]
theorem u_gc_a (M : g_M) (A Q : List (Bool × Nat)) : u_gc M (A ++ Q) = u_gc M A + u_gc M Q := by unfold u_gc; rw [List.map_append, List.sum_append]
theorem u_gm_k (M : g_M) : ∀ L : List Nat, u_gm M (L.map (fun y => (true, y))) = 2 * (L.map (M 55)).sum
  | [] => rfl
  | y :: L => by
    have h := u_gm_k M L
    unfold u_gm at h ⊢
    rw [List.map_cons, List.map_cons, List.sum_cons, h, List.map_cons, List.sum_cons, if_pos rfl]
    dsimp only
    omega
theorem u_gc_k (M : g_M) : ∀ L : List Nat, u_gc M (L.map (fun y => (true, y))) = (L.map (M 55)).sum
  | [] => rfl
  | y :: L => by
    have h := u_gc_k M L
    unfold u_gc at h ⊢
    rw [List.map_cons, List.map_cons, List.sum_cons, h, List.map_cons, List.sum_cons, if_pos rfl]
theorem u_gm_t {M : g_M} (hT : q_T M) {y : Nat} (hy : (y : Int) < M 45 8) (Q : List (Bool × Nat)) : u_gm M ((q_kids M y).map (fun y => (true, y)) ++ (false, y) :: Q) = u_gm M ((true, y) :: Q) - 1 := by
  obtain ⟨-, -, -, -, -, -, h7⟩ := hT.2.2 y hy
  rw [u_gm_a, u_gm_k]
  unfold u_gm
  rw [List.map_cons, List.map_cons, List.sum_cons, List.sum_cons, if_neg (by simp), if_pos rfl]
  dsimp only
  omega
theorem u_gc_t {M : g_M} (hT : q_T M) {y : Nat} (hy : (y : Int) < M 45 8) (Q : List (Bool × Nat)) : u_gc M ((q_kids M y).map (fun y => (true, y)) ++ (false, y) :: Q) = u_gc M ((true, y) :: Q) := by
  obtain ⟨-, -, -, -, -, -, h7⟩ := hT.2.2 y hy
  rw [u_gc_a, u_gc_k]
  unfold u_gc
  rw [List.map_cons, List.map_cons, List.sum_cons, List.sum_cons, if_neg (by simp), if_pos rfl]
  dsimp only
  omega
theorem u_gc_le {M : g_M} (hT : q_T M) : ∀ Q : List (Bool × Nat), (∀ q ∈ Q, (q.2 : Int) < M 45 8) → (Q.length : Int) ≤ u_gc M Q ∧ (Q.length : Int) ≤ u_gm M Q
  | [], _ => ⟨Int.le_refl _, Int.le_refl _⟩
  | (b, y) :: Q, h => by
    have h1 := u_gc_le hT Q (fun q hq => h q (List.mem_cons_of_mem _ hq))
    have h2 := q_sz_0 hT (h (b, y) List.mem_cons_self)
    unfold u_gc u_gm at h1 ⊢
    simp only [List.map_cons, List.sum_cons, List.length_cons]
    simp only at h2
    cases b
    · simp only [if_neg (by decide : ¬ false = true)]; omega
    · simp only [if_true]; omega
theorem u_op_c {M : g_M} {t : Nat} (h : 8 ≤ M 52 t ∧ M 52 t < 16) : u_op M t = -1 - (((M 52 t - 8).toNat : Nat) : Int) := by
  unfold u_op
  rw [if_pos h.2]
  omega
theorem u_gk_t (M : g_M) (y : Nat) (Q : List (Bool × Nat)) : u_gk M ((q_kids M y).map (fun y => (true, y)) ++ (false, y) :: Q) = (q_kids M y).map (fun y : Nat => ((y : Int), 0)) ++ (u_op M y, 0) :: u_gk M Q := by
  unfold u_gk
  rw [List.map_append, List.map_map, List.map_cons]
  rfl
theorem u_gm_f (M : g_M) (y : Nat) (Q : List (Bool × Nat)) : u_gm M ((false, y) :: Q) = 1 + u_gm M Q := by
  unfold u_gm
  rw [List.map_cons, List.sum_cons, if_neg (by simp)]
theorem u_gc_f (M : g_M) (y : Nat) (Q : List (Bool × Nat)) : u_gc M ((false, y) :: Q) = 1 + u_gc M Q := by
  unfold u_gc
  rw [List.map_cons, List.sum_cons, if_neg (by simp)]
theorem c_Mo_give (d : Nat) (M : g_M) (M1 : g_M) (t nv : Nat) (T0 : List Nat) (hf : u_f M M1) (hT : q_T M) (ht : u_cl M t) (hH : u_hk M1 (T0.map (u_t M))) (hT0 : ∀ y ∈ T0, u_cl M y) (hl0 : T0.length ≤ 3) (hnv : M1 45 29 = nv) (hnl : nv ≤ 300) : ConR y_Mo_give w_Mo_give (g_rm (d + 2)) LX M1 [g_r 45, g_i (t : Int)] LX (fun M2 v2 => v2 = none ∧ u_f M M2 ∧ u_hk M2 ((t :: T0).map (u_t M)) ∧ M2 45 29 = (nv : Int) + M 55 t ∧ M2 45 33 = M1 45 33 ∧ M2 45 34 = M1 45 34) := by
  refine con_ofR (av := [g_r 45, g_i (t : Int)]) (ls0 := [some (g_r 45), some (g_i (t : Int)), none]) (by decide) rfl (Nat.le_of_ble_eq_true rfl) (g_hls (av := [g_r 45, g_i (t : Int)]) (k := 1)) (fun _ h9 => List.mem_cons_of_mem _ h9) ?_
  refine ev_aload_n (i := 0) d_Mo_give_0 rfl rfl rfl ?_
  refine ev_iconst d_Mo_give_1 rfl ⟨by decide, by decide⟩ ?_
  refine ev_putI d_Mo_give_2 rfl lk_Mo_231 fp_Mo_35 (Or.inl rfl) lx_45 rfl ?_
  refine ev_aload_n (i := 0) d_Mo_give_5 rfl rfl rfl ?_
  refine ev_iload_n (i := 1) d_Mo_give_6 rfl rfl rfl ?_
  refine ev_iconst d_Mo_give_7 rfl ⟨by decide, by decide⟩ ?_
  refine ev_callV (As := [g_i (t : Int), g_i 0]) d_Mo_give_8 rfl cl_Mo_240 ((c_Mo_doLater (d + 1) (g_up M1 45 35 0) (t : Int) 0 0 (g_up_at _ _ _ _) (by omega))) (g_hR (by decide)) g_h0 lx_45 rfl rfl (Nat.le_of_ble_eq_true rfl) rfl rfl ?_
  refine ev_wh (fun n ls1 M2 => ∃ (Q : List (Bool × Nat)) (T : List Nat), (n : Int) = u_gm M Q ∧ ls1 = [some (g_r 45), some (g_i (t : Int)), none] ∧ u_f M M2 ∧ u_tk M2 (u_gk M Q) ∧ u_hk M2 (T.map (u_t M)) ∧ (∀ q ∈ Q, u_cl M q.2) ∧ (∀ y ∈ T, u_cl M y) ∧ u_gr M Q T (t :: T0) ∧ M2 45 29 + u_gc M Q = (nv : Int) + M 55 t ∧ (T.length : Int) ≤ T0.length + (M2 45 29 - nv) ∧ (nv : Int) ≤ M2 45 29 ∧ M2 45 33 = M1 45 33 ∧ M2 45 34 = M1 45 34) ?_ (n := (2 * M 55 t).toNat) (⟨[(true, t)], T0, by have := q_sz_0 hT ht.1; unfold u_gm; simp only [List.map_cons, List.map_nil, List.sum_cons, List.sum_nil, if_true]; omega, rfl, hf.tr ((g71_35 M1 0).f.tr (g71_up _ 0 _ _ _).f), u_tk_push (M1 := g_up M1 45 35 0) (K := []) ⟨g_up_at _ _ _ _, fun i t fr h => by simp at h⟩ (t : Int) 0, u_hk_cg (M := M1) (fun t x h => ((g71_up _ 0 _ _ _).rm t x).mpr (((g71_35 M1 0).rm t x).mpr h)) rfl rfl hH, fun q hq => by rw [List.mem_singleton.mp hq]; exact ht, hT0, rfl, by show M1 45 29 + u_gc M [(true, t)] = _; unfold u_gc; simp only [List.map_cons, List.map_nil, List.sum_cons, List.sum_nil, if_true]; omega, by show _ ≤ _ + (M1 45 29 - nv); omega, by show _ ≤ M1 45 29; omega, rfl, rfl⟩)
  intro n ls1 M2 hP0 ih
  obtain ⟨Q, T, hgm, rfl, hf2, hK2, hH2, hQc, hTc, hgr, hnvc, hTl, hN0, h33, h34⟩ := hP0
  have hle := u_gc_le hT Q (fun q hq => (hQc q hq).1)
  have hlk : (u_gk M Q).length = Q.length := by unfold u_gk; rw [List.length_map]
  obtain ⟨-, -, -, -, -, hs40, -⟩ := hT.2.2 t ht.1
  refine ev_aload_n (i := 0) d_Mo_give_11 rfl rfl rfl ?_
  refine ev_getI (z := ((u_gk M Q).length : Int)) d_Mo_give_12 rfl lk_Mo_231 lx_45 rfl (hK2.1) ?_
  refine ev_if_le (tgt := 61) d_Mo_give_15 (by decide) rfl (fun hz => ?_) (fun hz => ?_)
  · have eQ : Q = [] := List.eq_nil_of_length_eq_zero (by omega)
    subst eQ
    have eT : T = t :: T0 := hgr
    subst eT
    exact ev_retVR d_Mo_give_61 (⟨rfl, hf2, hH2, by have h9 : M2 45 29 + 0 = (nv : Int) + M 55 t := hnvc; omega, h33, h34⟩)
  · obtain ⟨⟨bq, y⟩, Q, rfl⟩ : ∃ q Q1, Q = q :: Q1 := by
      cases Q with
      | nil => simp [u_gk] at hz
      | cons q Q1 => exact ⟨q, Q1, rfl⟩
    have hcy : u_cl M y := hQc (bq, y) List.mem_cons_self
    have hhd := u_cl_hd hT hcy
    obtain ⟨q1, q2, q3, q4, q5, -, -⟩ := hT.2.2 y hcy.1
    obtain ⟨tm, htm⟩ : ∃ tm : Int, tm = if bq = true then (y : Int) else u_op M y := ⟨_, rfl⟩
    have hK2b : u_tk M2 ((tm, 0) :: u_gk M Q) := by rw [htm]; exact hK2
    obtain ⟨p1, p2, p3, p4⟩ := u_tk_pop hK2b
    rw [List.length_cons] at hle hlk
    have hlk2 : (u_gk M Q).length = Q.length := by unfold u_gk; rw [List.length_map]
    have hcb := hnvc
    refine ev_aload_n (i := 0) d_Mo_give_18 rfl rfl rfl ?_
    refine ev_dup d_Mo_give_19 rfl rfl ?_
    refine ev_getI (z := ((u_gk M Q).length : Int) + 1) d_Mo_give_20 rfl lk_Mo_231 lx_45 rfl (p1) ?_
    refine ev_iconst d_Mo_give_23 rfl ⟨by decide, by decide⟩ ?_
    refine ev_isub (z := ((u_gk M Q).length : Int)) d_Mo_give_24 rfl (by rw [g_w_id (by unfold g_rg; omega)]; omega) ?_
    refine ev_putI d_Mo_give_25 rfl lk_Mo_231 fp_Mo_35 (Or.inl rfl) lx_45 rfl ?_
    refine ev_aload_n (i := 0) d_Mo_give_28 rfl rfl rfl ?_
    refine ev_getR d_Mo_give_29 rfl lk_Mo_86 lx_45 rfl ?_
    refine ev_aload_n (i := 0) d_Mo_give_32 rfl rfl rfl ?_
    refine ev_getI (z := ((u_gk M Q).length : Int)) d_Mo_give_33 rfl lk_Mo_231 lx_45 rfl (g_up_at _ _ _ _) ?_
    refine ev_iaload (z := tm) d_Mo_give_36 rfl lx_71 (by omega) (by omega) (by rw [g_up_ne (by decide)]; exact p2) ?_
    refine ev_istore_n (i := 2) d_Mo_give_37 rfl rfl (by decide) rfl ?_
    refine ev_iload_n (i := 2) d_Mo_give_38 rfl rfl rfl ?_
    refine ev_if_lt (tgt := 51) d_Mo_give_39 (by decide) rfl (fun ht0 => ?_) (fun ht0 => ?_)
    · have eb : bq = false := by
        cases bq with
        | true => rw [if_pos rfl] at htm; omega
        | false => rfl
      subst eb
      rw [if_neg (by simp), u_op_c hhd] at htm
      obtain ⟨c, hc⟩ : ∃ c : Nat, (M 52 y - 8).toNat = c := ⟨_, rfl⟩
      rw [hc] at htm
      subst htm
      obtain ⟨T1, eT, hgr1⟩ := hgr
      subst eT
      have hl : (q_kids M y).length = (q_w M y).toNat := by rw [q_kids_map, List.length_map, List.length_range]
      have hwc : M 47 c = ((q_kids M y).length : Nat) := by rw [hl, q_w_c hhd.1 hhd.2, hc]; rw [q_w_c hhd.1 hhd.2, hc] at q3; omega
      refine ev_aload_n (i := 0) d_Mo_give_51 rfl rfl rfl ?_
      refine ev_iconst d_Mo_give_52 rfl ⟨by decide, by decide⟩ ?_
      refine ev_iload_n (i := 2) d_Mo_give_53 rfl rfl rfl ?_
      refine ev_isub (z := (c : Int)) d_Mo_give_54 rfl (by rw [g_w_id (by unfold g_rg; omega)]; omega) ?_
      refine ev_callVR (As := [g_i ((c : Int))]) d_Mo_give_55 rfl cl_Mo_259 (c_Mo_hold (d + 1) (g_up M2 45 35 ((u_gk M Q).length : Int)) (((q_kids M y).reverse ++ T1).map (u_t M)) c (q_kids M y).length (M2 45 29).toNat (u_hk_cg (M := M2) (fun _ _ h => h) rfl rfl hH2) (by omega) (by rw [List.length_map, List.length_append, List.length_reverse]; omega) (by omega) (by rw [g_up_ne (by decide), hf2 47 _ (by decide) (by omega)]; exact hwc) (by rw [g_up_nj (by decide)]; omega) (by omega) (by rw [List.length_map]; omega) (fun i a hi => by obtain ⟨z, hz, rfl⟩ := List.mem_map.mp (List.mem_of_getElem? hi); exact (u_t_gt hT (hTc z hz)).2)) (g_hR (by decide)) g_h0 lx_45 rfl rfl (Nat.le_of_ble_eq_true rfl) rfl rfl (fun M4 v9 g9 => ?_)
      obtain ⟨rfl, f1, f2, f3, f4, f5, f6, f7, f8, f9, f10, f11⟩ := g9
      have e11 : Std.Format.tag c (u_ls (((((q_kids M y).reverse ++ T1).map (u_t M)).take (q_kids M y).length).reverse)) :: (((q_kids M y).reverse ++ T1).map (u_t M)).drop (q_kids M y).length = (y :: T1).map (u_t M) := by
        have el : (q_kids M y).length = ((q_kids M y).reverse.map (u_t M)).length := by rw [List.length_map, List.length_reverse]
        rw [List.map_append, el, List.take_left, List.drop_left, List.map_reverse, List.reverse_reverse, List.map_cons, u_t_eq hT hcy.1, hc]
      rw [e11] at f11
      refine ev_goto (tgt := 11) d_Mo_give_58 (by decide) ?_
      exact ev_le (ih (n - 1) [some (g_r 45), some (g_i (t : Int)), none] M4 (by omega) ⟨Q, y :: T1, by have := u_gm_f M y Q; omega, rfl, (hf2.tr (g71_35 M2 _).f).tr f1, u_tk_cg (M := g_up M2 45 35 ((u_gk M Q).length : Int)) f6 f7 f5 p4, f11, fun q hq => hQc q (List.mem_cons_of_mem _ hq), fun z hz => by rcases List.mem_cons.mp hz with rfl | hz; exact hcy; exact hTc z (List.mem_append_right _ hz), hgr1, by have := u_gc_f M y Q; omega, by rw [List.length_append, List.length_reverse] at hTl; rw [List.length_cons]; omega, by omega, by rw [f3, g_up_nj (by decide)]; exact h33, by rw [f4, g_up_nj (by decide)]; exact h34⟩) rfl ⟨rfl, rfl, trivial⟩
    · have eb : bq = true := by
        cases bq with
        | true => rfl
        | false => rw [if_neg (by simp), u_op_c hhd] at htm; omega
      subst eb
      rw [if_pos rfl] at htm
      subst htm
      obtain ⟨w, hw⟩ : ∃ w : Nat, q_w M y = w := ⟨(q_w M y).toNat, by omega⟩
      refine ev_aload_n (i := 0) d_Mo_give_42 rfl rfl rfl ?_
      refine ev_iload_n (i := 2) d_Mo_give_43 rfl rfl rfl ?_
      refine ev_iconst d_Mo_give_44 rfl ⟨by decide, by decide⟩ ?_
      refine ev_callVR (As := [g_i (y : Int), g_i 0]) d_Mo_give_45 rfl cl_Mo_250 (c_Mo_evaluate_n (d + 0) M (g_up M2 45 35 ((u_gk M Q).length : Int)) (u_gk M Q) y 0 w (hf2.tr (g71_35 M2 _).f) p4 (by omega) (by have := hT.2.1; have := hcy.1; omega) hhd.1 q2 hw (by omega) (fun k hk => (q5 k (by omega)).1)) (g_hR (by decide)) g_h0 lx_45 rfl rfl (Nat.le_of_ble_eq_true rfl) rfl rfl (fun M3 v9 g9 => ?_)
      obtain ⟨rfl, h2, h3⟩ := g9
      refine ev_goto (tgt := 58) d_Mo_give_48 (by decide) ?_
      refine ev_goto (tgt := 11) d_Mo_give_58 (by decide) ?_
      exact ev_le (ih (n - 1) [some (g_r 45), some (g_i (t : Int)), none] M3 (by omega) ⟨(q_kids M y).map (fun y => (true, y)) ++ (false, y) :: Q, T, by rw [u_gm_t hT hcy.1]; omega, rfl, hf2.tr ((g71_35 M2 _).f.tr h2.f), by rw [u_gk_t]; exact h3, u_hk_cg (M := M2) (fun t x h => (h2.rm t x).mpr (((g71_35 M2 _).rm t x).mpr h)) (h2.fn (by decide) (by decide) (by decide)) (by rw [h2 45 38 (by decide) (by decide) (by decide), g_up_nj (by decide)]) hH2, fun q hq => by rcases List.mem_append.mp hq with hq | hq; (obtain ⟨z, hz, rfl⟩ := List.mem_map.mp hq; exact u_cl_kid hT hcy z hz); (rcases List.mem_cons.mp hq with rfl | hq; exact hcy; exact hQc q (List.mem_cons_of_mem _ hq)), hTc, u_gr_t hgr, by rw [u_gc_t hT hcy.1, h2 45 29 (by decide) (by decide) (by decide), g_up_nj (by decide)]; exact hnvc, by rw [h2 45 29 (by decide) (by decide) (by decide), g_up_nj (by decide)]; exact hTl, by rw [h2 45 29 (by decide) (by decide) (by decide), g_up_nj (by decide)]; exact hN0, by rw [h2 45 33 (by decide) (by decide) (by decide), g_up_nj (by decide)]; exact h33, by rw [h2 45 34 (by decide) (by decide) (by decide), g_up_nj (by decide)]; exact h34⟩) rfl ⟨rfl, rfl, trivial⟩
