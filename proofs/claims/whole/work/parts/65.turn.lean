theorem u_Ms_fr {M M1 M2 : g_M} {F F' : List (Nat × Nat × Nat)} {H : List u_F} {B : Nat → Nat → u_F} {st bu : Nat} (hM : u_Ms M M1 F H B st bu) (e : ∀ k b : Nat, ¬ (k = 34 ∧ b = 7) → k ≠ 39 → k ≠ 40 → k ≠ 41 → M2 k b = M1 k b) (hF : u_fm M2 F') (hv : u_fv M F') : u_Ms M M2 F' H B st bu := by
  obtain ⟨m1, m2, m3, m4, m5, m6, m7, m8, m9, m10⟩ := hM
  have ef : ∀ k : Nat, k ≠ 34 → k ≠ 39 → k ≠ 40 → k ≠ 41 → M2 k = M1 k := fun k h1 h2 h3 h4 => funext fun b => e k b (fun h => h1 h.1) h2 h3 h4
  have e34 : ∀ b : Nat, b ≠ 7 → M2 34 b = M1 34 b := fun b hb => e 34 b (fun h => hb h.2) (by decide) (by decide) (by decide)
  have r : ∀ t x, u_rk M1 t x → u_rk M2 t x := fun t x h => u_rk_cg (M := M1) (M2 := M2) (fun k hk => ef k (by omega) (by omega) (by omega) (by omega)) (e 35 5 (by decide) (by decide) (by decide) (by decide)) h
  exact ⟨m1.tr (fun k b hk => e k b (by omega) (by omega) (by omega) (by omega)), hF, hv, (e34 9 (by decide)).trans m4, u_hd_cg r (fun i _ => by rw [ef 42 (by decide) (by decide) (by decide) (by decide)]) m5, u_bc_cg (ef 43 (by decide) (by decide) (by decide) (by decide)) r m6, (e34 11 (by decide)).trans m7, (e 35 5 (by decide) (by decide) (by decide) (by decide)).trans m8, (e34 12 (by decide)).trans m9, (e34 14 (by decide)).trans m10⟩
/-- how a turn of the class ends: with the run, or some steps further -/
def u_To (M : g_M) (n : Nat) (s : u_S) (M2 : g_M) : Prop := (∃ (j : Nat) (s' : u_S), u_R M j s s' ∧ s'.1 ≠ [] ∧ (u_st M s').2 = true ∧ u_Ce M M2 (u_st M s').1.2.2.2.1) ∨ (∃ (j : Nat) (s' : u_S), u_R M (j + 1) s s' ∧ u_ok M (n + (j + 1)) s' ∧ u_Cs M M2 s')
theorem u_To_1 {M : g_M} (hP : r_P M) {n : Nat} {s : u_S} {M2 : g_M} (hok : u_ok M n s) (hs : s.1 ≠ []) (h : ((u_st M s).2 = true ∧ u_Ce M M2 (u_st M s).1.2.2.2.1) ∨ ((u_st M s).2 = false ∧ u_Cs M M2 (u_st M s).1)) : u_To M n s M2 := by
  rcases h with ⟨h1, h2⟩ | ⟨h1, h2⟩
  · exact Or.inl ⟨0, s, rfl, hs, h1, h2⟩
  · exact Or.inr ⟨0, _, u_R_1 hs h1, u_ok_st hP hok hs h1, h2⟩
theorem u_st_ne {M : g_M} {f fr : Nat} {K : List (Int × Nat)} {H : List u_F} {B : Nat → Nat → u_F} {st bu : Nat} (h : (u_st M ((-11 - (f : Int), fr) :: K, H, B, st, bu)).2 = false) : (u_st M ((-11 - (f : Int), fr) :: K, H, B, st, bu)).1.1 ≠ [] := by
  rw [u_st, if_neg (by omega), if_pos (by omega)] at h ⊢
  by_cases h200 : st = 200
  · rw [if_pos h200] at h; exact absurd h (by simp)
  · rw [if_neg h200] at h ⊢
    revert h
    split
    · intro h; exact absurd h (by simp)
    · intro h; simp
theorem u_To_2 {M : g_M} (hP : r_P M) {n f fr : Nat} {K : List (Int × Nat)} {H : List u_F} {B : Nat → Nat → u_F} {st bu : Nat} {M2 : g_M} (hok : u_ok M n ((-11 - (f : Int), fr) :: K, H, B, st, bu)) (h : ((u_st M ((-11 - (f : Int), fr) :: K, H, B, st, bu)).2 = true ∧ u_Ce M M2 (u_st M ((-11 - (f : Int), fr) :: K, H, B, st, bu)).1.2.2.2.1) ∨ ((u_st M ((-11 - (f : Int), fr) :: K, H, B, st, bu)).2 = false ∧ (u_st M (u_st M ((-11 - (f : Int), fr) :: K, H, B, st, bu)).1).2 = false ∧ u_Cs M M2 (u_st M (u_st M ((-11 - (f : Int), fr) :: K, H, B, st, bu)).1).1)) : u_To M n ((-11 - (f : Int), fr) :: K, H, B, st, bu) M2 := by
  rcases h with ⟨h1, h2⟩ | ⟨h1, h2, h3⟩
  · exact Or.inl ⟨0, _, rfl, by simp, h1, h2⟩
  · have hne := u_st_ne h1
    have hok1 := u_ok_st hP hok (by simp) h1
    exact Or.inr ⟨1, _, ⟨by simp, h1, u_R_1 hne h2⟩, u_ok_st hP hok1 hne h2, h3⟩
theorem c_Ma_turn (d : Nat) (M : g_M) (M1 : g_M) (n t r dn st bu : Nat) (F : List (Nat × Nat × Nat)) (H : List u_F) (B : Nat → Nat → u_F) (hP : r_P M) (hM : u_Ms M M1 ((t, r, dn) :: F) H B st bu) (hok : u_ok M n (u_fi M ((t, r, dn) :: F), H, B, st, bu)) : ConR y_Ma_turn w_Ma_turn (g_rm (d + 105)) LX M1 [g_r 34] LX (fun M2 v2 => v2 = none ∧ u_To M n (u_fi M ((t, r, dn) :: F), H, B, st, bu) M2) := by
  refine con_ofR (av := [g_r 34]) (ls0 := [some (g_r 34), none, none, none]) (by decide) rfl (Nat.le_of_ble_eq_true rfl) (g_hls (av := [g_r 34]) (k := 3)) (fun _ h9 => List.mem_cons_of_mem _ h9) ?_
  obtain ⟨p1, p2, p3, p4, p5⟩ := u_fm_top hM.2.1
  obtain ⟨ht, h8, hdn⟩ := hM.2.2.1 (t, r, dn) List.mem_cons_self
  simp only at ht h8 hdn
  have hT := hP.2.2.1.2.1
  obtain ⟨q1, q2, q3, q4, q5, -, -⟩ := hT.2.2 t ht
  obtain ⟨hr1, hr2, hr3, -⟩ := hP.2.2.1.2.2.1 t ht
  have hn100 := hT.2.1
  have ht100 : t < 100 := by omega
  obtain ⟨w, hw⟩ : ∃ w : Nat, q_w M t = w := ⟨(q_w M t).toNat, by omega⟩
  have hfl := (u_ok_b hP hok).2.1
  simp only at hfl
  rw [u_no_fi hP _ hM.2.2.1, List.length_cons] at hfl
  refine ev_aload_n (i := 0) d_Ma_turn_0 rfl rfl rfl ?_
  refine ev_getI (z := (F.length : Int) + 1) d_Ma_turn_1 rfl lk_Ma_61 lx_34 rfl (p1) ?_
  refine ev_iconst d_Ma_turn_4 rfl ⟨by decide, by decide⟩ ?_
  refine ev_isub (z := (F.length : Int)) d_Ma_turn_5 rfl (by rw [g_w_id (by unfold g_rg; omega)]; omega) ?_
  refine ev_istore_n (i := 1) d_Ma_turn_6 rfl rfl (by decide) rfl ?_
  refine ev_aload_n (i := 0) d_Ma_turn_7 rfl rfl rfl ?_
  refine ev_getR d_Ma_turn_8 rfl lk_Ma_32 lx_34 rfl ?_
  refine ev_iload_n (i := 1) d_Ma_turn_11 rfl rfl rfl ?_
  refine ev_iaload (z := (t : Int)) d_Ma_turn_12 rfl lx_39 (by omega) (by omega) (p2) ?_
  refine ev_istore_n (i := 2) d_Ma_turn_13 rfl rfl (by decide) rfl ?_
  refine ev_aload_n (i := 0) d_Ma_turn_14 rfl rfl rfl ?_
  refine ev_getR d_Ma_turn_15 rfl lk_Ma_39 lx_34 rfl ?_
  refine ev_iload_n (i := 1) d_Ma_turn_18 rfl rfl rfl ?_
  refine ev_iaload (z := (dn : Int)) d_Ma_turn_19 rfl lx_41 (by omega) (by omega) (p4) ?_
  refine ev_aload_n (i := 0) d_Ma_turn_20 rfl rfl rfl ?_
  refine ev_getR d_Ma_turn_21 rfl lk_Ma_15 lx_34 rfl ?_
  refine ev_iload_n (i := 2) d_Ma_turn_24 rfl rfl rfl ?_
  refine ev_callV (As := [g_i ((t : Int))]) d_Ma_turn_25 rfl cl_Ma_94 ((c_Te_width (d + 104) M1 t ht100).eqr (b := (w : Int)) (by rw [show M1 12 t = M1 12 t from rfl, hM.1 12 t (by decide), hr2]; exact hw)) (g_hR (by decide)) g_h0 lx_9 rfl rfl (Nat.le_of_ble_eq_true rfl) rfl rfl ?_
  refine ev_icmp_ge (tgt := 68) d_Ma_turn_28 (by decide) rfl (fun hz => ?_) (fun hz => ?_)
  · have efi := u_fi_last (r := r) (F := F) (by omega : q_w M t ≤ (dn : Int))
    have hok2 := hok
    rw [efi] at hok2
    have hCp : u_Cs M (g_up M1 34 7 (F.length : Int)) (u_fi M F, H, B, st, bu) := ⟨F, rfl, u_Ms_fr hM (fun k b h1 h2 h3 h4 => by simp only [g_up]; rw [if_neg h1]) p5 (fun e he => hM.2.2.1 e (List.mem_cons_of_mem _ he))⟩
    refine ev_aload_n (i := 0) d_Ma_turn_68 rfl rfl rfl ?_
    refine ev_dup d_Ma_turn_69 rfl rfl ?_
    refine ev_getI (z := (F.length : Int) + 1) d_Ma_turn_70 rfl lk_Ma_61 lx_34 rfl (p1) ?_
    refine ev_iconst d_Ma_turn_73 rfl ⟨by decide, by decide⟩ ?_
    refine ev_isub (z := (F.length : Int)) d_Ma_turn_74 rfl (by rw [g_w_id (by unfold g_rg; omega)]; omega) ?_
    refine ev_putI d_Ma_turn_75 rfl lk_Ma_61 fp_Ma_7 (Or.inl rfl) lx_34 rfl ?_
    refine ev_aload_n (i := 0) d_Ma_turn_78 rfl rfl rfl ?_
    refine ev_getR d_Ma_turn_79 rfl lk_Ma_15 lx_34 rfl ?_
    refine ev_iload_n (i := 2) d_Ma_turn_82 rfl rfl rfl ?_
    refine ev_callV (As := [g_i ((t : Int))]) d_Ma_turn_83 rfl cl_Ma_105 ((c_Te_isMade (d + 104) (g_up M1 34 7 (F.length : Int)) t ht100)) (g_hR (by decide)) g_h0 lx_9 rfl rfl (Nat.le_of_ble_eq_true rfl) rfl rfl ?_
    refine ev_beq (tgt := 112) d_Ma_turn_86 (by decide) rfl (fun hmd => ?_) (fun hmd => ?_)
    · have hmd2 : ¬ M 10 t = 1 := by rw [← hM.1 10 t (by decide)]; rw [g_up_ne (by decide)] at hmd; exact hmd
      have h16 : ¬ M 52 t < 16 := by have h8 := hr1; omega
      obtain ⟨hh, ehh⟩ : ∃ hh : Nat, M 52 t - 16 = hh := ⟨(M 52 t - 16).toNat, by omega⟩
      have h11 : (g_up M1 34 7 (F.length : Int)) 11 t = hh := by rw [g_up_ne (by decide), hM.1 11 t (by decide)]; have h8 := hr1; omega
      have eop : u_op M t = -11 - (hh : Int) := by unfold u_op; rw [if_neg h16]; omega
      rw [eop] at hok2 efi
      refine ev_aload_n (i := 0) d_Ma_turn_112 rfl rfl rfl ?_
      refine ev_aload_n (i := 0) d_Ma_turn_113 rfl rfl rfl ?_
      refine ev_getR d_Ma_turn_114 rfl lk_Ma_15 lx_34 rfl ?_
      refine ev_iload_n (i := 2) d_Ma_turn_117 rfl rfl rfl ?_
      refine ev_callV (As := [g_i ((t : Int))]) d_Ma_turn_118 rfl cl_Ma_109 ((c_Te_head (d + 104) (g_up M1 34 7 (F.length : Int)) t ht100).eqr (b := (hh : Int)) (h11)) (g_hR (by decide)) g_h0 lx_9 rfl rfl (Nat.le_of_ble_eq_true rfl) rfl rfl ?_
      refine ev_callVR (As := [g_i (hh : Int)]) d_Ma_turn_121 rfl cl_Ma_85 (c_Ma_step d M (g_up M1 34 7 (F.length : Int)) n hh (r + 1) st bu (u_fi M F) H B hP hCp hok2) (g_hR (by decide)) g_h0 lx_34 rfl rfl (Nat.le_of_ble_eq_true rfl) rfl rfl (fun M3 v9 g9 => ?_)
      obtain ⟨rfl, hs4⟩ := g9
      have hgo : u_To M n (u_fi M ((t, r, dn) :: F), H, B, st, bu) M3 := by rw [efi]; exact u_To_2 hP hok2 hs4
      exact ev_retVR d_Ma_turn_124 (⟨rfl, hgo⟩)
    · have hmd2 : M 10 t = 1 := by rw [← hM.1 10 t (by decide)]; rw [g_up_ne (by decide)] at hmd; exact hmd
      have h16 : M 52 t < 16 := by have h8 := hr1; omega
      obtain ⟨hh, ehh⟩ : ∃ hh : Nat, M 52 t - 8 = hh := ⟨(M 52 t - 8).toNat, by omega⟩
      have h11 : (g_up M1 34 7 (F.length : Int)) 11 t = hh := by rw [g_up_ne (by decide), hM.1 11 t (by decide)]; have h8 := hr1; omega
      have hw47 : M 47 hh = w := by rw [← hw, q_w_c h8 h16, ehh]; rfl
      have eop : u_op M t = -1 - (hh : Int) := by unfold u_op; rw [if_pos h16]; omega
      rw [eop] at hok2 efi
      refine ev_aload_n (i := 0) d_Ma_turn_89 rfl rfl rfl ?_
      refine ev_aload_n (i := 0) d_Ma_turn_90 rfl rfl rfl ?_
      refine ev_getR d_Ma_turn_91 rfl lk_Ma_15 lx_34 rfl ?_
      refine ev_iload_n (i := 2) d_Ma_turn_94 rfl rfl rfl ?_
      refine ev_callV (As := [g_i ((t : Int))]) d_Ma_turn_95 rfl cl_Ma_109 ((c_Te_head (d + 104) (g_up M1 34 7 (F.length : Int)) t ht100).eqr (b := (hh : Int)) (h11)) (g_hR (by decide)) g_h0 lx_9 rfl rfl (Nat.le_of_ble_eq_true rfl) rfl rfl ?_
      refine ev_aload_n (i := 0) d_Ma_turn_98 rfl rfl rfl ?_
      refine ev_getR d_Ma_turn_99 rfl lk_Ma_15 lx_34 rfl ?_
      refine ev_iload_n (i := 2) d_Ma_turn_102 rfl rfl rfl ?_
      refine ev_callV (As := [g_i ((t : Int))]) d_Ma_turn_103 rfl cl_Ma_94 ((c_Te_width (d + 104) (g_up M1 34 7 (((F.length : Int)))) t ht100).eqr (b := (w : Int)) (by rw [show (g_up M1 34 7 (((F.length : Int)))) 12 t = M1 12 t from by rw [g_up_ne (by decide)], hM.1 12 t (by decide), hr2]; exact hw)) (g_hR (by decide)) g_h0 lx_9 rfl rfl (Nat.le_of_ble_eq_true rfl) rfl rfl ?_
      refine ev_callVR (As := [g_i (hh : Int), g_i (w : Int)]) d_Ma_turn_106 rfl cl_Ma_112 (c_Ma_build (d + 100) M (g_up M1 34 7 (F.length : Int)) n hh w (r + 1) st bu (u_fi M F) H B hP hCp hok2 (by omega) hw47) (g_hR (by decide)) g_h0 lx_34 rfl rfl (Nat.le_of_ble_eq_true rfl) rfl rfl (fun M2 v9 g9 => ?_)
      obtain ⟨rfl, hs4⟩ := g9
      have hgo : u_To M n (u_fi M ((t, r, dn) :: F), H, B, st, bu) M2 := u_To_1 hP hok (by rw [efi]; simp) (by rw [efi]; exact hs4)
      refine ev_goto (tgt := 124) d_Ma_turn_109 (by decide) ?_
      exact ev_retVR d_Ma_turn_124 (⟨rfl, hgo⟩)
  · have h5 := q5 dn (by omega)
    obtain ⟨y, hy⟩ : ∃ y : Nat, M 53 (3 * t + dn) = y := ⟨(M 53 (3 * t + dn)).toNat, by omega⟩
    have efi := u_fi_next (r := r) (F := F) (by omega : (dn : Int) < q_w M t) hy
    have hok2 := hok
    rw [efi] at hok2
    refine ev_aload_n (i := 0) d_Ma_turn_31 rfl rfl rfl ?_
    refine ev_getR d_Ma_turn_32 rfl lk_Ma_15 lx_34 rfl ?_
    refine ev_iload_n (i := 2) d_Ma_turn_35 rfl rfl rfl ?_
    refine ev_aload_n (i := 0) d_Ma_turn_36 rfl rfl rfl ?_
    refine ev_getR d_Ma_turn_37 rfl lk_Ma_39 lx_34 rfl ?_
    refine ev_iload_n (i := 1) d_Ma_turn_40 rfl rfl rfl ?_
    refine ev_iaload (z := (dn : Int)) d_Ma_turn_41 rfl lx_41 (by omega) (by omega) (p4) ?_
    refine ev_callV (As := [g_i ((t : Int)), g_i ((dn : Int))]) d_Ma_turn_42 rfl cl_Ma_97 ((c_Te_part (d + 104) M1 t dn ht100 (by omega)).eqr (b := (y : Int)) (by rw [hM.1 13 _ (by decide), (hr3 dn (by omega)).1]; exact hy)) (g_hR (by decide)) g_h0 lx_9 rfl rfl (Nat.le_of_ble_eq_true rfl) rfl rfl ?_
    refine ev_istore_n (i := 3) d_Ma_turn_45 rfl rfl (by decide) rfl ?_
    refine ev_aload_n (i := 0) d_Ma_turn_46 rfl rfl rfl ?_
    refine ev_getR d_Ma_turn_47 rfl lk_Ma_39 lx_34 rfl ?_
    refine ev_iload_n (i := 1) d_Ma_turn_50 rfl rfl rfl ?_
    refine ev_dup2 d_Ma_turn_51 rfl rfl rfl ?_
    refine ev_iaload (z := (dn : Int)) d_Ma_turn_52 rfl lx_41 (by omega) (by omega) (p4) ?_
    refine ev_iconst d_Ma_turn_53 rfl ⟨by decide, by decide⟩ ?_
    refine ev_iadd (z := (dn : Int) + 1) d_Ma_turn_54 rfl (g_w_id (by unfold g_rg; omega)) ?_
    refine ev_iastore d_Ma_turn_55 rfl lx_41 (by omega) (by omega) ?_
    rw [show Int.toNat (((F.length : Int))) = F.length by rfl]
    refine ev_aload_n (i := 0) d_Ma_turn_56 rfl rfl rfl ?_
    refine ev_iload_n (i := 3) d_Ma_turn_57 rfl rfl rfl ?_
    refine ev_aload_n (i := 0) d_Ma_turn_58 rfl rfl rfl ?_
    refine ev_getR d_Ma_turn_59 rfl lk_Ma_36 lx_34 rfl ?_
    refine ev_iload_n (i := 1) d_Ma_turn_62 rfl rfl rfl ?_
    refine ev_iaload (z := (r : Int)) d_Ma_turn_63 rfl lx_40 (by omega) (by omega) (by rw [g_up_ne (by decide)]; exact p3) ?_
    refine ev_callVR (As := [g_i (y : Int), g_i ((r : Int))]) d_Ma_turn_64 rfl cl_Ma_101 (c_Ma_open_s (d + 103) (n := n) hP (⟨(t, r, dn + 1) :: F, rfl, u_Ms_fr hM (fun k b h1 h2 h3 h4 => by simp only [g_up]; rw [if_neg (fun h => h4 h.1)]) (u_fm_next hM.2.1) (fun e he => by rcases List.mem_cons.mp he with rfl | he; exact ⟨ht, h8, by show ((dn + 1 : Nat) : Int) ≤ q_w M t; omega⟩; exact hM.2.2.1 e (List.mem_cons_of_mem _ he))⟩ : u_Cs M (g_up M1 41 F.length ((dn : Int) + 1)) (u_fi M ((t, r, dn + 1) :: F), H, B, st, bu)) hok2) (g_hR (by decide)) g_h0 lx_34 rfl rfl (Nat.le_of_ble_eq_true rfl) rfl rfl (fun M2 v9 g9 => ?_)
    obtain ⟨rfl, hs4, hC4⟩ := g9
    have hgo : u_To M n (u_fi M ((t, r, dn) :: F), H, B, st, bu) M2 := u_To_1 hP hok (by rw [efi]; simp) (Or.inr (by rw [efi]; exact ⟨hs4, hC4⟩))
    exact ev_retVR d_Ma_turn_67 (⟨rfl, hgo⟩)
