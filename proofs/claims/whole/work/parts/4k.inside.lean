theorem q_eq.e46 {M M1 : g_M} (h : q_eq M M1) : ∀ k : Nat, 46 ≤ k ∧ k < 59 → M1 k = M k := fun k hk => h.fn (by omega) (by omega) (by omega)
theorem c_Mo_alike_q (d : Nat) (M M1 : g_M) (s t : Nat) (hT : q_T M) (hq : q_eq M M1) (hs : (s : Int) < M 45 8) (ht : (t : Int) < M 45 8) : ConR y_Mo_alike w_Mo_alike (g_rm (d + 2)) LX M1 [g_r 45, g_i (s : Int), g_i (t : Int)] LX (fun M2 v2 => v2 = some (g_i (if q_a M s t = true then 1 else 0)) ∧ q_eq M M2) := by
  have h8 : M1 45 8 = M 45 8 := hq 45 8 (by decide) (by decide) (by decide)
  refine (c_Mo_alike d M1 s t (q_T_cg hq.e46 h8 hT) (by rw [h8]; exact hs) (by rw [h8]; exact ht)).mono (fun M2 v2 h => ⟨?_, hq.tr h.2⟩)
  rw [h.1, q_a_cg hq.e46]
theorem c_Mo_places_q (d : Nat) (M M1 : g_M) (t w : Nat) (hT : q_T M) (hq : q_eq M M1) (ht : (t : Int) < M 45 8) (hw : q_w M t = w) : Con y_Mo_places w_Mo_places (g_rm d) LX M1 [g_r 45, g_i (t : Int)] LX M1 (some (g_i (w : Int))) := by
  obtain ⟨h0, h1, -⟩ := hT.2.2 t ht
  have hnt := hT.2.1
  have e : M1 52 t = M 52 t := hq 52 t (by decide) (by decide) (by omega)
  refine (c_Mo_places d M1 t (by omega) (by omega) (by omega)).eqr ?_
  rw [← hw, q_w_eq hq]
/-- alike to the k-th part, or to a part of it -/
def z_i (M : g_M) (t p k : Nat) : Bool := q_a M t (M 53 (3 * p + k)).toNat || (List.range (q_w M (M 53 (3 * p + k)).toNat).toNat).any (fun j => q_a M t (M 53 (3 * (M 53 (3 * p + k)).toNat + j)).toNat)
theorem z_i_x {M : g_M} {t p k x w : Nat} (hx : M 53 (3 * p + k) = x) (hw : q_w M x = w) : z_i M t p k = (q_a M t x || (List.range w).any (fun j => q_a M t (M 53 (3 * x + j)).toNat)) := by
  unfold z_i
  rw [hx, Int.toNat_natCast, hw, Int.toNat_natCast]
theorem c_Mo_inside (d : Nat) (M : g_M) (t p w : Nat) (hT : q_T M) (ht : (t : Int) < M 45 8) (hp : (p : Int) < M 45 8) (hw : q_w M p = w) : ConR y_Mo_inside w_Mo_inside (g_rm (d + 3)) LX M [g_r 45, g_i (t : Int), g_i (p : Int)] LX (fun M2 v2 => v2 = some (g_i (if q_a M t p = true then 1 else if (List.range w).any (z_i M t p) = true then 2 else 0)) ∧ q_eq M M2) := by
  refine con_ofR (av := [g_r 45, g_i (t : Int), g_i (p : Int)]) (ls0 := [some (g_r 45), some (g_i (t : Int)), some (g_i (p : Int)), none, none, none, none]) (by decide) rfl (Nat.le_of_ble_eq_true rfl) (g_hls (av := [g_r 45, g_i (t : Int), g_i (p : Int)]) (k := 4)) (fun _ h9 => List.mem_cons_of_mem _ h9) ?_
  have hnt := hT.2.1
  obtain ⟨-, -, hp3, hp4, hp5, -⟩ := hT.2.2 p hp
  refine ev_aload_n (i := 0) d_Mo_inside_0 rfl rfl rfl ?_
  refine ev_iload_n (i := 1) d_Mo_inside_1 rfl rfl rfl ?_
  refine ev_iload_n (i := 2) d_Mo_inside_2 rfl rfl rfl ?_
  refine ev_callVR (As := [g_i (t : Int), g_i (p : Int)]) d_Mo_inside_3 rfl cl_Mo_186 (c_Mo_alike (d + 0) M t p hT ht hp) (g_hR (by decide)) g_h0 lx_45 rfl rfl (Nat.le_of_ble_eq_true rfl) rfl rfl (fun M3 v9 g9 => ?_)
  obtain ⟨rfl, hq3⟩ := g9
  refine ev_beq (tgt := 11) d_Mo_inside_6 (by decide) rfl (fun c1 => ?_) (fun c1 => ?_)
  · refine ev_iconst d_Mo_inside_11 rfl ⟨by decide, by decide⟩ ?_
    refine ev_istore_n (i := 3) d_Mo_inside_12 rfl rfl (by decide) rfl ?_
    refine ev_wh (fun n ls1 M1 => ∃ k : Nat, k ≤ w ∧ n = w - k ∧ ls1 = [some (g_r 45), some (g_i (t : Int)), some (g_i (p : Int)), some (g_i (k : Int)), none, none, none] ∧ q_eq M M1 ∧ (List.range k).any (z_i M t p) = false) ?_ (n := w) (⟨0, Nat.zero_le _, rfl, rfl, hq3, rfl⟩)
    intro n ls1 M1 hP0 ih
    obtain ⟨k, hk, hn, rfl, hq1, hv⟩ := hP0
    refine ev_iload_n (i := 3) d_Mo_inside_13 rfl rfl rfl ?_
    refine ev_aload_n (i := 0) d_Mo_inside_14 rfl rfl rfl ?_
    refine ev_iload_n (i := 2) d_Mo_inside_15 rfl rfl rfl ?_
    refine ev_callV (As := [g_i (p : Int)]) d_Mo_inside_16 rfl cl_Mo_144 (c_Mo_places_q (d + 2) M M1 p w hT hq1 hp hw) (g_hR (by decide)) g_h0 lx_45 rfl rfl (Nat.le_of_ble_eq_true rfl) rfl rfl ?_
    refine ev_icmp_ge (tgt := 100) d_Mo_inside_19 (by decide) rfl (fun hz => ?_) (fun hz => ?_)
    · refine ev_iconst d_Mo_inside_100 rfl ⟨by decide, by decide⟩ ?_
      exact ev_retIR d_Mo_inside_101 (⟨by have e : k = w := (by omega); subst e; rw [if_neg c1, if_neg (by rw [hv]; decide)], hq1⟩) (Or.inl rfl)
    · obtain ⟨x, hxe⟩ : ∃ x : Nat, M 53 (3 * p + k) = x := ⟨(M 53 (3 * p + k)).toNat, by have := hp5 k (by omega); omega⟩
      have hx : (x : Int) < M 45 8 := by have := hp5 k (by omega); omega
      obtain ⟨-, -, hx3, hx4, hx5, -⟩ := hT.2.2 x hx
      obtain ⟨wx, hwx⟩ : ∃ wx : Nat, q_w M x = wx := ⟨(q_w M x).toNat, by omega⟩
      refine ev_aload_n (i := 0) d_Mo_inside_22 rfl rfl rfl ?_
      refine ev_getR d_Mo_inside_23 rfl lk_Mo_31 lx_45 rfl ?_
      refine ev_iconst d_Mo_inside_26 rfl ⟨by decide, by decide⟩ ?_
      refine ev_iload_n (i := 2) d_Mo_inside_27 rfl rfl rfl ?_
      refine ev_imul (z := 3 * (p : Int)) d_Mo_inside_28 rfl (g_w_id (by unfold g_rg; omega)) ?_
      refine ev_iload_n (i := 3) d_Mo_inside_29 rfl rfl rfl ?_
      refine ev_iadd (z := 3 * (p : Int) + (k : Int)) d_Mo_inside_30 rfl (g_w_id (by unfold g_rg; omega)) ?_
      refine ev_iaload (z := (x : Int)) d_Mo_inside_31 rfl lx_53 (by omega) (by omega) (by rw [show (3 * (p : Int) + (k : Int)).toNat = 3 * p + k by omega, hq1 53 _ (by decide) (by decide) (by omega)]; exact hxe) ?_
      refine ev_istore (i := 4) d_Mo_inside_32 rfl (by decide) rfl ?_
      refine ev_aload_n (i := 0) d_Mo_inside_34 rfl rfl rfl ?_
      refine ev_iload_n (i := 1) d_Mo_inside_35 rfl rfl rfl ?_
      refine ev_iload (i := 4) d_Mo_inside_36 rfl rfl ?_
      refine ev_callVR (As := [g_i (t : Int), g_i ((x : Int))]) d_Mo_inside_38 rfl cl_Mo_186 (c_Mo_alike_q (d + 0) M M1 t x hT hq1 ht hx) (g_hR (by decide)) g_h0 lx_45 rfl rfl (Nat.le_of_ble_eq_true rfl) rfl rfl (fun M4 v9 g9 => ?_)
      obtain ⟨rfl, hq4⟩ := g9
      refine ev_istore (i := 5) d_Mo_inside_41 rfl (by decide) rfl ?_
      refine ev_iconst d_Mo_inside_43 rfl ⟨by decide, by decide⟩ ?_
      refine ev_istore (i := 6) d_Mo_inside_44 rfl (by decide) rfl ?_
      refine ev_wh (fun n2 ls2 M5 => ∃ (j : Nat) (s : Int), j ≤ wx ∧ n2 = wx - j ∧ ls2 = [some (g_r 45), some (g_i (t : Int)), some (g_i (p : Int)), some (g_i (k : Int)), some (g_i (x : Int)), some (g_i s), some (g_i (j : Int))] ∧ q_eq M M5 ∧ (s = 0 ∨ s = 1) ∧ (s ≠ 0 ↔ (q_a M t x || (List.range j).any (fun j => q_a M t (M 53 (3 * x + j)).toNat)) = true)) ?_ (n := wx) (⟨0, _, Nat.zero_le _, rfl, rfl, hq4, by split <;> simp, by cases q_a M t x <;> simp⟩)
      intro n2 ls2 M5 hP2 ih2
      obtain ⟨j, s, hj, hnj, rfl, hq5, hs01, hsv⟩ := hP2
      refine ev_iload (i := 6) d_Mo_inside_46 rfl rfl ?_
      refine ev_aload_n (i := 0) d_Mo_inside_48 rfl rfl rfl ?_
      refine ev_iload (i := 4) d_Mo_inside_49 rfl rfl ?_
      refine ev_callV (As := [g_i (x : Int)]) d_Mo_inside_51 rfl cl_Mo_144 (c_Mo_places_q (d + 2) M M5 x wx hT hq5 hx hwx) (g_hR (by decide)) g_h0 lx_45 rfl rfl (Nat.le_of_ble_eq_true rfl) rfl rfl ?_
      refine ev_icmp_ge (tgt := 87) d_Mo_inside_54 (by decide) rfl (fun hz2 => ?_) (fun hz2 => ?_)
      · refine ev_iload (i := 5) d_Mo_inside_87 rfl rfl ?_
        refine ev_if_eq (tgt := 94) d_Mo_inside_89 (by decide) rfl (fun c4 => ?_) (fun c4 => ?_)
        · have hno : z_i M t p k = false := by
            have e : j = wx := by omega
            subst e
            rw [z_i_x hxe hwx, Bool.eq_false_iff]
            exact fun h9 => absurd (hsv.mpr h9) (by omega)
          refine ev_iinc (z := (k : Int) + 1) d_Mo_inside_94 rfl rfl (by decide) (g_w_id (by unfold g_rg; omega)) rfl ?_
          refine ev_goto (tgt := 13) d_Mo_inside_97 (by decide) ?_
          exact ev_le (ih (w - (k + 1)) [some (g_r 45), some (g_i (t : Int)), some (g_i (p : Int)), some (g_i ((k + 1 : Nat) : Int)), none, none, none] M5 (by omega) ⟨k + 1, by omega, rfl, rfl, hq5, z_any_n hv hno⟩) rfl ⟨rfl, rfl, rfl, rfl, trivial⟩
        · refine ev_iconst d_Mo_inside_92 rfl ⟨by decide, by decide⟩ ?_
          exact ev_retIR d_Mo_inside_93 (⟨by rw [if_neg c1, if_pos (z_any_y (show k < w by omega) (by rw [z_i_x hxe hwx]; have h9 := hsv.mp (by first | exact c3 | exact c4); rw [Bool.or_eq_true] at h9 ⊢; rcases h9 with h9 | h9; exact Or.inl h9; exact Or.inr (by rw [List.any_eq_true] at h9 ⊢; obtain ⟨a, ha, hb⟩ := h9; exact ⟨a, List.mem_range.mpr (by have := List.mem_range.mp ha; omega), hb⟩)))], hq5⟩) (Or.inl rfl)
      · refine ev_iload (i := 5) d_Mo_inside_57 rfl rfl ?_
        refine ev_if_ne (tgt := 87) d_Mo_inside_59 (by decide) rfl (fun c3 => ?_) (fun c3 => ?_)
        · refine ev_iload (i := 5) d_Mo_inside_87 rfl rfl ?_
          refine ev_if_eq_f (tgt := 94) d_Mo_inside_89 (by decide) rfl (c3) ?_
          refine ev_iconst d_Mo_inside_92 rfl ⟨by decide, by decide⟩ ?_
          exact ev_retIR d_Mo_inside_93 (⟨by rw [if_neg c1, if_pos (z_any_y (show k < w by omega) (by rw [z_i_x hxe hwx]; have h9 := hsv.mp (by first | exact c3 | exact c4); rw [Bool.or_eq_true] at h9 ⊢; rcases h9 with h9 | h9; exact Or.inl h9; exact Or.inr (by rw [List.any_eq_true] at h9 ⊢; obtain ⟨a, ha, hb⟩ := h9; exact ⟨a, List.mem_range.mpr (by have := List.mem_range.mp ha; omega), hb⟩)))], hq5⟩) (Or.inl rfl)
        · obtain ⟨y, hy⟩ : ∃ y : Nat, M 53 (3 * x + j) = y := ⟨(M 53 (3 * x + j)).toNat, by have := hx5 j (by omega); omega⟩
          have hyt : (y : Int) < M 45 8 := by have := hx5 j (by omega); omega
          refine ev_aload_n (i := 0) d_Mo_inside_62 rfl rfl rfl ?_
          refine ev_iload_n (i := 1) d_Mo_inside_63 rfl rfl rfl ?_
          refine ev_aload_n (i := 0) d_Mo_inside_64 rfl rfl rfl ?_
          refine ev_getR d_Mo_inside_65 rfl lk_Mo_31 lx_45 rfl ?_
          refine ev_iconst d_Mo_inside_68 rfl ⟨by decide, by decide⟩ ?_
          refine ev_iload (i := 4) d_Mo_inside_69 rfl rfl ?_
          refine ev_imul (z := 3 * (x : Int)) d_Mo_inside_71 rfl (g_w_id (by unfold g_rg; omega)) ?_
          refine ev_iload (i := 6) d_Mo_inside_72 rfl rfl ?_
          refine ev_iadd (z := 3 * (x : Int) + (j : Int)) d_Mo_inside_74 rfl (g_w_id (by unfold g_rg; omega)) ?_
          refine ev_iaload (z := (y : Int)) d_Mo_inside_75 rfl lx_53 (by omega) (by omega) (by rw [show (3 * (x : Int) + (j : Int)).toNat = 3 * x + j by omega, hq5 53 _ (by decide) (by decide) (by omega)]; exact hy) ?_
          refine ev_callVR (As := [g_i (t : Int), g_i ((y : Int))]) d_Mo_inside_76 rfl cl_Mo_186 (c_Mo_alike_q (d + 0) M M5 t y hT hq5 ht hyt) (g_hR (by decide)) g_h0 lx_45 rfl rfl (Nat.le_of_ble_eq_true rfl) rfl rfl (fun M6 v9 g9 => ?_)
          obtain ⟨rfl, hq6⟩ := g9
          refine ev_istore (i := 5) d_Mo_inside_79 rfl (by decide) rfl ?_
          refine ev_iinc (z := (j : Int) + 1) d_Mo_inside_81 rfl rfl (by decide) (g_w_id (by unfold g_rg; omega)) rfl ?_
          refine ev_goto (tgt := 46) d_Mo_inside_84 (by decide) ?_
          refine ev_le (ih2 (wx - (j + 1)) [some (g_r 45), some (g_i (t : Int)), some (g_i (p : Int)), some (g_i (k : Int)), some (g_i (x : Int)), some (g_i (if q_a M t y = true then 1 else 0)), some (g_i ((j + 1 : Nat) : Int))] M6 (by omega) ⟨j + 1, _, by omega, rfl, rfl, hq6, by split <;> simp, ?_⟩) rfl ⟨rfl, rfl, rfl, rfl, rfl, rfl, rfl, trivial⟩
          have h0 : (q_a M t x || (List.range j).any (fun j => q_a M t (M 53 (3 * x + j)).toNat)) = false := by rw [Bool.eq_false_iff]; exact fun h9 => absurd (hsv.mpr h9) (by omega)
          rw [z_any_s, ← Bool.or_assoc, h0, hy, Int.toNat_natCast]
          cases q_a M t y <;> simp
  · refine ev_iconst d_Mo_inside_9 rfl ⟨by decide, by decide⟩ ?_
    exact ev_retIR d_Mo_inside_10 (⟨by rw [if_pos c1], hq3⟩) (Or.inl rfl)
