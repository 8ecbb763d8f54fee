/-- fewer known locals -/
def g_le : g_Ls → g_Ls → Prop
  | [], _ => True
  | none :: a, b => g_le a b.tail
  | some v :: a, b => b.head? = some (some v) ∧ g_le a b.tail
theorem g_le_of : ∀ {a b : g_Ls}, g_le a b → ∀ (i : Nat) (v : g_v), a[i]? = some (some v) → b[i]? = some (some v)
  | [], _, _, i, v, h => by simp at h
  | none :: a, b, hl, 0, v, h => by simp at h
  | none :: a, b, hl, i + 1, v, h => by
    have := g_le_of (a := a) (b := b.tail) hl i v (by simpa using h)
    rw [List.getElem?_tail] at this
    exact this
  | some u :: a, b, hl, 0, v, h => by
    have h1 := hl.1
    rw [List.head?_eq_getElem?] at h1
    simp at h
    rw [h1, h]
  | some u :: a, b, hl, i + 1, v, h => by
    have := g_le_of (a := a) (b := b.tail) hl.2 i v (by simpa using h)
    rw [List.getElem?_tail] at this
    exact this
theorem ev_le {Me : g_Me} {R : Room} {Fi : g_Fin} {pc : Nat} {ls ls' : g_Ls} {st : List g_v} {L : g_L} {M M' : g_M} {nc ns : Nat} (k : Ev Me R Fi pc ls' st L M' nc ns) (hM : M = M') (h : g_le ls' ls) : Ev Me R Fi pc ls st L M nc ns := by
  subst hM; exact ev_less (g_le_of h) k
/-- the parts that a join takes: is each there; the highest; the sum of sizes -/
abbrev j_pk (x y z : Int) (i : Nat) : Int := if (i : Int) = 0 then x else if (i : Int) = 1 then y else z
abbrev j_ok (n x y z : Int) (w : Nat) : Prop := (w < 1 ∨ (0 ≤ x ∧ x < n)) ∧ (w < 2 ∨ (0 ≤ y ∧ y < n)) ∧ (w < 3 ∨ (0 ≤ z ∧ z < n))
def j_h (h : Nat → Int) (x y z : Int) : Nat → Int
  | 0 => 0
  | i + 1 => if j_h h x y z i < h (j_pk x y z i).toNat then h (j_pk x y z i).toNat else j_h h x y z i
def j_s (h : Nat → Int) (x y z : Int) : Nat → Int
  | 0 => 1
  | i + 1 => j_s h x y z i + h (j_pk x y z i).toNat
/-- what is known of the terms' heights and sizes -/
def j_B (n : Int) (h s : Nat → Int) : Prop := n ≤ 100 ∧ ∀ t : Nat, (t : Int) < n → 0 ≤ h t ∧ h t ≤ 6 ∧ 1 ≤ s t ∧ s t ≤ 40
abbrev j_fit (n : Int) (h s : Nat → Int) (x y z : Int) (w : Nat) : Prop := j_ok n x y z w ∧ j_h h x y z w < 6 ∧ j_s s x y z w ≤ 40
theorem c_Fu_pickJ (d : Nat) (M : g_M) (i : Nat) (x y z : Int) : Con y_Fu_pick w_Fu_pick (g_rm d) LX M [g_i (i : Int), g_i x, g_i y, g_i z] LX M (some (g_i (j_pk x y z i))) := c_Fu_pick d M i x y z
theorem j_at {n : Int} {h s : Nat → Int} (hB : j_B n h s) {x : Int} (hx : 0 ≤ x ∧ x < n) : 0 ≤ h x.toNat ∧ h x.toNat ≤ 6 ∧ 1 ≤ s x.toNat ∧ s x.toNat ≤ 40 := hB.2 _ (by omega)
theorem j_pk_in {n x y z : Int} {w i : Nat} (h : j_ok n x y z w) (hw : w ≤ 3) (hi : i < w) : 0 ≤ j_pk x y z i ∧ j_pk x y z i < n := by
  obtain ⟨h1, h2, h3⟩ := h
  simp only [j_pk]
  omega
theorem j_h_rg {n : Int} {h s : Nat → Int} (hB : j_B n h s) {x y z : Int} {w : Nat} (hok : j_ok n x y z w) (hw : w ≤ 3) : ∀ i, i ≤ w → 0 ≤ j_h h x y z i ∧ j_h h x y z i ≤ 6
  | 0, _ => ⟨Int.le_refl _, by show (0 : Int) ≤ 6; decide⟩
  | i + 1, hi => by
    have h1 := j_h_rg hB hok hw i (by omega)
    have h2 := j_at hB (j_pk_in hok hw (i := i) (by omega))
    simp only [j_h]
    split <;> omega
theorem j_s_rg {n : Int} {h s : Nat → Int} (hB : j_B n h s) {x y z : Int} {w : Nat} (hok : j_ok n x y z w) (hw : w ≤ 3) : ∀ i, i ≤ w → 1 ≤ j_s s x y z i ∧ j_s s x y z i ≤ 1 + 40 * i
  | 0, _ => ⟨Int.le_refl _, by show (1 : Int) ≤ 1 + 40 * ((0 : Nat) : Int); decide⟩
  | i + 1, hi => by
    have h1 := j_s_rg hB hok hw i (by omega)
    have h2 := j_at hB (j_pk_in hok hw (i := i) (by omega))
    simp only [j_s]
    omega
theorem j_fst {n x y z : Int} {w : Nat} (hw : w ≤ 3) (h : ¬ j_ok n x y z w) : ∃ i0, i0 < w ∧ ¬ (0 ≤ j_pk x y z i0 ∧ j_pk x y z i0 < n) ∧ ∀ i, i < i0 → 0 ≤ j_pk x y z i ∧ j_pk x y z i < n := by
  simp only [j_ok] at h
  by_cases a : 0 ≤ x ∧ x < n
  · by_cases b : 0 ≤ y ∧ y < n
    · refine ⟨2, by omega, by simp only [j_pk]; omega, fun i hi => ?_⟩
      simp only [j_pk]; omega
    · refine ⟨1, by omega, by simp only [j_pk]; omega, fun i hi => ?_⟩
      simp only [j_pk]; omega
  · exact ⟨0, by omega, by simp only [j_pk]; omega, fun i hi => absurd hi (by omega)⟩
theorem j_s_rg' {n : Int} {h s : Nat → Int} (hB : j_B n h s) {x y z : Int} {w : Nat} (hw : w ≤ 3) (hin : ∀ i, i < w → 0 ≤ j_pk x y z i ∧ j_pk x y z i < n) : ∀ i, i ≤ w → 1 ≤ j_s s x y z i ∧ j_s s x y z i ≤ 1 + 40 * i
  | 0, _ => ⟨Int.le_refl _, by show (1 : Int) ≤ 1 + 40 * ((0 : Nat) : Int); decide⟩
  | i + 1, hi => by
    have h1 := j_s_rg' hB hw hin i (by omega)
    have h2 := j_at hB (hin i (by omega))
    simp only [j_s]
    omega
theorem c_Te_canJoin_ok (d : Nat) (M : g_M) (w : Nat) (x y z : Int) (hw : w ≤ 3) (hB : j_B (M 9 9) (M 14) (M 15)) (hok : j_ok (M 9 9) x y z w) : Con y_Te_canJoin w_Te_canJoin (g_rm (d + 1)) LX M [g_r 9, g_i (w : Int), g_i x, g_i y, g_i z] LX M (some (g_i (if j_fit (M 9 9) (M 14) (M 15) x y z w then 1 else 0))) := by
  refine con_of (av := [g_r 9, g_i (w : Int), g_i x, g_i y, g_i z]) (ls0 := [some (g_r 9), some (g_i (w : Int)), some (g_i x), some (g_i y), some (g_i z), none, none, none, none]) (by decide) rfl (Nat.le_of_ble_eq_true rfl) (g_hls (av := [g_r 9, g_i (w : Int), g_i x, g_i y, g_i z]) (k := 4)) (fun _ h9 => List.mem_cons_of_mem _ h9) ?_
  have hb1 := hB.1
  have hw3 := hw
  have hin : ∀ i, i < w → 0 ≤ j_pk x y z i ∧ j_pk x y z i < M 9 9 := fun i hi => j_pk_in hok hw hi
  refine ev_iconst d_Te_canJoin_0 rfl ⟨by decide, by decide⟩ ?_
  refine ev_istore (i := 5) d_Te_canJoin_1 rfl (by decide) rfl ?_
  refine ev_iconst d_Te_canJoin_3 rfl ⟨by decide, by decide⟩ ?_
  refine ev_istore (i := 6) d_Te_canJoin_4 rfl (by decide) rfl ?_
  refine ev_iconst d_Te_canJoin_6 rfl ⟨by decide, by decide⟩ ?_
  refine ev_istore (i := 7) d_Te_canJoin_7 rfl (by decide) rfl ?_
  refine ev_lp (fun i : Nat => [some (g_r 9), some (g_i (w : Int)), some (g_i x), some (g_i y), some (g_i z), some (g_i (j_h (M 14) x y z i)), some (g_i (j_s (M 15) x y z i)), some (g_i (i : Int)), none]) (fun i : Nat => M) w ?_ ?_ (rfl) (rfl)
  · intro i hi K9
    have hp := hin i hi
    have hs1 := j_s_rg' hB hw3 hin i (by omega)
    have hs2 := j_at hB hp
    refine ev_iload (i := 7) d_Te_canJoin_9 rfl rfl ?_
    refine ev_iload_n (i := 1) d_Te_canJoin_11 rfl rfl rfl ?_
    refine ev_icmp_ge_f (tgt := 69) d_Te_canJoin_12 (by decide) rfl (by omega) ?_
    refine ev_iload (i := 7) d_Te_canJoin_15 rfl rfl ?_
    refine ev_iload_n (i := 2) d_Te_canJoin_17 rfl rfl rfl ?_
    refine ev_iload_n (i := 3) d_Te_canJoin_18 rfl rfl rfl ?_
    refine ev_iload (i := 4) d_Te_canJoin_19 rfl rfl ?_
    refine ev_callN (As := [g_i (i : Int), g_i x, g_i y, g_i z]) d_Te_canJoin_21 rfl cl_Te_44 (c_Fu_pickJ (d + 0) M i x y z) (g_hR (by decide)) g_h0 rfl rfl (Nat.le_of_ble_eq_true rfl) rfl rfl ?_
    refine ev_istore (i := 8) d_Te_canJoin_24 rfl (by decide) rfl ?_
    refine ev_aload_n (i := 0) d_Te_canJoin_26 rfl rfl rfl ?_
    refine ev_iload (i := 8) d_Te_canJoin_27 rfl rfl ?_
    refine ev_callV (As := [g_i (j_pk x y z i)]) d_Te_canJoin_29 rfl cl_Te_48 (c_Te_has (d + 0) M ((j_pk x y z i))) (g_hR (by decide)) g_h0 lx_9 rfl rfl (Nat.le_of_ble_eq_true rfl) rfl rfl ?_
    refine ev_if_ne_t (tgt := 37) d_Te_canJoin_32 (by decide) (by rw [if_pos hp]; decide) ?_
    refine ev_iload (i := 5) d_Te_canJoin_37 rfl rfl ?_
    refine ev_aload_n (i := 0) d_Te_canJoin_39 rfl rfl rfl ?_
    refine ev_getR d_Te_canJoin_40 rfl lk_Te_24 lx_9 rfl ?_
    refine ev_iload (i := 8) d_Te_canJoin_43 rfl rfl ?_
    refine ev_iaload (z := M 14 (j_pk x y z i).toNat) d_Te_canJoin_45 rfl lx_14 (by omega) (by omega) (rfl) ?_
    refine ev_max (z := j_h (M 14) x y z (i + 1)) d_Te_canJoin_46 rfl gx_max1 ⟨by show 1 ≤ d + 1; omega, by show 0 + 13 ≤ 40 * (d + 1); omega⟩ ⟨Nat.zero_le _, Nat.zero_le _⟩ (rfl) ?_
    refine ev_istore (i := 5) d_Te_canJoin_49 rfl (by decide) rfl ?_
    refine ev_iload (i := 6) d_Te_canJoin_51 rfl rfl ?_
    refine ev_aload_n (i := 0) d_Te_canJoin_53 rfl rfl rfl ?_
    refine ev_getR d_Te_canJoin_54 rfl lk_Te_27 lx_9 rfl ?_
    refine ev_iload (i := 8) d_Te_canJoin_57 rfl rfl ?_
    refine ev_iaload (z := M 15 (j_pk x y z i).toNat) d_Te_canJoin_59 rfl lx_15 (by omega) (by omega) (rfl) ?_
    refine ev_iadd (z := j_s (M 15) x y z (i + 1)) d_Te_canJoin_60 rfl (g_w_id (by unfold g_rg; omega)) ?_
    refine ev_istore (i := 6) d_Te_canJoin_61 rfl (by decide) rfl ?_
    refine ev_iinc (z := (i : Int) + 1) d_Te_canJoin_63 rfl rfl (by decide) (g_w_id (by unfold g_rg; omega)) rfl ?_
    refine ev_goto (tgt := 9) d_Te_canJoin_66 (by decide) ?_
    exact ev_le K9 (rfl) ⟨rfl, rfl, rfl, rfl, rfl, rfl, rfl, rfl, trivial⟩
  · refine ev_iload (i := 7) d_Te_canJoin_9 rfl rfl ?_
    refine ev_iload_n (i := 1) d_Te_canJoin_11 rfl rfl rfl ?_
    refine ev_icmp_ge_t (tgt := 69) d_Te_canJoin_12 (by decide) (by omega) ?_
    refine ev_iload (i := 5) d_Te_canJoin_69 rfl rfl ?_
    refine ev_bipush d_Te_canJoin_71 rfl (by decide +kernel) ⟨by decide, by decide⟩ ?_
    refine ev_icmp_ge (tgt := 87) d_Te_canJoin_73 (by decide) rfl (fun h1 => ?_) (fun h1 => ?_)
    · refine ev_iconst d_Te_canJoin_87 rfl ⟨by decide, by decide⟩ ?_
      exact ev_retI d_Te_canJoin_88 (by first | exact (if_pos ⟨hok, by omega, by omega⟩).symm | exact (if_neg (fun h9 => by have := h9.2.1; have := h9.2.2; omega)).symm) rfl (Or.inr ⟨rfl, by omega⟩)
    · refine ev_iload (i := 6) d_Te_canJoin_76 rfl rfl ?_
      refine ev_bipush d_Te_canJoin_78 rfl (by decide +kernel) ⟨by decide, by decide⟩ ?_
      refine ev_icmp_gt (tgt := 87) d_Te_canJoin_80 (by decide) rfl (fun h2 => ?_) (fun h2 => ?_)
      · refine ev_iconst d_Te_canJoin_87 rfl ⟨by decide, by decide⟩ ?_
        exact ev_retI d_Te_canJoin_88 (by first | exact (if_pos ⟨hok, by omega, by omega⟩).symm | exact (if_neg (fun h9 => by have := h9.2.1; have := h9.2.2; omega)).symm) rfl (Or.inr ⟨rfl, by omega⟩)
      · refine ev_iconst d_Te_canJoin_83 rfl ⟨by decide, by decide⟩ ?_
        refine ev_goto (tgt := 88) d_Te_canJoin_84 (by decide) ?_
        exact ev_retI d_Te_canJoin_88 (by first | exact (if_pos ⟨hok, by omega, by omega⟩).symm | exact (if_neg (fun h9 => by have := h9.2.1; have := h9.2.2; omega)).symm) rfl (Or.inr ⟨rfl, by omega⟩)
theorem c_Te_canJoin_no (d : Nat) (M : g_M) (w i0 : Nat) (x y z : Int) (hw : w ≤ 3) (hB : j_B (M 9 9) (M 14) (M 15)) (hi0 : i0 < w) (hno : ¬ (0 ≤ j_pk x y z i0 ∧ j_pk x y z i0 < M 9 9)) (hin : ∀ i, i < i0 → 0 ≤ j_pk x y z i ∧ j_pk x y z i < M 9 9) : Con y_Te_canJoin w_Te_canJoin (g_rm (d + 1)) LX M [g_r 9, g_i (w : Int), g_i x, g_i y, g_i z] LX M (some (g_i 0)) := by
  refine con_of (av := [g_r 9, g_i (w : Int), g_i x, g_i y, g_i z]) (ls0 := [some (g_r 9), some (g_i (w : Int)), some (g_i x), some (g_i y), some (g_i z), none, none, none, none]) (by decide) rfl (Nat.le_of_ble_eq_true rfl) (g_hls (av := [g_r 9, g_i (w : Int), g_i x, g_i y, g_i z]) (k := 4)) (fun _ h9 => List.mem_cons_of_mem _ h9) ?_
  have hb1 := hB.1
  have hw3 : i0 ≤ 3 := by omega
  refine ev_iconst d_Te_canJoin_0 rfl ⟨by decide, by decide⟩ ?_
  refine ev_istore (i := 5) d_Te_canJoin_1 rfl (by decide) rfl ?_
  refine ev_iconst d_Te_canJoin_3 rfl ⟨by decide, by decide⟩ ?_
  refine ev_istore (i := 6) d_Te_canJoin_4 rfl (by decide) rfl ?_
  refine ev_iconst d_Te_canJoin_6 rfl ⟨by decide, by decide⟩ ?_
  refine ev_istore (i := 7) d_Te_canJoin_7 rfl (by decide) rfl ?_
  refine ev_lp (fun i : Nat => [some (g_r 9), some (g_i (w : Int)), some (g_i x), some (g_i y), some (g_i z), some (g_i (j_h (M 14) x y z i)), some (g_i (j_s (M 15) x y z i)), some (g_i (i : Int)), none]) (fun i : Nat => M) i0 ?_ ?_ (rfl) (rfl)
  · intro i hi K9
    have hp := hin i hi
    have hs1 := j_s_rg' hB hw3 hin i (by omega)
    have hs2 := j_at hB hp
    refine ev_iload (i := 7) d_Te_canJoin_9 rfl rfl ?_
    refine ev_iload_n (i := 1) d_Te_canJoin_11 rfl rfl rfl ?_
    refine ev_icmp_ge_f (tgt := 69) d_Te_canJoin_12 (by decide) rfl (by omega) ?_
    refine ev_iload (i := 7) d_Te_canJoin_15 rfl rfl ?_
    refine ev_iload_n (i := 2) d_Te_canJoin_17 rfl rfl rfl ?_
    refine ev_iload_n (i := 3) d_Te_canJoin_18 rfl rfl rfl ?_
    refine ev_iload (i := 4) d_Te_canJoin_19 rfl rfl ?_
    refine ev_callN (As := [g_i (i : Int), g_i x, g_i y, g_i z]) d_Te_canJoin_21 rfl cl_Te_44 (c_Fu_pickJ (d + 0) M i x y z) (g_hR (by decide)) g_h0 rfl rfl (Nat.le_of_ble_eq_true rfl) rfl rfl ?_
    refine ev_istore (i := 8) d_Te_canJoin_24 rfl (by decide) rfl ?_
    refine ev_aload_n (i := 0) d_Te_canJoin_26 rfl rfl rfl ?_
    refine ev_iload (i := 8) d_Te_canJoin_27 rfl rfl ?_
    refine ev_callV (As := [g_i (j_pk x y z i)]) d_Te_canJoin_29 rfl cl_Te_48 (c_Te_has (d + 0) M ((j_pk x y z i))) (g_hR (by decide)) g_h0 lx_9 rfl rfl (Nat.le_of_ble_eq_true rfl) rfl rfl ?_
    refine ev_if_ne_t (tgt := 37) d_Te_canJoin_32 (by decide) (by rw [if_pos hp]; decide) ?_
    refine ev_iload (i := 5) d_Te_canJoin_37 rfl rfl ?_
    refine ev_aload_n (i := 0) d_Te_canJoin_39 rfl rfl rfl ?_
    refine ev_getR d_Te_canJoin_40 rfl lk_Te_24 lx_9 rfl ?_
    refine ev_iload (i := 8) d_Te_canJoin_43 rfl rfl ?_
    refine ev_iaload (z := M 14 (j_pk x y z i).toNat) d_Te_canJoin_45 rfl lx_14 (by omega) (by omega) (rfl) ?_
    refine ev_max (z := j_h (M 14) x y z (i + 1)) d_Te_canJoin_46 rfl gx_max1 ⟨by show 1 ≤ d + 1; omega, by show 0 + 13 ≤ 40 * (d + 1); omega⟩ ⟨Nat.zero_le _, Nat.zero_le _⟩ (rfl) ?_
    refine ev_istore (i := 5) d_Te_canJoin_49 rfl (by decide) rfl ?_
    refine ev_iload (i := 6) d_Te_canJoin_51 rfl rfl ?_
    refine ev_aload_n (i := 0) d_Te_canJoin_53 rfl rfl rfl ?_
    refine ev_getR d_Te_canJoin_54 rfl lk_Te_27 lx_9 rfl ?_
    refine ev_iload (i := 8) d_Te_canJoin_57 rfl rfl ?_
    refine ev_iaload (z := M 15 (j_pk x y z i).toNat) d_Te_canJoin_59 rfl lx_15 (by omega) (by omega) (rfl) ?_
    refine ev_iadd (z := j_s (M 15) x y z (i + 1)) d_Te_canJoin_60 rfl (g_w_id (by unfold g_rg; omega)) ?_
    refine ev_istore (i := 6) d_Te_canJoin_61 rfl (by decide) rfl ?_
    refine ev_iinc (z := (i : Int) + 1) d_Te_canJoin_63 rfl rfl (by decide) (g_w_id (by unfold g_rg; omega)) rfl ?_
    refine ev_goto (tgt := 9) d_Te_canJoin_66 (by decide) ?_
    exact ev_le K9 (rfl) ⟨rfl, rfl, rfl, rfl, rfl, rfl, rfl, rfl, trivial⟩
  · refine ev_iload (i := 7) d_Te_canJoin_9 rfl rfl ?_
    refine ev_iload_n (i := 1) d_Te_canJoin_11 rfl rfl rfl ?_
    refine ev_icmp_ge_f (tgt := 69) d_Te_canJoin_12 (by decide) rfl (by omega) ?_
    refine ev_iload (i := 7) d_Te_canJoin_15 rfl rfl ?_
    refine ev_iload_n (i := 2) d_Te_canJoin_17 rfl rfl rfl ?_
    refine ev_iload_n (i := 3) d_Te_canJoin_18 rfl rfl rfl ?_
    refine ev_iload (i := 4) d_Te_canJoin_19 rfl rfl ?_
    refine ev_callN (As := [g_i (i0 : Int), g_i x, g_i y, g_i z]) d_Te_canJoin_21 rfl cl_Te_44 (c_Fu_pickJ (d + 0) M i0 x y z) (g_hR (by decide)) g_h0 rfl rfl (Nat.le_of_ble_eq_true rfl) rfl rfl ?_
    refine ev_istore (i := 8) d_Te_canJoin_24 rfl (by decide) rfl ?_
    refine ev_aload_n (i := 0) d_Te_canJoin_26 rfl rfl rfl ?_
    refine ev_iload (i := 8) d_Te_canJoin_27 rfl rfl ?_
    refine ev_callV (As := [g_i (j_pk x y z i0)]) d_Te_canJoin_29 rfl cl_Te_48 (c_Te_has (d + 0) M ((j_pk x y z i0))) (g_hR (by decide)) g_h0 lx_9 rfl rfl (Nat.le_of_ble_eq_true rfl) rfl rfl ?_
    refine ev_if_ne_f (tgt := 37) d_Te_canJoin_32 (by decide) rfl (by rw [if_neg hno]) ?_
    refine ev_iconst d_Te_canJoin_35 rfl ⟨by decide, by decide⟩ ?_
    exact ev_retI d_Te_canJoin_36 (by first | rfl | omega | simp_all) rfl (Or.inr ⟨rfl, by omega⟩)
theorem c_Te_canJoin (d : Nat) (M : g_M) (w : Nat) (hw : w ≤ 3) (x y z : Int) (hB : j_B (M 9 9) (M 14) (M 15)) : Con y_Te_canJoin w_Te_canJoin (g_rm (d + 1)) LX M [g_r 9, g_i (w : Int), g_i x, g_i y, g_i z] LX M (some (g_i (if j_fit (M 9 9) (M 14) (M 15) x y z w then 1 else 0))) := by
  by_cases hok : j_ok (M 9 9) x y z w
  · exact c_Te_canJoin_ok d M w x y z hw hB hok
  · obtain ⟨i0, h1, h2, h3⟩ := j_fst hw hok
    rw [if_neg (fun h9 => hok h9.1)]
    exact c_Te_canJoin_no d M w i0 x y z hw hB h1 h2 h3
