theorem q_kids_e4 {M M1 : g_M} (h : q_e4 M M1) (t : Nat) : q_kids M1 t = q_kids M t := by
  unfold q_kids
  rw [q_w_e4 h, q_ks_e4 h]
theorem q_T_e4 {M M1 : g_M} (h : q_e4 M M1) (hT : q_T M) : q_T M1 := by
  have e8 : M1 45 8 = M 45 8 := h 45 8 (by decide) (by decide) (by decide) (by decide)
  have e52 := h.fn (k := 52) (by decide) (by decide) (by decide) (by decide)
  have e53 := h.fn (k := 53) (by decide) (by decide) (by decide) (by decide)
  have e55 := h.fn (k := 55) (by decide) (by decide) (by decide) (by decide)
  unfold q_T
  rw [e8, e52, e53, e55]
  refine ⟨hT.1, hT.2.1, fun t ht => ?_⟩
  rw [q_w_e4 h, q_kids_e4 h]
  exact hT.2.2 t ht
theorem q_pre_e4 {M M1 : g_M} (h : q_e4 M M1) : ∀ f t, q_pre M1 f t = q_pre M f t := by
  intro f
  induction f with
  | zero => intro t; rfl
  | succ f ih =>
    intro t
    show t :: (q_kids M1 t).flatMap (q_pre M1 f) = t :: (q_kids M t).flatMap (q_pre M f)
    rw [q_kids_e4 h, show q_pre M1 f = q_pre M f from funext ih]
theorem q_pl_e4 {M M1 : g_M} (h : q_e4 M M1) (t : Nat) : q_pl M1 t = q_pl M t := q_pre_e4 h t t
theorem q_pt_e4 {M M1 : g_M} (h : q_e4 M M1) (s : Nat → Int) (t : Nat) : q_pt M1 s t = q_pt M s t := by
  unfold q_pt
  rw [h.fn (k := 54) (by decide) (by decide) (by decide) (by decide), h.fn (k := 55) (by decide) (by decide) (by decide) (by decide), h.fn (k := 52) (by decide) (by decide) (by decide) (by decide), q_pl_e4 h]
theorem c_Mo_isPattern_I (d : Nat) (M M1 : g_M) (x : Int) (hT : q_T M) (hq : q_e4 M M1) (hx : 0 ≤ x ∧ x < M 45 8) : ConR y_Mo_isPattern w_Mo_isPattern (g_rm (d + 2)) LX M1 [g_r 45, g_i x] LX (fun M2 v2 => ∃ r : Int, v2 = some (g_i r) ∧ q_e4 M M2 ∧ ((r ≠ 0 ∧ q_pt M (M1 64) x.toNat = some (M2 64)) ∨ (r = 0 ∧ q_pt M (M1 64) x.toNat = none))) := by
  obtain ⟨t, rfl⟩ := Int.eq_ofNat_of_zero_le hx.1
  refine (c_Mo_isPattern d M1 t (q_T_e4 hq hT) (by rw [hq 45 8 (by decide) (by decide) (by decide) (by decide)]; exact hx.2)).mono ?_
  intro M2 v2 h
  rw [q_pt_e4 hq] at h
  obtain ⟨h1, ⟨s, h2, h3, h4⟩ | ⟨h2, h4⟩⟩ := h
  · exact ⟨1, h4, hq.tr h1, Or.inl ⟨by decide, by rw [h3]; exact h2⟩⟩
  · exact ⟨0, h4, hq.tr h1, Or.inr ⟨rfl, h2⟩⟩
/-- the seen variables, forgotten up to i -/
def q_z (M : g_M) (i : Nat) : g_M := fun k b => if k = 64 ∧ b < i then 0 else M k b
theorem q_z_0 (M : g_M) : M = q_z M 0 := by
  funext k b
  simp [q_z]
theorem q_z_s (M : g_M) (i : Nat) : g_up (q_z M i) 64 i 0 = q_z M (i + 1) := by
  funext k b
  simp only [g_up, q_z]
  by_cases hk : k = 64
  · subst hk
    by_cases hb : b = i
    · subst hb; simp
    · by_cases h : b < i
      · have : b < i + 1 := by omega
        simp [hb, h, this]
      · have : ¬ b < i + 1 := by omega
        simp [hb, h, this]
  · simp [hk]
theorem q_z_e4 (M : g_M) (i : Nat) : q_e4 M (q_z M i) := by
  intro k b _ _ h3 _
  simp [q_z, h3]
/-- what the first k patterns have seen -/
def q_pats (M : g_M) (p q r : Int) : Nat → Option (Nat → Int)
  | 0 => some (q_z M 8 64)
  | k + 1 => match q_pats M p q r k with
    | none => none
    | some s => if 0 ≤ j_pk p q r k ∧ j_pk p q r k < M 45 8 then q_pt M s (j_pk p q r k).toNat else none
theorem q_pats_none {M : g_M} {p q r : Int} {k : Nat} (h : q_pats M p q r k = none) : ∀ j, q_pats M p q r (k + j) = none
  | 0 => h
  | j + 1 => by
    show (match q_pats M p q r (k + j) with
      | none => none
      | some s => if 0 ≤ j_pk p q r (k + j) ∧ j_pk p q r (k + j) < M 45 8 then q_pt M s (j_pk p q r (k + j)).toNat else none) = none
    rw [q_pats_none h j]
theorem q_pats_no {M : g_M} {p q r : Int} {k w : Nat} (h : q_pats M p q r (k + 1) = none) (hk : k < w) : q_pats M p q r w = none := by
  have := q_pats_none h (w - (k + 1))
  rwa [show k + 1 + (w - (k + 1)) = w by omega] at this
/-- is it a clause: its patterns are, and the body has their variables alone -/
def q_cls (M : g_M) (w : Nat) (p q r : Int) (b : Nat) : Bool := match q_pats M p q r w with
  | none => false
  | some s => (q_pl M b).all (fun x => decide (8 ≤ M 52 x ∨ s (M 52 x).toNat ≠ 0))
theorem c_Mo_isClause (d : Nat) (M : g_M) (f w b : Nat) (p q r : Int) (hT : q_T M) (hf : f < 6) (hf2 : (f : Int) < M 45 4) (hw : M 50 f = w) (hw3 : w ≤ 3) (hb : (b : Int) < M 45 8) : ConR y_Mo_isClause w_Mo_isClause (g_rm (d + 3)) LX M [g_r 45, g_i (f : Int), g_i p, g_i q, g_i r, g_i (b : Int)] LX (fun M2 v2 => q_e4 M M2 ∧ v2 = some (g_i (if q_cls M w p q r b = true then 1 else 0))) := by
  refine con_ofR (av := [g_r 45, g_i (f : Int), g_i p, g_i q, g_i r, g_i (b : Int)]) (ls0 := [some (g_r 45), some (g_i (f : Int)), some (g_i p), some (g_i q), some (g_i r), some (g_i (b : Int)), none, none]) (by decide) rfl (Nat.le_of_ble_eq_true rfl) (g_hls (av := [g_r 45, g_i (f : Int), g_i p, g_i q, g_i r, g_i (b : Int)]) (k := 2)) (fun _ h9 => List.mem_cons_of_mem _ h9) ?_
  refine ev_iload_n (i := 1) d_Mo_isClause_0 rfl rfl rfl ?_
  refine ev_if_lt_f (tgt := 21) d_Mo_isClause_1 (by decide) rfl (by omega) ?_
  refine ev_iload_n (i := 1) d_Mo_isClause_4 rfl rfl rfl ?_
  refine ev_aload_n (i := 0) d_Mo_isClause_5 rfl rfl rfl ?_
  refine ev_getI (z := M 45 4) d_Mo_isClause_6 rfl lk_Mo_127 lx_45 rfl (rfl) ?_
  refine ev_icmp_ge_f (tgt := 21) d_Mo_isClause_9 (by decide) rfl (by omega) ?_
  refine ev_aload_n (i := 0) d_Mo_isClause_12 rfl rfl rfl ?_
  refine ev_iload (i := 5) d_Mo_isClause_13 rfl rfl ?_
  refine ev_callV (As := [g_i (b : Int)]) d_Mo_isClause_15 rfl cl_Mo_133 (c_Mo_isTerm (d + 2) M ((b : Int))) (g_hR (by decide)) g_h0 lx_45 rfl rfl (Nat.le_of_ble_eq_true rfl) rfl rfl ?_
  refine ev_if_ne_t (tgt := 23) d_Mo_isClause_18 (by decide) (by rw [if_pos ⟨by omega, hb⟩]; decide) ?_
  refine ev_iconst d_Mo_isClause_23 rfl ⟨by decide, by decide⟩ ?_
  refine ev_istore (i := 6) d_Mo_isClause_24 rfl (by decide) rfl ?_
  refine ev_lp (fun i : Nat => [some (g_r 45), some (g_i (f : Int)), some (g_i p), some (g_i q), some (g_i r), some (g_i (b : Int)), some (g_i (i : Int)), none]) (fun i : Nat => (q_z M i)) 8 ?_ ?_ (rfl) (q_z_0 _)
  · intro i hi K26
    refine ev_iload (i := 6) d_Mo_isClause_26 rfl rfl ?_
    refine ev_bipush d_Mo_isClause_28 rfl (by decide +kernel) ⟨by decide, by decide⟩ ?_
    refine ev_icmp_ge_f (tgt := 47) d_Mo_isClause_30 (by decide) rfl (by omega) ?_
    refine ev_aload_n (i := 0) d_Mo_isClause_33 rfl rfl rfl ?_
    refine ev_getR d_Mo_isClause_34 rfl lk_Mo_64 lx_45 rfl ?_
    refine ev_iload (i := 6) d_Mo_isClause_37 rfl rfl ?_
    refine ev_iconst d_Mo_isClause_39 rfl ⟨by decide, by decide⟩ ?_
    refine ev_bastore d_Mo_isClause_40 rfl lx_64 (by omega) (by omega) (by omega) ?_
    rw [show Int.toNat ((i : Int)) = i by rfl]
    refine ev_iinc (z := (i : Int) + 1) d_Mo_isClause_41 rfl rfl (by decide) (g_w_id (by unfold g_rg; omega)) rfl ?_
    refine ev_goto (tgt := 26) d_Mo_isClause_44 (by decide) ?_
    exact ev_le K26 (q_z_s _ _) ⟨rfl, rfl, rfl, rfl, rfl, rfl, rfl, trivial⟩
  · refine ev_iload (i := 6) d_Mo_isClause_26 rfl rfl ?_
    refine ev_bipush d_Mo_isClause_28 rfl (by decide +kernel) ⟨by decide, by decide⟩ ?_
    refine ev_icmp_ge_t (tgt := 47) d_Mo_isClause_30 (by decide) (by decide) ?_
    refine ev_iconst d_Mo_isClause_47 rfl ⟨by decide, by decide⟩ ?_
    refine ev_istore (i := 6) d_Mo_isClause_48 rfl (by decide) rfl ?_
    refine ev_wh (fun n ls1 M1 => ∃ k : Nat, k ≤ w ∧ n = w - k ∧ ls1 = [some (g_r 45), some (g_i (f : Int)), some (g_i p), some (g_i q), some (g_i r), some (g_i (b : Int)), some (g_i (k : Int)), none] ∧ q_e4 M M1 ∧ q_pats M p q r k = some (M1 64)) ?_ (n := w) (⟨0, Nat.zero_le _, rfl, rfl, q_z_e4 M 8, rfl⟩)
    intro n ls1 M1 hP ih
    obtain ⟨k, hk, hn, rfl, hq1, hp1⟩ := hP
    have e8 : M1 45 8 = M 45 8 := hq1 45 8 (by decide) (by decide) (by decide) (by decide)
    refine ev_iload (i := 6) d_Mo_isClause_50 rfl rfl ?_
    refine ev_aload_n (i := 0) d_Mo_isClause_52 rfl rfl rfl ?_
    refine ev_getR d_Mo_isClause_53 rfl lk_Mo_22 lx_45 rfl ?_
    refine ev_iload_n (i := 1) d_Mo_isClause_56 rfl rfl rfl ?_
    refine ev_iaload (z := (w : Int)) d_Mo_isClause_57 rfl lx_50 (by omega) (by omega) (by rw [← hw]; exact hq1 50 _ (by decide) (by decide) (by decide) (by omega)) ?_
    refine ev_icmp_ge (tgt := 110) d_Mo_isClause_58 (by decide) rfl (fun hz => ?_) (fun hz => ?_)
    · refine ev_aload_n (i := 0) d_Mo_isClause_110 rfl rfl rfl ?_
      refine ev_iload (i := 5) d_Mo_isClause_111 rfl rfl ?_
      refine ev_callVR (As := [g_i (b : Int)]) d_Mo_isClause_113 rfl cl_Mo_159 (c_Mo_isBody (d + 0) M1 b (q_T_e4 hq1 hT) (by rw [e8]; exact hb)) (g_hR (by decide)) g_h0 lx_45 rfl rfl (Nat.le_of_ble_eq_true rfl) rfl rfl (fun M4 v9 g9 => ?_)
      obtain ⟨rfl, hq3⟩ := g9
      exact ev_retIR d_Mo_isClause_116 (⟨hq1.tr hq3.e4, by have e : k = w := (by omega); subst e; rw [q_cls, hp1, q_pl_e4 hq1, hq1.fn (k := 52) (by decide) (by decide) (by decide) (by decide)]⟩) (Or.inr ⟨rfl, by split <;> simp⟩)
    · refine ev_jn 82 (fun v9 => [some (g_r 45), some (g_i (f : Int)), some (g_i p), some (g_i q), some (g_i r), some (g_i (b : Int)), some (g_i (k : Int)), none]) (fun v9 => [g_i v9]) M1 (fun v9 => v9 = j_pk p q r k) ?_ (fun K82 => ?_)
      · intro v9 hv9; subst hv9
        refine ev_istore (i := 7) d_Mo_isClause_82 rfl (by decide) rfl ?_
        refine ev_aload_n (i := 0) d_Mo_isClause_84 rfl rfl rfl ?_
        refine ev_iload (i := 7) d_Mo_isClause_85 rfl rfl ?_
        refine ev_callV (As := [g_i (j_pk p q r k)]) d_Mo_isClause_87 rfl cl_Mo_133 (c_Mo_isTerm (d + 2) M1 ((j_pk p q r k))) (g_hR (by decide)) g_h0 lx_45 rfl rfl (Nat.le_of_ble_eq_true rfl) rfl rfl ?_
        refine ev_beq (tgt := 102) d_Mo_isClause_90 (by decide) rfl (fun ht8 => ?_) (fun ht8 => ?_)
        · refine ev_iconst d_Mo_isClause_102 rfl ⟨by decide, by decide⟩ ?_
          exact ev_retIR d_Mo_isClause_103 (⟨hq1, by rw [q_cls, q_pats_no (k := k) (by rw [q_pats, hp1]; exact if_neg (by rw [← e8]; exact ht8)) (by omega)]; rfl⟩) (Or.inr ⟨rfl, by omega⟩)
        · have ht9 : 0 ≤ j_pk p q r k ∧ j_pk p q r k < M 45 8 := by rw [← e8]; exact ht8
          have hps : q_pats M p q r (k + 1) = q_pt M (M1 64) (j_pk p q r k).toNat := by rw [q_pats, hp1]; exact if_pos ht9
          refine ev_aload_n (i := 0) d_Mo_isClause_93 rfl rfl rfl ?_
          refine ev_iload (i := 7) d_Mo_isClause_94 rfl rfl ?_
          refine ev_callVR (As := [g_i (j_pk p q r k)]) d_Mo_isClause_96 rfl cl_Mo_156 (c_Mo_isPattern_I (d + 0) M M1 (j_pk p q r k) hT hq1 ht9) (g_hR (by decide)) g_h0 lx_45 rfl rfl (Nat.le_of_ble_eq_true rfl) rfl rfl (fun M3 v9 g9 => ?_)
          obtain ⟨r9, rfl, hq2, hr9⟩ := g9
          refine ev_if_ne (tgt := 104) d_Mo_isClause_99 (by decide) rfl (fun hr8 => ?_) (fun hr8 => ?_)
          · have hp3 : q_pats M p q r (k + 1) = some (M3 64) := by rw [hps]; rcases hr9 with h | h; exact h.2; exact absurd h.1 hr8
            refine ev_iinc (z := (k : Int) + 1) d_Mo_isClause_104 rfl rfl (by decide) (g_w_id (by unfold g_rg; omega)) rfl ?_
            refine ev_goto (tgt := 50) d_Mo_isClause_107 (by decide) ?_
            exact ev_le (ih (w - (k + 1)) [some (g_r 45), some (g_i (f : Int)), some (g_i p), some (g_i q), some (g_i r), some (g_i (b : Int)), some (g_i ((k + 1 : Nat) : Int)), none] M3 (by omega) ⟨k + 1, by omega, rfl, rfl, hq2, hp3⟩) rfl ⟨rfl, rfl, rfl, rfl, rfl, rfl, rfl, trivial⟩
          · refine ev_iconst d_Mo_isClause_102 rfl ⟨by decide, by decide⟩ ?_
            exact ev_retIR d_Mo_isClause_103 (⟨hq2, by rw [q_cls, q_pats_no (k := k) (by rw [hps]; rcases hr9 with h | h; exact absurd hr8 h.1; exact h.2) (by omega)]; rfl⟩) (Or.inr ⟨rfl, by omega⟩)
      · refine ev_iload (i := 6) d_Mo_isClause_61 rfl rfl ?_
        refine ev_if_ne (tgt := 70) d_Mo_isClause_63 (by decide) rfl (fun h4 => ?_) (fun h4 => ?_)
        · refine ev_iload (i := 6) d_Mo_isClause_70 rfl rfl ?_
          refine ev_iconst d_Mo_isClause_72 rfl ⟨by decide, by decide⟩ ?_
          refine ev_icmp_ne (tgt := 80) d_Mo_isClause_73 (by decide) rfl (fun h5 => ?_) (fun h5 => ?_)
          · refine ev_iload (i := 4) d_Mo_isClause_80 rfl rfl ?_
            exact K82 _ (by simp only [j_pk]; omega)
          · refine ev_iload_n (i := 3) d_Mo_isClause_76 rfl rfl rfl ?_
            refine ev_goto (tgt := 82) d_Mo_isClause_77 (by decide) ?_
            exact K82 _ (by simp only [j_pk]; omega)
        · refine ev_iload_n (i := 2) d_Mo_isClause_66 rfl rfl rfl ?_
          refine ev_goto (tgt := 82) d_Mo_isClause_67 (by decide) ?_
          exact K82 _ (by simp only [j_pk]; omega)
