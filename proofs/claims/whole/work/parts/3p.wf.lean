/-- a loop that leaves the memory as it is -/
theorem ev_wl {Me : g_Me} {R : Room} {Fi : g_Fin} {pc : Nat} {ls : g_Ls} {st : List g_v} {L : g_L} {M : g_M} {nc ns : Nat} (P : Nat → g_Ls → Prop) (stp : ∀ n ls, P n ls → (∀ n' ls', n' < n → P n' ls' → Ev Me R Fi pc ls' st L M nc ns) → Ev Me R Fi pc ls st L M nc ns) {n : Nat} (h : P n ls) : Ev Me R Fi pc ls st L M nc ns := by
  have key : ∀ k n ls, n < k → P n ls → Ev Me R Fi pc ls st L M nc ns := by
    intro k
    induction k with
    | zero => intro n _ hn; omega
    | succ k ih =>
      intro n ls hn hP
      exact stp n ls hP (fun n' ls' h1 h2 => ih n' ls' (by omega) h2)
  exact key (n + 1) n ls (by omega) h
/-- is the term a pattern, by what the class keeps of it -/
abbrev w_p (M : g_M) (t : Nat) : Prop := M 17 t = 0 ∧ M 18 t = 0 ∧ M 14 t ≤ 2 ∧ M 15 t ≤ 8
/-- the variables that the first k patterns bind -/
def w_b (M : g_M) (p q r : Int) : Nat → Option Int
  | 0 => some 0
  | k + 1 => match w_b M p q r k with
    | none => none
    | some v => if (0 ≤ j_pk p q r k ∧ j_pk p q r k < M 9 9) ∧ w_p M (j_pk p q r k).toNat ∧ g_b (fun a b => a &&& b) v (M 16 (j_pk p q r k).toNat) = 0 then some (g_b (fun a b => a ||| b) v (M 16 (j_pk p q r k).toNat)) else none
theorem w_b_none {M : g_M} {p q r : Int} {k : Nat} (h : w_b M p q r k = none) : ∀ j, w_b M p q r (k + j) = none
  | 0 => h
  | j + 1 => by
    have := w_b_none h j
    rw [show k + (j + 1) = (k + j) + 1 by omega, w_b, this]
theorem w_b_no {M : g_M} {p q r : Int} {k w : Nat} (h : w_b M p q r (k + 1) = none) (hk : k < w) : w_b M p q r w = none := by
  have := w_b_none h (w - (k + 1))
  rwa [show k + 1 + (w - (k + 1)) = w by omega] at this
def w_wf (M : g_M) (w : Nat) (p q r b : Int) : Bool := match w_b M p q r w with
  | none => false
  | some v => decide ((0 ≤ b ∧ b < M 9 9) ∧ g_b (fun a b => a &&& b) (M 16 b.toNat) (g_b (fun a b => a ^^^ b) v (-1)) = 0)
theorem w_wf_s {M : g_M} {w : Nat} {p q r b v : Int} (h : w_b M p q r w = some v) : w_wf M w p q r b = decide ((0 ≤ b ∧ b < M 9 9) ∧ g_b (fun a b => a &&& b) (M 16 b.toNat) (g_b (fun a b => a ^^^ b) v (-1)) = 0) := by
  unfold w_wf
  rw [h]
theorem w_wf_n {M : g_M} {w : Nat} {p q r b : Int} (h : w_b M p q r w = none) : ¬ w_wf M w p q r b = true := by
  unfold w_wf
  rw [h]
  exact Bool.false_ne_true
theorem c_Te_isPattern (d : Nat) (M : g_M) (t : Nat) (ht : t < 100) : Con y_Te_isPattern w_Te_isPattern (g_rm (d)) LX M [g_r 9, g_i (t : Int)] LX M (some (g_i (if w_p M t then 1 else 0))) := by
  refine con_of (av := [g_r 9, g_i (t : Int)]) (ls0 := [some (g_r 9), some (g_i (t : Int))]) (by decide) rfl (Nat.le_of_ble_eq_true rfl) (g_hls (av := [g_r 9, g_i (t : Int)]) (k := 0)) (fun _ h9 => List.mem_cons_of_mem _ h9) ?_
  refine ev_aload_n (i := 0) d_Te_isPattern_0 rfl rfl rfl ?_
  refine ev_getR d_Te_isPattern_1 rfl lk_Te_33 lx_9 rfl ?_
  refine ev_iload_n (i := 1) d_Te_isPattern_4 rfl rfl rfl ?_
  refine ev_baload (z := M 17 t) d_Te_isPattern_5 rfl lx_17 (by omega) (by omega) (rfl) ?_
  refine ev_if_ne (tgt := 43) d_Te_isPattern_6 (by decide) rfl (fun h1 => ?_) (fun h1 => ?_)
  · refine ev_iconst d_Te_isPattern_43 rfl ⟨by decide, by decide⟩ ?_
    exact ev_retI d_Te_isPattern_44 (by first | exact (if_pos ⟨by omega, by omega, by omega, by omega⟩).symm | exact (if_neg (fun h9 => by have h91 := h9.1; have h92 := h9.2.1; have h93 := h9.2.2.1; have h94 := h9.2.2.2; omega)).symm) rfl (Or.inr ⟨rfl, by omega⟩)
  · refine ev_aload_n (i := 0) d_Te_isPattern_9 rfl rfl rfl ?_
    refine ev_getR d_Te_isPattern_10 rfl lk_Te_37 lx_9 rfl ?_
    refine ev_iload_n (i := 1) d_Te_isPattern_13 rfl rfl rfl ?_
    refine ev_baload (z := M 18 t) d_Te_isPattern_14 rfl lx_18 (by omega) (by omega) (rfl) ?_
    refine ev_if_ne (tgt := 43) d_Te_isPattern_15 (by decide) rfl (fun h2 => ?_) (fun h2 => ?_)
    · refine ev_iconst d_Te_isPattern_43 rfl ⟨by decide, by decide⟩ ?_
      exact ev_retI d_Te_isPattern_44 (by first | exact (if_pos ⟨by omega, by omega, by omega, by omega⟩).symm | exact (if_neg (fun h9 => by have h91 := h9.1; have h92 := h9.2.1; have h93 := h9.2.2.1; have h94 := h9.2.2.2; omega)).symm) rfl (Or.inr ⟨rfl, by omega⟩)
    · refine ev_aload_n (i := 0) d_Te_isPattern_18 rfl rfl rfl ?_
      refine ev_getR d_Te_isPattern_19 rfl lk_Te_24 lx_9 rfl ?_
      refine ev_iload_n (i := 1) d_Te_isPattern_22 rfl rfl rfl ?_
      refine ev_iaload (z := M 14 t) d_Te_isPattern_23 rfl lx_14 (by omega) (by omega) (rfl) ?_
      refine ev_iconst d_Te_isPattern_24 rfl ⟨by decide, by decide⟩ ?_
      refine ev_icmp_gt (tgt := 43) d_Te_isPattern_25 (by decide) rfl (fun h3 => ?_) (fun h3 => ?_)
      · refine ev_iconst d_Te_isPattern_43 rfl ⟨by decide, by decide⟩ ?_
        exact ev_retI d_Te_isPattern_44 (by first | exact (if_pos ⟨by omega, by omega, by omega, by omega⟩).symm | exact (if_neg (fun h9 => by have h91 := h9.1; have h92 := h9.2.1; have h93 := h9.2.2.1; have h94 := h9.2.2.2; omega)).symm) rfl (Or.inr ⟨rfl, by omega⟩)
      · refine ev_aload_n (i := 0) d_Te_isPattern_28 rfl rfl rfl ?_
        refine ev_getR d_Te_isPattern_29 rfl lk_Te_27 lx_9 rfl ?_
        refine ev_iload_n (i := 1) d_Te_isPattern_32 rfl rfl rfl ?_
        refine ev_iaload (z := M 15 t) d_Te_isPattern_33 rfl lx_15 (by omega) (by omega) (rfl) ?_
        refine ev_bipush d_Te_isPattern_34 rfl (by decide +kernel) ⟨by decide, by decide⟩ ?_
        refine ev_icmp_gt (tgt := 43) d_Te_isPattern_36 (by decide) rfl (fun h4 => ?_) (fun h4 => ?_)
        · refine ev_iconst d_Te_isPattern_43 rfl ⟨by decide, by decide⟩ ?_
          exact ev_retI d_Te_isPattern_44 (by first | exact (if_pos ⟨by omega, by omega, by omega, by omega⟩).symm | exact (if_neg (fun h9 => by have h91 := h9.1; have h92 := h9.2.1; have h93 := h9.2.2.1; have h94 := h9.2.2.2; omega)).symm) rfl (Or.inr ⟨rfl, by omega⟩)
        · refine ev_iconst d_Te_isPattern_39 rfl ⟨by decide, by decide⟩ ?_
          refine ev_goto (tgt := 44) d_Te_isPattern_40 (by decide) ?_
          exact ev_retI d_Te_isPattern_44 (by first | exact (if_pos ⟨by omega, by omega, by omega, by omega⟩).symm | exact (if_neg (fun h9 => by have h91 := h9.1; have h92 := h9.2.1; have h93 := h9.2.2.1; have h94 := h9.2.2.2; omega)).symm) rfl (Or.inr ⟨rfl, by omega⟩)
theorem c_Te_isPattern_I (d : Nat) (M : g_M) (x : Int) (h0 : 0 ≤ x) (h1 : x < 100) : Con y_Te_isPattern w_Te_isPattern (g_rm d) LX M [g_r 9, g_i x] LX M (some (g_i (if w_p M x.toNat then 1 else 0))) := by
  obtain ⟨t, rfl⟩ := Int.eq_ofNat_of_zero_le h0
  exact c_Te_isPattern d M t (by omega)
theorem c_Te_variables_I (d : Nat) (M : g_M) (x : Int) (h0 : 0 ≤ x) (h1 : x < 100) : Con y_Te_variables w_Te_variables (g_rm d) LX M [g_r 9, g_i x] LX M (some (g_i (M 16 x.toNat))) := by
  obtain ⟨t, rfl⟩ := Int.eq_ofNat_of_zero_le h0
  exact c_Te_variables d M t (by omega)
theorem c_Cl_isWellFormed (d : Nat) (M : g_M) (w : Nat) (p q r b : Int) (hw : w ≤ 3) (hnt : M 9 9 ≤ 100) : Con y_Cl_isWellFormed w_Cl_isWellFormed (g_rm (d + 1)) LX M [g_r 19, g_i (w : Int), g_i p, g_i q, g_i r, g_i b] LX M (some (g_i (if w_wf M w p q r b = true then 1 else 0))) := by
  refine con_of (av := [g_r 19, g_i (w : Int), g_i p, g_i q, g_i r, g_i b]) (ls0 := [some (g_r 19), some (g_i (w : Int)), some (g_i p), some (g_i q), some (g_i r), some (g_i b), none, none, none]) (by decide) rfl (Nat.le_of_ble_eq_true rfl) (g_hls (av := [g_r 19, g_i (w : Int), g_i p, g_i q, g_i r, g_i b]) (k := 3)) (fun _ h9 => List.mem_cons_of_mem _ h9) ?_
  refine ev_iconst d_Cl_isWellFormed_0 rfl ⟨by decide, by decide⟩ ?_
  refine ev_istore (i := 6) d_Cl_isWellFormed_1 rfl (by decide) rfl ?_
  refine ev_iconst d_Cl_isWellFormed_3 rfl ⟨by decide, by decide⟩ ?_
  refine ev_istore (i := 7) d_Cl_isWellFormed_4 rfl (by decide) rfl ?_
  refine ev_wl (fun n ls1 => ∃ (k : Nat) (v : Int), k ≤ w ∧ n = w - k ∧ ls1 = [some (g_r 19), some (g_i (w : Int)), some (g_i p), some (g_i q), some (g_i r), some (g_i b), some (g_i v), some (g_i (k : Int)), none] ∧ w_b M p q r k = some v) ?_ (n := w) (⟨0, 0, Nat.zero_le _, rfl, rfl, rfl⟩)
  intro n ls1 hP ih
  obtain ⟨k, v, hk, hn, rfl, hp1⟩ := hP
  refine ev_iload (i := 7) d_Cl_isWellFormed_6 rfl rfl ?_
  refine ev_iload_n (i := 1) d_Cl_isWellFormed_8 rfl rfl rfl ?_
  refine ev_icmp_ge (tgt := 84) d_Cl_isWellFormed_9 (by decide) rfl (fun hz => ?_) (fun hz => ?_)
  · refine ev_aload_n (i := 0) d_Cl_isWellFormed_84 rfl rfl rfl ?_
    refine ev_getR d_Cl_isWellFormed_85 rfl lk_Cl_15 lx_19 rfl ?_
    refine ev_iload (i := 5) d_Cl_isWellFormed_88 rfl rfl ?_
    refine ev_callV (As := [g_i b]) d_Cl_isWellFormed_90 rfl cl_Cl_43 (c_Te_has (d + 0) M b) (g_hR (by decide)) g_h0 lx_9 rfl rfl (Nat.le_of_ble_eq_true rfl) rfl rfl ?_
    refine ev_beq (tgt := 117) d_Cl_isWellFormed_93 (by decide) rfl (fun c5 => ?_) (fun c5 => ?_)
    · refine ev_iconst d_Cl_isWellFormed_117 rfl ⟨by decide, by decide⟩ ?_
      exact ev_retI d_Cl_isWellFormed_118 (by have e : k = w := (by omega); subst e; rw [if_neg (by rw [w_wf_s hp1]; intro h9; have h8 := of_decide_eq_true h9; first | exact c5 h8.1 | exact c6 h8.2)]) rfl (Or.inr ⟨rfl, by omega⟩)
    · refine ev_aload_n (i := 0) d_Cl_isWellFormed_96 rfl rfl rfl ?_
      refine ev_getR d_Cl_isWellFormed_97 rfl lk_Cl_15 lx_19 rfl ?_
      refine ev_iload (i := 5) d_Cl_isWellFormed_100 rfl rfl ?_
      refine ev_callV (As := [g_i b]) d_Cl_isWellFormed_102 rfl cl_Cl_52 (c_Te_variables_I (d + 0) M b c5.1 (by have := c5.2; omega)) (g_hR (by decide)) g_h0 lx_9 rfl rfl (Nat.le_of_ble_eq_true rfl) rfl rfl ?_
      refine ev_iload (i := 6) d_Cl_isWellFormed_105 rfl rfl ?_
      refine ev_iconst d_Cl_isWellFormed_107 rfl ⟨by decide, by decide⟩ ?_
      refine ev_ixor (z := g_b (fun a b => a ^^^ b) v (-1)) d_Cl_isWellFormed_108 rfl (rfl) ?_
      refine ev_iand (z := g_b (fun a b => a &&& b) (M 16 b.toNat) (g_b (fun a b => a ^^^ b) v (-1))) d_Cl_isWellFormed_109 rfl (rfl) ?_
      refine ev_if_ne (tgt := 117) d_Cl_isWellFormed_110 (by decide) rfl (fun c6 => ?_) (fun c6 => ?_)
      · refine ev_iconst d_Cl_isWellFormed_117 rfl ⟨by decide, by decide⟩ ?_
        exact ev_retI d_Cl_isWellFormed_118 (by have e : k = w := (by omega); subst e; rw [if_neg (by rw [w_wf_s hp1]; intro h9; have h8 := of_decide_eq_true h9; first | exact c5 h8.1 | exact c6 h8.2)]) rfl (Or.inr ⟨rfl, by omega⟩)
      · refine ev_iconst d_Cl_isWellFormed_113 rfl ⟨by decide, by decide⟩ ?_
        refine ev_goto (tgt := 118) d_Cl_isWellFormed_114 (by decide) ?_
        exact ev_retI d_Cl_isWellFormed_118 (by have e : k = w := (by omega); subst e; rw [if_pos (by rw [w_wf_s hp1]; exact decide_eq_true ⟨c5, c6⟩)]) rfl (Or.inr ⟨rfl, by omega⟩)
  · refine ev_iload (i := 7) d_Cl_isWellFormed_12 rfl rfl ?_
    refine ev_iload_n (i := 2) d_Cl_isWellFormed_14 rfl rfl rfl ?_
    refine ev_iload_n (i := 3) d_Cl_isWellFormed_15 rfl rfl rfl ?_
    refine ev_iload (i := 4) d_Cl_isWellFormed_16 rfl rfl ?_
    refine ev_callN (As := [g_i (k : Int), g_i p, g_i q, g_i r]) d_Cl_isWellFormed_18 rfl cl_Cl_39 (c_Fu_pickJ (d + 0) M k p q r) (g_hR (by decide)) g_h0 rfl rfl (Nat.le_of_ble_eq_true rfl) rfl rfl ?_
    refine ev_istore (i := 8) d_Cl_isWellFormed_21 rfl (by decide) rfl ?_
    refine ev_aload_n (i := 0) d_Cl_isWellFormed_23 rfl rfl rfl ?_
    refine ev_getR d_Cl_isWellFormed_24 rfl lk_Cl_15 lx_19 rfl ?_
    refine ev_iload (i := 8) d_Cl_isWellFormed_27 rfl rfl ?_
    refine ev_callV (As := [g_i (j_pk p q r k)]) d_Cl_isWellFormed_29 rfl cl_Cl_43 (c_Te_has (d + 0) M ((j_pk p q r k))) (g_hR (by decide)) g_h0 lx_9 rfl rfl (Nat.le_of_ble_eq_true rfl) rfl rfl ?_
    refine ev_beq (tgt := 62) d_Cl_isWellFormed_32 (by decide) rfl (fun c1 => ?_) (fun c1 => ?_)
    · refine ev_iconst d_Cl_isWellFormed_62 rfl ⟨by decide, by decide⟩ ?_
      exact ev_retI d_Cl_isWellFormed_63 (by rw [if_neg (w_wf_n (w_b_no (k := k) (by rw [w_b, hp1]; first | exact if_neg (fun h9 => c1 h9.1) | exact if_neg (fun h9 => c2 h9.2.1) | exact if_neg (fun h9 => c3 h9.2.2)) (by omega)))]) rfl (Or.inr ⟨rfl, by omega⟩)
    · refine ev_aload_n (i := 0) d_Cl_isWellFormed_35 rfl rfl rfl ?_
      refine ev_getR d_Cl_isWellFormed_36 rfl lk_Cl_15 lx_19 rfl ?_
      refine ev_iload (i := 8) d_Cl_isWellFormed_39 rfl rfl ?_
      refine ev_callV (As := [g_i (j_pk p q r k)]) d_Cl_isWellFormed_41 rfl cl_Cl_49 (c_Te_isPattern_I (d + 0) M (j_pk p q r k) c1.1 (by have := c1.2; omega)) (g_hR (by decide)) g_h0 lx_9 rfl rfl (Nat.le_of_ble_eq_true rfl) rfl rfl ?_
      refine ev_beq (tgt := 62) d_Cl_isWellFormed_44 (by decide) rfl (fun c2 => ?_) (fun c2 => ?_)
      · refine ev_iconst d_Cl_isWellFormed_62 rfl ⟨by decide, by decide⟩ ?_
        exact ev_retI d_Cl_isWellFormed_63 (by rw [if_neg (w_wf_n (w_b_no (k := k) (by rw [w_b, hp1]; first | exact if_neg (fun h9 => c1 h9.1) | exact if_neg (fun h9 => c2 h9.2.1) | exact if_neg (fun h9 => c3 h9.2.2)) (by omega)))]) rfl (Or.inr ⟨rfl, by omega⟩)
      · refine ev_iload (i := 6) d_Cl_isWellFormed_47 rfl rfl ?_
        refine ev_aload_n (i := 0) d_Cl_isWellFormed_49 rfl rfl rfl ?_
        refine ev_getR d_Cl_isWellFormed_50 rfl lk_Cl_15 lx_19 rfl ?_
        refine ev_iload (i := 8) d_Cl_isWellFormed_53 rfl rfl ?_
        refine ev_callV (As := [g_i (j_pk p q r k)]) d_Cl_isWellFormed_55 rfl cl_Cl_52 (c_Te_variables_I (d + 0) M ((j_pk p q r k)) c1.1 (by have := c1.2; omega)) (g_hR (by decide)) g_h0 lx_9 rfl rfl (Nat.le_of_ble_eq_true rfl) rfl rfl ?_
        refine ev_iand (z := g_b (fun a b => a &&& b) v (M 16 (j_pk p q r k).toNat)) d_Cl_isWellFormed_58 rfl (rfl) ?_
        refine ev_if_eq (tgt := 64) d_Cl_isWellFormed_59 (by decide) rfl (fun c3 => ?_) (fun c3 => ?_)
        · refine ev_iload (i := 6) d_Cl_isWellFormed_64 rfl rfl ?_
          refine ev_aload_n (i := 0) d_Cl_isWellFormed_66 rfl rfl rfl ?_
          refine ev_getR d_Cl_isWellFormed_67 rfl lk_Cl_15 lx_19 rfl ?_
          refine ev_iload (i := 8) d_Cl_isWellFormed_70 rfl rfl ?_
          refine ev_callV (As := [g_i (j_pk p q r k)]) d_Cl_isWellFormed_72 rfl cl_Cl_52 (c_Te_variables_I (d + 0) M ((j_pk p q r k)) c1.1 (by have := c1.2; omega)) (g_hR (by decide)) g_h0 lx_9 rfl rfl (Nat.le_of_ble_eq_true rfl) rfl rfl ?_
          refine ev_ior (z := g_b (fun a b => a ||| b) v (M 16 (j_pk p q r k).toNat)) d_Cl_isWellFormed_75 rfl (rfl) ?_
          refine ev_istore (i := 6) d_Cl_isWellFormed_76 rfl (by decide) rfl ?_
          refine ev_iinc (z := (k : Int) + 1) d_Cl_isWellFormed_78 rfl rfl (by decide) (g_w_id (by unfold g_rg; omega)) rfl ?_
          refine ev_goto (tgt := 6) d_Cl_isWellFormed_81 (by decide) ?_
          exact ev_le (ih (w - (k + 1)) [some (g_r 19), some (g_i (w : Int)), some (g_i p), some (g_i q), some (g_i r), some (g_i b), some (g_i (g_b (fun a b => a ||| b) v (M 16 (j_pk p q r k).toNat))), some (g_i ((k + 1 : Nat) : Int)), none] (by omega) ⟨k + 1, g_b (fun a b => a ||| b) v (M 16 (j_pk p q r k).toNat), by omega, rfl, rfl, by rw [w_b, hp1]; exact if_pos ⟨c1, c2, c3⟩⟩) rfl ⟨rfl, rfl, rfl, rfl, rfl, rfl, rfl, rfl, trivial⟩
        · refine ev_iconst d_Cl_isWellFormed_62 rfl ⟨by decide, by decide⟩ ?_
          exact ev_retI d_Cl_isWellFormed_63 (by rw [if_neg (w_wf_n (w_b_no (k := k) (by rw [w_b, hp1]; first | exact if_neg (fun h9 => c1 h9.1) | exact if_neg (fun h9 => c2 h9.2.1) | exact if_neg (fun h9 => c3 h9.2.2)) (by omega)))]) rfl (Or.inr ⟨rfl, by omega⟩)
