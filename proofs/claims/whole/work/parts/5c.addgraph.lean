theorem o_rem512 : ∀ a : Nat, a < 512 → g_b (fun a b => a - a / b * b) ((a : Int) + 1) 512 = (((a + 1) % 512 : Nat) : Int) := by decide +kernel
/-- what adding a graph leaves -/
def f30 (M M2 : g_M) : Prop := ∀ k b : Nat, k ≠ 32 → k ≠ 33 → ¬ (k = 30 ∧ (b = 6 ∨ b = 7)) → M2 k b = M k b
theorem f30.rf (M : g_M) : f30 M M := fun _ _ _ _ _ => rfl
theorem f30.tr {M M1 M2 : g_M} (h : f30 M M1) (h2 : f30 M1 M2) : f30 M M2 := fun k b h3 h4 h5 => (h2 k b h3 h4 h5).trans (h k b h3 h4 h5)
theorem o_pr_s {M1 : g_M} {x t a : Nat} (h : o_pr M1 x t) (ha : (o_h x + t) % 512 = a) (h1 : M1 33 a ≠ -1) (h2 : M1 33 a ≠ (x : Nat)) : o_pr M1 x (t + 1) := by
  intro t' ht'
  by_cases htt : t' = t
  · subst htt
    rw [ha]
    exact ⟨h1, h2⟩
  · exact h t' (by omega)
theorem o_mod_s {h t a : Nat} (ha : (h + t) % 512 = a) : (h + (t + 1)) % 512 = (a + 1) % 512 := by omega
/-- the class's graphs: a list of numbers, and whether there were too many -/
def o_D (M : g_M) (M1 : g_M) (l : List Nat) : Prop := o_B M1 l ∧ (∀ x ∈ l, o_R M x) ∧ (M1 30 7 = 0 ∨ (M1 30 7 = 1 ∧ l.length = 200 ∧ ∃ y, o_R M y ∧ y ∉ l))
theorem c_En_addGraph (d : Nat) (M : g_M) (x : Nat) (l : List Nat) (hB : o_B M l) (hx : x < 16777216) : ConR y_En_addGraph w_En_addGraph (g_rm (d + 0)) LX M [g_r 30, g_i (x : Int)] LX (fun M2 v2 => v2 = none ∧ f30 M M2 ∧ ((x ∈ l ∧ M2 = M) ∨ (x ∉ l ∧ l.length = 200 ∧ M2 = g_up M 30 7 1) ∨ (x ∉ l ∧ l.length < 200 ∧ o_B M2 (l ++ [x]) ∧ M2 30 7 = M 30 7))) := by
  refine con_ofR (av := [g_r 30, g_i (x : Int)]) (ls0 := [some (g_r 30), some (g_i (x : Int)), none, none]) (by decide) rfl (Nat.le_of_ble_eq_true rfl) (g_hls (av := [g_r 30, g_i (x : Int)]) (k := 2)) (fun _ h9 => List.mem_cons_of_mem _ h9) ?_
  refine ev_iload_n (i := 1) d_En_addGraph_0 rfl rfl rfl ?_
  refine ev_ldc (n := (-1640531535)) d_En_addGraph_1 rfl gm_397 (by decide) ⟨by decide, by decide⟩ ?_
  refine ev_imul (z := g_w ((x : Int) * (-1640531535))) d_En_addGraph_3 rfl (rfl) ?_
  refine ev_bipush d_En_addGraph_4 rfl (by decide +kernel) ⟨by decide, by decide⟩ ?_
  refine ev_iushr (z := (o_h x : Int)) d_En_addGraph_6 rfl (by unfold o_h; have := o_h_int (g_w ((x : Int) * (-1640531535))); omega) ?_
  refine ev_istore_n (i := 2) d_En_addGraph_7 rfl rfl (by decide) rfl ?_
  refine ev_iconst d_En_addGraph_8 rfl ⟨by decide, by decide⟩ ?_
  refine ev_istore_n (i := 3) d_En_addGraph_9 rfl rfl (by decide) rfl ?_
  refine ev_wl (fun n ls1 => ∃ t a : Nat, t ≤ 512 ∧ n = 512 - t ∧ ls1 = [some (g_r 30), some (g_i (x : Int)), some (g_i (a : Int)), some (g_i (t : Int))] ∧ (o_h x + t) % 512 = a ∧ o_pr M x t) ?_ (n := 512) (⟨0, o_h x, Nat.zero_le _, rfl, rfl, by have := o_h_lt x; omega, fun t' ht' => by omega⟩)
  intro n ls1 hP0 ih
  obtain ⟨t, a, ht, hn, rfl, hta, hpr⟩ := hP0
  have ha512 : a < 512 := by omega
  refine ev_iload_n (i := 3) d_En_addGraph_10 rfl rfl rfl ?_
  refine ev_sipush d_En_addGraph_11 rfl (by decide +kernel) ⟨by decide, by decide⟩ ?_
  refine ev_icmp_ge (tgt := 52) d_En_addGraph_14 (by decide) rfl (fun c0 => ?_) (fun c0 => ?_)
  · have he1 : M 33 a = -1 := by
      first
      | exact c1
      | (obtain ⟨t9, t1, t2⟩ := o_B_free hB x; exact absurd t2 (hpr t9 (by omega)).1)
    have hlt : t < 512 := by
      refine Nat.lt_of_not_le fun h9 => ?_
      obtain ⟨t9, t1, t2⟩ := o_B_free hB x
      exact absurd t2 (hpr t9 (by omega)).1
    have hout := o_B_out hB hpr (by rw [hta]; exact he1)
    refine ev_aload_n (i := 0) d_En_addGraph_52 rfl rfl rfl ?_
    refine ev_getI (z := (l.length : Int)) d_En_addGraph_53 rfl lk_En_79 lx_30 rfl (hB.2.2.2.2.1) ?_
    refine ev_sipush d_En_addGraph_56 rfl (by decide +kernel) ⟨by decide, by decide⟩ ?_
    refine ev_icmp_lt (tgt := 68) d_En_addGraph_59 (by decide) rfl (fun c3 => ?_) (fun c3 => ?_)
    · refine ev_aload_n (i := 0) d_En_addGraph_68 rfl rfl rfl ?_
      refine ev_getR d_En_addGraph_69 rfl lk_En_30 lx_30 rfl ?_
      refine ev_iload_n (i := 2) d_En_addGraph_72 rfl rfl rfl ?_
      refine ev_iload_n (i := 1) d_En_addGraph_73 rfl rfl rfl ?_
      refine ev_iastore d_En_addGraph_74 rfl lx_33 (by omega) (by omega) ?_
      rw [show Int.toNat ((a : Int)) = a by rfl]
      refine ev_aload_n (i := 0) d_En_addGraph_75 rfl rfl rfl ?_
      refine ev_getR d_En_addGraph_76 rfl lk_En_27 lx_30 rfl ?_
      refine ev_aload_n (i := 0) d_En_addGraph_79 rfl rfl rfl ?_
      refine ev_getI (z := (l.length : Int)) d_En_addGraph_80 rfl lk_En_79 lx_30 rfl (by rw [g_up_ne (by decide)]; exact hB.2.2.2.2.1) ?_
      refine ev_iload_n (i := 1) d_En_addGraph_83 rfl rfl rfl ?_
      refine ev_iastore d_En_addGraph_84 rfl lx_32 (by omega) (by omega) ?_
      rw [show Int.toNat (((l.length : Int))) = l.length by rfl]
      refine ev_aload_n (i := 0) d_En_addGraph_85 rfl rfl rfl ?_
      refine ev_dup d_En_addGraph_86 rfl rfl ?_
      refine ev_getI (z := (l.length : Int)) d_En_addGraph_87 rfl lk_En_79 lx_30 rfl (by rw [g_up_ne (by decide), g_up_ne (by decide)]; exact hB.2.2.2.2.1) ?_
      refine ev_iconst d_En_addGraph_90 rfl ⟨by decide, by decide⟩ ?_
      refine ev_iadd (z := ((l.length : Int)) + 1) d_En_addGraph_91 rfl (g_w_id (by unfold g_rg; omega)) ?_
      refine ev_putI d_En_addGraph_92 rfl lk_En_79 fp_En_6 (Or.inl rfl) lx_30 rfl ?_
      exact ev_retVR d_En_addGraph_95 (⟨rfl, fun k b h1 h2 h3 => by simp only [g_up]; rw [if_neg (by omega), if_neg (by omega), if_neg (by omega)], Or.inr (Or.inr ⟨hout, by omega, o_B_add hB hx (by omega) hlt hpr hta he1, by simp [g_up]⟩)⟩)
    · refine ev_aload_n (i := 0) d_En_addGraph_62 rfl rfl rfl ?_
      refine ev_iconst d_En_addGraph_63 rfl ⟨by decide, by decide⟩ ?_
      refine ev_putI d_En_addGraph_64 rfl lk_En_82 fp_En_7 (Or.inr ⟨rfl, Or.inr rfl⟩) lx_30 rfl ?_
      exact ev_retVR d_En_addGraph_67 (⟨rfl, fun k b h1 h2 h3 => by simp only [g_up]; rw [if_neg (by omega)], Or.inr (Or.inl ⟨hout, by have := hB.1; omega, rfl⟩)⟩)
  · refine ev_aload_n (i := 0) d_En_addGraph_17 rfl rfl rfl ?_
    refine ev_getR d_En_addGraph_18 rfl lk_En_30 lx_30 rfl ?_
    refine ev_iload_n (i := 2) d_En_addGraph_21 rfl rfl rfl ?_
    refine ev_iaload (z := M 33 a) d_En_addGraph_22 rfl lx_33 (by omega) (by omega) (rfl) ?_
    refine ev_iconst d_En_addGraph_23 rfl ⟨by decide, by decide⟩ ?_
    refine ev_icmp_eq (tgt := 52) d_En_addGraph_24 (by decide) rfl (fun c1 => ?_) (fun c1 => ?_)
    · have he1 : M 33 a = -1 := by
        first
        | exact c1
        | (obtain ⟨t9, t1, t2⟩ := o_B_free hB x; exact absurd t2 (hpr t9 (by omega)).1)
      have hlt : t < 512 := by
        refine Nat.lt_of_not_le fun h9 => ?_
        obtain ⟨t9, t1, t2⟩ := o_B_free hB x
        exact absurd t2 (hpr t9 (by omega)).1
      have hout := o_B_out hB hpr (by rw [hta]; exact he1)
      refine ev_aload_n (i := 0) d_En_addGraph_52 rfl rfl rfl ?_
      refine ev_getI (z := (l.length : Int)) d_En_addGraph_53 rfl lk_En_79 lx_30 rfl (hB.2.2.2.2.1) ?_
      refine ev_sipush d_En_addGraph_56 rfl (by decide +kernel) ⟨by decide, by decide⟩ ?_
      refine ev_icmp_lt (tgt := 68) d_En_addGraph_59 (by decide) rfl (fun c3 => ?_) (fun c3 => ?_)
      · refine ev_aload_n (i := 0) d_En_addGraph_68 rfl rfl rfl ?_
        refine ev_getR d_En_addGraph_69 rfl lk_En_30 lx_30 rfl ?_
        refine ev_iload_n (i := 2) d_En_addGraph_72 rfl rfl rfl ?_
        refine ev_iload_n (i := 1) d_En_addGraph_73 rfl rfl rfl ?_
        refine ev_iastore d_En_addGraph_74 rfl lx_33 (by omega) (by omega) ?_
        rw [show Int.toNat ((a : Int)) = a by rfl]
        refine ev_aload_n (i := 0) d_En_addGraph_75 rfl rfl rfl ?_
        refine ev_getR d_En_addGraph_76 rfl lk_En_27 lx_30 rfl ?_
        refine ev_aload_n (i := 0) d_En_addGraph_79 rfl rfl rfl ?_
        refine ev_getI (z := (l.length : Int)) d_En_addGraph_80 rfl lk_En_79 lx_30 rfl (by rw [g_up_ne (by decide)]; exact hB.2.2.2.2.1) ?_
        refine ev_iload_n (i := 1) d_En_addGraph_83 rfl rfl rfl ?_
        refine ev_iastore d_En_addGraph_84 rfl lx_32 (by omega) (by omega) ?_
        rw [show Int.toNat (((l.length : Int))) = l.length by rfl]
        refine ev_aload_n (i := 0) d_En_addGraph_85 rfl rfl rfl ?_
        refine ev_dup d_En_addGraph_86 rfl rfl ?_
        refine ev_getI (z := (l.length : Int)) d_En_addGraph_87 rfl lk_En_79 lx_30 rfl (by rw [g_up_ne (by decide), g_up_ne (by decide)]; exact hB.2.2.2.2.1) ?_
        refine ev_iconst d_En_addGraph_90 rfl ⟨by decide, by decide⟩ ?_
        refine ev_iadd (z := ((l.length : Int)) + 1) d_En_addGraph_91 rfl (g_w_id (by unfold g_rg; omega)) ?_
        refine ev_putI d_En_addGraph_92 rfl lk_En_79 fp_En_6 (Or.inl rfl) lx_30 rfl ?_
        exact ev_retVR d_En_addGraph_95 (⟨rfl, fun k b h1 h2 h3 => by simp only [g_up]; rw [if_neg (by omega), if_neg (by omega), if_neg (by omega)], Or.inr (Or.inr ⟨hout, by omega, o_B_add hB hx (by omega) hlt hpr hta he1, by simp [g_up]⟩)⟩)
      · refine ev_aload_n (i := 0) d_En_addGraph_62 rfl rfl rfl ?_
        refine ev_iconst d_En_addGraph_63 rfl ⟨by decide, by decide⟩ ?_
        refine ev_putI d_En_addGraph_64 rfl lk_En_82 fp_En_7 (Or.inr ⟨rfl, Or.inr rfl⟩) lx_30 rfl ?_
        exact ev_retVR d_En_addGraph_67 (⟨rfl, fun k b h1 h2 h3 => by simp only [g_up]; rw [if_neg (by omega)], Or.inr (Or.inl ⟨hout, by have := hB.1; omega, rfl⟩)⟩)
    · refine ev_aload_n (i := 0) d_En_addGraph_27 rfl rfl rfl ?_
      refine ev_getR d_En_addGraph_28 rfl lk_En_30 lx_30 rfl ?_
      refine ev_iload_n (i := 2) d_En_addGraph_31 rfl rfl rfl ?_
      refine ev_iaload (z := M 33 a) d_En_addGraph_32 rfl lx_33 (by omega) (by omega) (rfl) ?_
      refine ev_iload_n (i := 1) d_En_addGraph_33 rfl rfl rfl ?_
      refine ev_icmp_ne (tgt := 38) d_En_addGraph_34 (by decide) rfl (fun c2 => ?_) (fun c2 => ?_)
      · refine ev_iload_n (i := 2) d_En_addGraph_38 rfl rfl rfl ?_
        refine ev_iconst d_En_addGraph_39 rfl ⟨by decide, by decide⟩ ?_
        refine ev_iadd (z := (a : Int) + 1) d_En_addGraph_40 rfl (g_w_id (by unfold g_rg; omega)) ?_
        refine ev_sipush d_En_addGraph_41 rfl (by decide +kernel) ⟨by decide, by decide⟩ ?_
        refine ev_irem (z := (((a + 1) % 512 : Nat) : Int)) d_En_addGraph_44 rfl (by decide) (o_rem512 a ha512) ?_
        refine ev_istore_n (i := 2) d_En_addGraph_45 rfl rfl (by decide) rfl ?_
        refine ev_iinc (z := (t : Int) + 1) d_En_addGraph_46 rfl rfl (by decide) (g_w_id (by unfold g_rg; omega)) rfl ?_
        refine ev_goto (tgt := 10) d_En_addGraph_49 (by decide) ?_
        exact ev_le (ih (512 - (t + 1)) [some (g_r 30), some (g_i (x : Int)), some (g_i (((a + 1) % 512 : Nat) : Int)), some (g_i ((t + 1 : Nat) : Int))] (by omega) ⟨t + 1, _, by omega, rfl, rfl, o_mod_s hta, o_pr_s hpr hta c1 c2⟩) rfl ⟨rfl, rfl, rfl, rfl, trivial⟩
      · exact ev_retVR d_En_addGraph_37 (⟨rfl, f30.rf M, Or.inl ⟨o_B_in hB ha512 c2, rfl⟩⟩)
