/-- the reference's graphs -/
def o_M (M M1 : g_M) (l : List Nat) : Prop := l.length ≤ 201 ∧ l.Nodup ∧ (∀ x ∈ l, o_R M x) ∧ M1 45 18 = l.length ∧ ∀ i x : Nat, l[i]? = some x → M1 59 i = o_f x ∧ M1 60 i = o_t x ∧ M1 61 i = o_v x
def f61 (M M1 : g_M) : Prop := ∀ k b : Nat, k < 59 ∨ 63 < k → ¬ (k = 45 ∧ (b = 18 ∨ b = 22)) → M1 k b = M k b
theorem f61.rf (M : g_M) : f61 M M := fun _ _ _ _ => rfl
theorem f61.tr {M M1 M2 : g_M} (h : f61 M M1) (h2 : f61 M1 M2) : f61 M M2 := fun k b h3 h4 => (h2 k b h3 h4).trans (h k b h3 h4)
theorem f61.fn {M M1 : g_M} (h : f61 M M1) {k : Nat} (hk : k < 59 ∨ 63 < k) (h45 : k ≠ 45) : M1 k = M k := funext fun b => h k b hk (fun h9 => h45 h9.1)
theorem q_eq.f61 {M M1 : g_M} (h : q_eq M M1) : f61 M M1 := fun k b h1 h2 => h k b (by omega) (by omega) (by omega)
theorem f61.f0 {M M1 : g_M} (h : f61 M M1) : r_f0 M M1 := ⟨fun k hk => h.fn (by omega) (by omega), h 45 0 (by decide) (by decide), h 45 4 (by decide) (by decide), h 45 8 (by decide) (by decide), h 45 13 (by decide) (by decide)⟩
theorem o_M_cg {M M1 M2 : g_M} {l : List Nat} (h : o_M M M1 l) (h1 : ∀ k : Nat, 59 ≤ k ∧ k < 62 → M2 k = M1 k) (h2 : M2 45 18 = M1 45 18) : o_M M M2 l := by
  unfold o_M at h ⊢
  rw [h1 59 (by decide), h1 60 (by decide), h1 61 (by decide), h2]
  exact h
theorem o_M_q {M M1 M2 : g_M} {l : List Nat} (h : o_M M M1 l) (hq : q_eq M1 M2) : o_M M M2 l := o_M_cg h (fun k hk => hq.fn (by omega) (by omega) (by omega)) (hq 45 18 (by decide) (by decide) (by decide))
theorem o_M_add {M M1 : g_M} {l : List Nat} {x : Nat} (h : o_M M M1 l) (hl : l.length < 201) (hx : o_R M x) (hn : x ∉ l) : o_M M (g_up (g_up (g_up (g_up M1 59 l.length (o_f x : Nat)) 60 l.length (o_t x : Nat)) 61 l.length (o_v x : Nat)) 45 18 ((l.length : Int) + 1)) (l ++ [x]) := by
  obtain ⟨h1, h2, h3, h4, h5⟩ := h
  refine ⟨by rw [List.length_append, List.length_cons, List.length_nil]; omega, List.nodup_append.mpr ⟨h2, by simp, fun a ha b hb hab => hn (by rw [List.mem_singleton.mp hb] at hab; exact hab ▸ ha)⟩, fun y hy => (List.mem_append.mp hy).elim (h3 y) (fun h9 => by rw [List.mem_singleton.mp h9]; exact hx), ?_, fun i y hy => ?_⟩
  · rw [List.length_append, List.length_cons, List.length_nil]
    simp [g_up]
  · by_cases hi : i < l.length
    · rw [List.getElem?_append_left hi] at hy
      have hne : ¬ i = l.length := by omega
      simp [g_up, hne]
      exact h5 i y hy
    · rw [List.getElem?_append_right (by omega)] at hy
      have e0 : i - l.length = 0 := by
        have h9 := (List.getElem?_eq_some_iff.mp hy).1
        simp at h9
        omega
      rw [e0] at hy
      have ey : x = y := by simpa using hy
      have ei : i = l.length := by omega
      rw [ei, ← ey]
      simp [g_up]
theorem c_Mo_addGraph (d : Nat) (M : g_M) (M1 : g_M) (x : Nat) (l : List Nat) (hP : r_P M) (hM : o_M M M1 l) (hx : o_R M x) : ConR y_Mo_addGraph w_Mo_addGraph (g_rm (d + 0)) LX M1 [g_r 45, g_i ((o_f x : Nat) : Int), g_i ((o_t x : Nat) : Int), g_i ((o_v x : Nat) : Int)] LX (fun M2 v2 => v2 = none ∧ f61 M1 M2 ∧ ∃ e : List Nat, o_M M M2 (l ++ e) ∧ (∀ y ∈ e, y = x) ∧ (x ∈ l ++ e ∨ (l ++ e).length = 201)) := by
  refine con_ofR (av := [g_r 45, g_i ((o_f x : Nat) : Int), g_i ((o_t x : Nat) : Int), g_i ((o_v x : Nat) : Int)]) (ls0 := [some (g_r 45), some (g_i ((o_f x : Nat) : Int)), some (g_i ((o_t x : Nat) : Int)), some (g_i ((o_v x : Nat) : Int)), none]) (by decide) rfl (Nat.le_of_ble_eq_true rfl) (g_hls (av := [g_r 45, g_i ((o_f x : Nat) : Int), g_i ((o_t x : Nat) : Int), g_i ((o_v x : Nat) : Int)]) (k := 1)) (fun _ h9 => List.mem_cons_of_mem _ h9) ?_
  refine ev_iconst d_Mo_addGraph_0 rfl ⟨by decide, by decide⟩ ?_
  refine ev_istore (i := 4) d_Mo_addGraph_1 rfl (by decide) rfl ?_
  refine ev_wl (fun n ls1 => ∃ i : Nat, i ≤ l.length ∧ n = l.length - i ∧ ls1 = [some (g_r 45), some (g_i ((o_f x : Nat) : Int)), some (g_i ((o_t x : Nat) : Int)), some (g_i ((o_v x : Nat) : Int)), some (g_i (i : Int))] ∧ ∀ q y : Nat, q < i → l[q]? = some y → y ≠ x) ?_ (n := l.length) (⟨0, Nat.zero_le _, rfl, rfl, fun q y hq => by omega⟩)
  intro n ls1 hP0 ih
  obtain ⟨i, hi, hn, rfl, hv⟩ := hP0
  refine ev_iload (i := 4) d_Mo_addGraph_3 rfl rfl ?_
  refine ev_aload_n (i := 0) d_Mo_addGraph_5 rfl rfl rfl ?_
  refine ev_getI (z := (l.length : Int)) d_Mo_addGraph_6 rfl lk_Mo_192 lx_45 rfl (hM.2.2.2.1) ?_
  refine ev_icmp_ge (tgt := 52) d_Mo_addGraph_9 (by decide) rfl (fun hz => ?_) (fun hz => ?_)
  · have hout : x ∉ l := fun h9 => by
      obtain ⟨q, hq⟩ := List.getElem?_of_mem h9
      exact hv q x (by have := (List.getElem?_eq_some_iff.mp hq).1; omega) hq rfl
    have h201 := hM.1
    refine ev_aload_n (i := 0) d_Mo_addGraph_52 rfl rfl rfl ?_
    refine ev_getI (z := (l.length : Int)) d_Mo_addGraph_53 rfl lk_Mo_192 lx_45 rfl (hM.2.2.2.1) ?_
    refine ev_sipush d_Mo_addGraph_56 rfl (by decide +kernel) ⟨by decide, by decide⟩ ?_
    refine ev_icmp_ge (tgt := 102) d_Mo_addGraph_59 (by decide) rfl (fun c5 => ?_) (fun c5 => ?_)
    · exact ev_retVR d_Mo_addGraph_102 (⟨rfl, f61.rf M1, [], by rw [List.append_nil]; exact hM, fun y hy => by simp at hy, by rw [List.append_nil]; first | exact Or.inr (by omega) | exact Or.inl ((o_v_inj (o_R_ok hP hyR) (o_R_ok hP hx) (by omega) (by omega) (by omega)) ▸ List.mem_of_getElem? hy)⟩)
    · refine ev_aload_n (i := 0) d_Mo_addGraph_62 rfl rfl rfl ?_
      refine ev_getR d_Mo_addGraph_63 rfl lk_Mo_49 lx_45 rfl ?_
      refine ev_aload_n (i := 0) d_Mo_addGraph_66 rfl rfl rfl ?_
      refine ev_getI (z := (l.length : Int)) d_Mo_addGraph_67 rfl lk_Mo_192 lx_45 rfl (hM.2.2.2.1) ?_
      refine ev_iload_n (i := 1) d_Mo_addGraph_70 rfl rfl rfl ?_
      refine ev_iastore d_Mo_addGraph_71 rfl lx_59 (by omega) (by omega) ?_
      rw [show Int.toNat (((l.length : Int))) = l.length by rfl]
      refine ev_aload_n (i := 0) d_Mo_addGraph_72 rfl rfl rfl ?_
      refine ev_getR d_Mo_addGraph_73 rfl lk_Mo_52 lx_45 rfl ?_
      refine ev_aload_n (i := 0) d_Mo_addGraph_76 rfl rfl rfl ?_
      refine ev_getI (z := (l.length : Int)) d_Mo_addGraph_77 rfl lk_Mo_192 lx_45 rfl (by rw [g_up_ne (by decide)]; exact hM.2.2.2.1) ?_
      refine ev_iload_n (i := 2) d_Mo_addGraph_80 rfl rfl rfl ?_
      refine ev_iastore d_Mo_addGraph_81 rfl lx_60 (by omega) (by omega) ?_
      rw [show Int.toNat (((l.length : Int))) = l.length by rfl]
      refine ev_aload_n (i := 0) d_Mo_addGraph_82 rfl rfl rfl ?_
      refine ev_getR d_Mo_addGraph_83 rfl lk_Mo_55 lx_45 rfl ?_
      refine ev_aload_n (i := 0) d_Mo_addGraph_86 rfl rfl rfl ?_
      refine ev_getI (z := (l.length : Int)) d_Mo_addGraph_87 rfl lk_Mo_192 lx_45 rfl (by rw [g_up_ne (by decide), g_up_ne (by decide)]; exact hM.2.2.2.1) ?_
      refine ev_iload_n (i := 3) d_Mo_addGraph_90 rfl rfl rfl ?_
      refine ev_iastore d_Mo_addGraph_91 rfl lx_61 (by omega) (by omega) ?_
      rw [show Int.toNat (((l.length : Int))) = l.length by rfl]
      refine ev_aload_n (i := 0) d_Mo_addGraph_92 rfl rfl rfl ?_
      refine ev_dup d_Mo_addGraph_93 rfl rfl ?_
      refine ev_getI (z := (l.length : Int)) d_Mo_addGraph_94 rfl lk_Mo_192 lx_45 rfl (by rw [g_up_ne (by decide), g_up_ne (by decide), g_up_ne (by decide)]; exact hM.2.2.2.1) ?_
      refine ev_iconst d_Mo_addGraph_97 rfl ⟨by decide, by decide⟩ ?_
      refine ev_iadd (z := ((l.length : Int)) + 1) d_Mo_addGraph_98 rfl (g_w_id (by unfold g_rg; omega)) ?_
      refine ev_putI d_Mo_addGraph_99 rfl lk_Mo_192 fp_Mo_18 (Or.inl rfl) lx_45 rfl ?_
      exact ev_retVR d_Mo_addGraph_102 (⟨rfl, fun k b h1 h2 => by simp only [g_up]; rw [if_neg (by omega), if_neg (by omega), if_neg (by omega), if_neg (by omega)], [x], o_M_add hM (by omega) hx hout, fun y hy => List.mem_singleton.mp hy, Or.inl (List.mem_append_right _ List.mem_cons_self)⟩)
  · obtain ⟨y, hy⟩ : ∃ y, l[i]? = some y := ⟨_, List.getElem?_eq_getElem (by omega)⟩
    obtain ⟨y1, y2, y3⟩ := hM.2.2.2.2 i y hy
    have hyR := hM.2.2.1 y (List.mem_of_getElem? hy)
    have h201 := hM.1
    refine ev_aload_n (i := 0) d_Mo_addGraph_12 rfl rfl rfl ?_
    refine ev_getR d_Mo_addGraph_13 rfl lk_Mo_49 lx_45 rfl ?_
    refine ev_iload (i := 4) d_Mo_addGraph_16 rfl rfl ?_
    refine ev_iaload (z := ((o_f y : Nat) : Int)) d_Mo_addGraph_18 rfl lx_59 (by omega) (by omega) (y1) ?_
    refine ev_iload_n (i := 1) d_Mo_addGraph_19 rfl rfl rfl ?_
    refine ev_icmp_ne (tgt := 46) d_Mo_addGraph_20 (by decide) rfl (fun c1 => ?_) (fun c1 => ?_)
    · refine ev_iinc (z := (i : Int) + 1) d_Mo_addGraph_46 rfl rfl (by decide) (g_w_id (by unfold g_rg; omega)) rfl ?_
      refine ev_goto (tgt := 3) d_Mo_addGraph_49 (by decide) ?_
      refine ev_le (ih (l.length - (i + 1)) [some (g_r 45), some (g_i ((o_f x : Nat) : Int)), some (g_i ((o_t x : Nat) : Int)), some (g_i ((o_v x : Nat) : Int)), some (g_i ((i + 1 : Nat) : Int))] (by omega) ⟨i + 1, by omega, rfl, rfl, fun q y9 hq hqy => ?_⟩) rfl ⟨rfl, rfl, rfl, rfl, rfl, trivial⟩
      by_cases hqi : q = i
      · subst hqi
        have ey : y9 = y := by rw [hy] at hqy; simpa using hqy.symm
        rw [ey]
        intro h9
        subst h9
        first | exact c1 rfl | exact c2 rfl | exact c3 rfl
      · exact hv q y9 (by omega) hqy
    · refine ev_aload_n (i := 0) d_Mo_addGraph_23 rfl rfl rfl ?_
      refine ev_getR d_Mo_addGraph_24 rfl lk_Mo_52 lx_45 rfl ?_
      refine ev_iload (i := 4) d_Mo_addGraph_27 rfl rfl ?_
      refine ev_iaload (z := ((o_t y : Nat) : Int)) d_Mo_addGraph_29 rfl lx_60 (by omega) (by omega) (y2) ?_
      refine ev_iload_n (i := 2) d_Mo_addGraph_30 rfl rfl rfl ?_
      refine ev_icmp_ne (tgt := 46) d_Mo_addGraph_31 (by decide) rfl (fun c2 => ?_) (fun c2 => ?_)
      · refine ev_iinc (z := (i : Int) + 1) d_Mo_addGraph_46 rfl rfl (by decide) (g_w_id (by unfold g_rg; omega)) rfl ?_
        refine ev_goto (tgt := 3) d_Mo_addGraph_49 (by decide) ?_
        refine ev_le (ih (l.length - (i + 1)) [some (g_r 45), some (g_i ((o_f x : Nat) : Int)), some (g_i ((o_t x : Nat) : Int)), some (g_i ((o_v x : Nat) : Int)), some (g_i ((i + 1 : Nat) : Int))] (by omega) ⟨i + 1, by omega, rfl, rfl, fun q y9 hq hqy => ?_⟩) rfl ⟨rfl, rfl, rfl, rfl, rfl, trivial⟩
        by_cases hqi : q = i
        · subst hqi
          have ey : y9 = y := by rw [hy] at hqy; simpa using hqy.symm
          rw [ey]
          intro h9
          subst h9
          first | exact c1 rfl | exact c2 rfl | exact c3 rfl
        · exact hv q y9 (by omega) hqy
      · refine ev_aload_n (i := 0) d_Mo_addGraph_34 rfl rfl rfl ?_
        refine ev_getR d_Mo_addGraph_35 rfl lk_Mo_55 lx_45 rfl ?_
        refine ev_iload (i := 4) d_Mo_addGraph_38 rfl rfl ?_
        refine ev_iaload (z := ((o_v y : Nat) : Int)) d_Mo_addGraph_40 rfl lx_61 (by omega) (by omega) (y3) ?_
        refine ev_iload_n (i := 3) d_Mo_addGraph_41 rfl rfl rfl ?_
        refine ev_icmp_ne (tgt := 46) d_Mo_addGraph_42 (by decide) rfl (fun c3 => ?_) (fun c3 => ?_)
        · refine ev_iinc (z := (i : Int) + 1) d_Mo_addGraph_46 rfl rfl (by decide) (g_w_id (by unfold g_rg; omega)) rfl ?_
          refine ev_goto (tgt := 3) d_Mo_addGraph_49 (by decide) ?_
          refine ev_le (ih (l.length - (i + 1)) [some (g_r 45), some (g_i ((o_f x : Nat) : Int)), some (g_i ((o_t x : Nat) : Int)), some (g_i ((o_v x : Nat) : Int)), some (g_i ((i + 1 : Nat) : Int))] (by omega) ⟨i + 1, by omega, rfl, rfl, fun q y9 hq hqy => ?_⟩) rfl ⟨rfl, rfl, rfl, rfl, rfl, trivial⟩
          by_cases hqi : q = i
          · subst hqi
            have ey : y9 = y := by rw [hy] at hqy; simpa using hqy.symm
            rw [ey]
            intro h9
            subst h9
            first | exact c1 rfl | exact c2 rfl | exact c3 rfl
          · exact hv q y9 (by omega) hqy
        · exact ev_retVR d_Mo_addGraph_45 (⟨rfl, f61.rf M1, [], by rw [List.append_nil]; exact hM, fun y hy => by simp at hy, by rw [List.append_nil]; first | exact Or.inr (by omega) | exact Or.inl ((o_v_inj (o_R_ok hP hyR) (o_R_ok hP hx) (by omega) (by omega) (by omega)) ▸ List.mem_of_getElem? hy)⟩)
