/-! a tree's parts in a row -/
def u_ks : u_F → List u_F
  | .append a l => a :: u_ks l
  | _ => []
theorem u_gd_ks {wd : Nat → Int} {c : Nat} : ∀ (n : Nat) (l : u_F) (i : Nat), u_gd wd l false c i → n + i = 3 → (((u_ks l).length + i : Nat) : Int) = wd c ∧ (u_ks l).length + i ≤ 3 ∧ u_pr l = (u_ks l).flatMap u_pr ∧ (∀ a ∈ u_ks l, u_gd wd a true 0 0) ∧ ∀ k : Nat, k < (u_ks l).length → (u_ks l)[k]? = some (u_ch l k) := by
  intro n
  induction n with
  | zero =>
    intro l i h hn
    rcases u_gd_rw h with ⟨rfl, h1⟩ | ⟨a, l, rfl, h1, h2, h3⟩
    · exact ⟨by rw [h1]; simp [u_ks], by simp [u_ks]; omega, rfl, fun a ha => by simp [u_ks] at ha, fun k hk => by simp [u_ks] at hk⟩
    · omega
  | succ n ih =>
    intro l i h hn
    rcases u_gd_rw h with ⟨rfl, h1⟩ | ⟨a, l, rfl, h1, h2, h3⟩
    · exact ⟨by rw [h1]; simp [u_ks], by simp [u_ks]; omega, rfl, fun a ha => by simp [u_ks] at ha, fun k hk => by simp [u_ks] at hk⟩
    · obtain ⟨g1, g2, g3, g4, g5⟩ := ih l (i + 1) h3 (by omega)
      rw [u_ks, List.length_cons]
      refine ⟨by rw [← g1]; omega, by omega, ?_, fun b hb => ?_, fun k hk => ?_⟩
      · rw [u_pr, g3, List.flatMap_cons]
      · rcases List.mem_cons.mp hb with rfl | hb
        · exact h1
        · exact g4 b hb
      · match k with
        | 0 => rfl
        | k + 1 =>
          rw [List.getElem?_cons_succ, u_ch]
          exact g5 k (by omega)
/-- numbers that stand for trees, one by one -/
def u_ss (rp : u_F → Nat → Prop) : List Nat → List u_F → Prop
  | [], [] => True
  | x :: S, t :: F => rp t x ∧ u_ss rp S F
  | _, _ => False
theorem u_ss_len {rp : u_F → Nat → Prop} : ∀ (S : List Nat) (F : List u_F), u_ss rp S F → S.length = F.length
  | [], [], _ => rfl
  | x :: S, t :: F, h => by rw [List.length_cons, List.length_cons, u_ss_len S F h.2]
  | [], _ :: _, h => absurd h id
  | _ :: _, [], h => absurd h id
theorem u_ss_c {rp : u_F → Nat → Prop} {y : Nat} {S : List Nat} {F : List u_F} (h : u_ss rp (y :: S) F) : ∃ f F', F = f :: F' ∧ rp f y ∧ u_ss rp S F' := by
  match F, h with
  | f :: F', h => exact ⟨f, F', rfl, h⟩
  | [], h => exact absurd h id
/-- what is left to be written -/
theorem u_pr_pos {wd : Nat → Int} : ∀ (F : List u_F), (∀ f ∈ F, u_gd wd f true 0 0) → F.length ≤ (F.flatMap u_pr).length
  | [], _ => Nat.le_refl _
  | f :: F, h => by
    have h1 := u_pr_pos F (fun g hg => h g (List.mem_cons_of_mem _ hg))
    obtain ⟨c, l, e, -⟩ := u_gd_nd (h f List.mem_cons_self)
    rw [List.flatMap_cons, List.length_append, e, u_pr, List.length_cons, List.length_cons]
    omega
theorem u_A_s {A : List Nat} {c : Nat} {R T : List Nat} (h : A ++ c :: R = T) : (A ++ [c]) ++ R = T := by rw [List.append_assoc]; exact h
/-- what a write of the reference changes -/
def u_we (M M2 : g_M) : Prop := ∀ k b : Nat, k ≠ 62 → k ≠ 63 → k ≠ 76 → ¬ (k = 45 ∧ (b = 22 ∨ b = 42)) → M2 k b = M k b
theorem u_we.tr {M M1 M2 : g_M} (h : u_we M M1) (h2 : u_we M1 M2) : u_we M M2 := fun k b h3 h4 h5 h6 => (h2 k b h3 h4 h5 h6).trans (h k b h3 h4 h5 h6)
theorem u_we_q {M M2 : g_M} (h : q_eq M M2) : u_we M M2 := fun k b h3 h4 _ h6 => h k b h3 h4 (fun h9 => h6 ⟨h9.1, Or.inl h9.2⟩)
theorem u_we_42 (M : g_M) (z : Int) : u_we M (g_up M 45 42 z) := fun k b _ _ _ h6 => by simp only [g_up]; rw [if_neg (fun h9 => h6 ⟨h9.1, Or.inr h9.2⟩)]
theorem u_we_76 (M : g_M) (n : Nat) (z : Int) : u_we M (g_up M 76 n z) := fun k b _ _ h5 _ => by simp only [g_up]; rw [if_neg (fun h9 => h5 h9.1)]
/-- a row that grows at its end -/
theorem u_an {Mf : Nat → Int} {A : List Nat} (h : ∀ i a : Nat, A[i]? = some a → Mf i = a) (c : Nat) {Mg : Nat → Int} (hg : Mg A.length = c) (ho : ∀ i, i < A.length → Mg i = Mf i) : ∀ i a : Nat, (A ++ [c])[i]? = some a → Mg i = a := by
  intro i a hi
  by_cases hl : i < A.length
  · rw [List.getElem?_append_left hl] at hi
    rw [ho i hl]
    exact h i a hi
  · rw [List.getElem?_append_right (by omega)] at hi
    have h0 : i - A.length = 0 := by
      have := (List.getElem?_eq_some_iff.mp hi).1
      simp at this
      omega
    rw [h0] at hi
    have e : c = a := by simpa using hi
    rw [show i = A.length by omega, hg, e]
theorem c_Mo_write (d : Nat) (M1 : g_M) (x : Nat) (t : u_F) (hnv : M1 45 29 ≤ 730) (ht : u_rm M1 t x) (hg : u_gd (M1 47) t true 0 0) (h60 : u_sz t ≤ 60) : ConR y_Mo_write w_Mo_write (g_rm (d + 1)) LX M1 [g_r 45, g_i (x : Int)] LX (fun M2 v2 => v2 = none ∧ u_we M1 M2 ∧ M2 45 42 = (u_sz t : Nat) ∧ ∀ i a : Nat, (u_pr t)[i]? = some a → M2 76 i = a) := by
  refine con_ofR (av := [g_r 45, g_i (x : Int)]) (ls0 := [some (g_r 45), some (g_i (x : Int)), none, none]) (by decide) rfl (Nat.le_of_ble_eq_true rfl) (g_hls (av := [g_r 45, g_i (x : Int)]) (k := 2)) (fun _ h9 => List.mem_cons_of_mem _ h9) ?_
  refine ev_aload_n (i := 0) d_Mo_write_0 rfl rfl rfl ?_
  refine ev_iconst d_Mo_write_1 rfl ⟨by decide, by decide⟩ ?_
  refine ev_putI d_Mo_write_2 rfl lk_Mo_141 fp_Mo_22 (Or.inl rfl) lx_45 rfl ?_
  refine ev_aload_n (i := 0) d_Mo_write_5 rfl rfl rfl ?_
  refine ev_iload_n (i := 1) d_Mo_write_6 rfl rfl rfl ?_
  refine ev_iconst d_Mo_write_7 rfl ⟨by decide, by decide⟩ ?_
  refine ev_callV (As := [g_i (x : Int), g_i 0]) d_Mo_write_8 rfl cl_Mo_148 ((c_Mo_push (d + 0) (g_up M1 45 22 0) [] (x : Int) 0 (q_nil (g_up_at _ _ _ _)) (by decide))) (g_hR (by decide)) g_h0 lx_45 rfl rfl (Nat.le_of_ble_eq_true rfl) rfl rfl ?_
  refine ev_aload_n (i := 0) d_Mo_write_11 rfl rfl rfl ?_
  refine ev_iconst d_Mo_write_12 rfl ⟨by decide, by decide⟩ ?_
  refine ev_putI d_Mo_write_13 rfl lk_Mo_262 fp_Mo_42 (Or.inl rfl) lx_45 rfl ?_
  refine ev_wh (fun n ls1 M2 => ∃ (A S : List Nat) (F : List u_F), n = (F.flatMap u_pr).length ∧ ls1 = [some (g_r 45), some (g_i (x : Int)), none, none] ∧ u_we M1 M2 ∧ q_st M2 S ∧ u_ss (u_rm M1) S F ∧ (∀ f ∈ F, u_gd (M1 47) f true 0 0) ∧ A ++ F.flatMap u_pr = u_pr t ∧ M2 45 42 = A.length ∧ ∀ i a : Nat, A[i]? = some a → M2 76 i = a) ?_ (n := (u_pr t).length) (⟨[], [x], [t], by simp, rfl, ((u_we_q (q_pe M1 0)).tr (u_we_q (q_up _ 0 _ _ _))).tr (u_we_42 _ _), ⟨by rw [g_up_nj (by decide), g_up_at]; rfl, fun i z hz => by match i, hz with | 0, hz => (have e : x = z := by simpa using hz); subst e; rfl⟩, ⟨ht, trivial⟩, fun f hf => by rw [List.mem_singleton.mp hf]; exact hg, by simp, g_up_at _ _ _ _, fun i a hi => by simp at hi⟩)
  intro n ls1 M2 hP0 ih
  obtain ⟨A, S, F, hn, rfl, hw2, hS, hs, hFg, hA, h42, hAn⟩ := hP0
  have hAl : A.length + (F.flatMap u_pr).length ≤ 60 := by rw [← List.length_append, hA, u_pr_len]; exact h60
  have hSF := u_ss_len S F hs
  have hFl := u_pr_pos F hFg
  refine ev_aload_n (i := 0) d_Mo_write_16 rfl rfl rfl ?_
  refine ev_getI (z := (S.length : Int)) d_Mo_write_17 rfl lk_Mo_141 lx_45 rfl (hS.1) ?_
  refine ev_if_le (tgt := 110) d_Mo_write_20 (by decide) rfl (fun hz => ?_) (fun hz => ?_)
  · have eS : S = [] := List.eq_nil_of_length_eq_zero (by omega)
    subst eS
    have eF : F = [] := List.eq_nil_of_length_eq_zero (by rw [← hSF]; rfl)
    subst eF
    rw [List.flatMap_nil, List.append_nil] at hA
    subst hA
    exact ev_retVR d_Mo_write_110 (⟨rfl, hw2, by rw [h42, u_pr_len], hAn⟩)
  · obtain ⟨y, S, rfl⟩ : ∃ y S1, S = y :: S1 := by
      cases S with
      | nil => simp at hz
      | cons y S1 => exact ⟨y, S1, rfl⟩
    obtain ⟨p1, p2⟩ := q_pop hS
    obtain ⟨f, F, rfl, hyr, hss⟩ := u_ss_c hs
    obtain ⟨c, l, rfl, hgl, hc8⟩ := u_gd_nd (hFg f List.mem_cons_self)
    obtain ⟨hok, hmk, -, hrow⟩ := hyr
    obtain ⟨g1, g2, g3, g4, g5⟩ := u_gd_ks 3 l 0 hgl rfl
    obtain ⟨w, hw⟩ : ∃ w : Nat, (u_ks l).length = w := ⟨_, rfl⟩
    rw [hw, Nat.add_zero] at g1 g2
    rw [hw] at g5
    have hy7 : (y : Int) < 730 := by have : (y : Int) < M1 45 29 := hok; omega
    rw [List.flatMap_cons, List.length_append, u_pr, List.length_cons] at hAl
    rw [List.flatMap_cons, u_pr, List.cons_append] at hA
    rw [List.length_cons, List.length_cons] at hSF
    have hFl2 := u_pr_pos F (fun f hf => hFg f (List.mem_cons_of_mem _ hf))
    refine ev_aload_n (i := 0) d_Mo_write_23 rfl rfl rfl ?_
    refine ev_dup d_Mo_write_24 rfl rfl ?_
    refine ev_getI (z := (S.length : Int) + 1) d_Mo_write_25 rfl lk_Mo_141 lx_45 rfl (by rw [hS.1, List.length_cons]; omega) ?_
    refine ev_iconst d_Mo_write_28 rfl ⟨by decide, by decide⟩ ?_
    refine ev_isub (z := (S.length : Int)) d_Mo_write_29 rfl (by rw [g_w_id (by unfold g_rg; omega)]; omega) ?_
    refine ev_putI d_Mo_write_30 rfl lk_Mo_141 fp_Mo_22 (Or.inl rfl) lx_45 rfl ?_
    refine ev_aload_n (i := 0) d_Mo_write_33 rfl rfl rfl ?_
    refine ev_getR d_Mo_write_34 rfl lk_Mo_58 lx_45 rfl ?_
    refine ev_aload_n (i := 0) d_Mo_write_37 rfl rfl rfl ?_
    refine ev_getI (z := (S.length : Int)) d_Mo_write_38 rfl lk_Mo_141 lx_45 rfl (g_up_at _ _ _ _) ?_
    refine ev_iaload (z := (y : Int)) d_Mo_write_41 rfl lx_62 (by omega) (by omega) (by rw [g_up_ne (by decide), Int.toNat_natCast]; exact p1) ?_
    refine ev_istore_n (i := 2) d_Mo_write_42 rfl rfl (by decide) rfl ?_
    refine ev_aload_n (i := 0) d_Mo_write_43 rfl rfl rfl ?_
    refine ev_getR d_Mo_write_44 rfl lk_Mo_101 lx_45 rfl ?_
    refine ev_aload_n (i := 0) d_Mo_write_47 rfl rfl rfl ?_
    refine ev_getI (z := (A.length : Int)) d_Mo_write_48 rfl lk_Mo_262 lx_45 rfl (by rw [g_up_nj (by decide)]; exact h42) ?_
    refine ev_aload_n (i := 0) d_Mo_write_51 rfl rfl rfl ?_
    refine ev_getR d_Mo_write_52 rfl lk_Mo_77 lx_45 rfl ?_
    refine ev_iload_n (i := 2) d_Mo_write_55 rfl rfl rfl ?_
    refine ev_iaload (z := (c : Int)) d_Mo_write_56 rfl lx_68 (by omega) (by omega) (by rw [g_up_ne (by decide), Int.toNat_natCast, hw2 68 _ (by decide) (by decide) (by decide) (by omega)]; exact hmk) ?_
    refine ev_iastore d_Mo_write_57 rfl lx_76 (by omega) (by omega) ?_
    rw [show Int.toNat (((A.length : Int))) = A.length by rfl]
    refine ev_aload_n (i := 0) d_Mo_write_58 rfl rfl rfl ?_
    refine ev_dup d_Mo_write_59 rfl rfl ?_
    refine ev_getI (z := (A.length : Int)) d_Mo_write_60 rfl lk_Mo_262 lx_45 rfl (by rw [g_up_ne (by decide), g_up_nj (by decide)]; exact h42) ?_
    refine ev_iconst d_Mo_write_63 rfl ⟨by decide, by decide⟩ ?_
    refine ev_iadd (z := (A.length : Int) + 1) d_Mo_write_64 rfl (g_w_id (by unfold g_rg; omega)) ?_
    refine ev_putI d_Mo_write_65 rfl lk_Mo_262 fp_Mo_42 (Or.inl rfl) lx_45 rfl ?_
    refine ev_aload_n (i := 0) d_Mo_write_68 rfl rfl rfl ?_
    refine ev_getR d_Mo_write_69 rfl lk_Mo_13 lx_45 rfl ?_
    refine ev_aload_n (i := 0) d_Mo_write_72 rfl rfl rfl ?_
    refine ev_getR d_Mo_write_73 rfl lk_Mo_77 lx_45 rfl ?_
    refine ev_iload_n (i := 2) d_Mo_write_76 rfl rfl rfl ?_
    refine ev_iaload (z := (c : Int)) d_Mo_write_77 rfl lx_68 (by omega) (by omega) (by rw [g_up_ne (by decide), g_up_ne (by decide), g_up_ne (by decide), Int.toNat_natCast, hw2 68 _ (by decide) (by decide) (by decide) (by omega)]; exact hmk) ?_
    refine ev_iaload (z := (w : Int)) d_Mo_write_78 rfl lx_47 (by omega) (by omega) (by rw [g_up_ne (by decide), g_up_ne (by decide), g_up_ne (by decide), Int.toNat_natCast, hw2 47 _ (by decide) (by decide) (by decide) (by omega)]; exact g1.symm) ?_
    refine ev_iconst d_Mo_write_79 rfl ⟨by decide, by decide⟩ ?_
    refine ev_isub (z := (w : Int) - 1) d_Mo_write_80 rfl (g_w_id (by unfold g_rg; omega)) ?_
    refine ev_istore_n (i := 3) d_Mo_write_81 rfl rfl (by decide) rfl ?_
    refine ev_wh (fun n ls1 M3 => ∃ (k : Nat) (S2 : List Nat), k ≤ w ∧ n = k ∧ ls1 = [some (g_r 45), some (g_i (x : Int)), some (g_i (y : Int)), some (g_i ((k : Int) - 1))] ∧ q_eq (g_up (g_up (g_up M2 45 22 (S.length : Int)) 76 A.length (c : Int)) 45 42 ((A.length : Int) + 1)) M3 ∧ q_st M3 S2 ∧ u_ss (u_rm M1) S2 ((u_ks l).drop k ++ F)) ?_ (n := w) (⟨w, S, Nat.le_refl _, rfl, rfl, q_eq.rf _, ⟨by rw [g_up_nj (by decide), g_up_ne (by decide), g_up_at], fun i z hz => p2.2 i z hz⟩, by rw [List.drop_of_length_le (by omega)]; exact hss⟩)
    intro n ls1 M3 hP3 ih2
    obtain ⟨k, S2, hk, hn3, rfl, hq3, hS3, hs3⟩ := hP3
    have hS2l : S2.length ≤ 63 := by rw [u_ss_len _ _ hs3, List.length_append, List.length_drop]; omega
    refine ev_iload_n (i := 3) d_Mo_write_82 rfl rfl rfl ?_
    refine ev_if_lt (tgt := 107) d_Mo_write_83 (by decide) rfl (fun hz2 => ?_) (fun hz2 => ?_)
    · refine ev_goto (tgt := 16) d_Mo_write_107 (by decide) ?_
      have e0 : k = 0 := by omega
      subst e0
      rw [List.drop_zero] at hs3
      exact ev_le (ih (((u_ks l ++ F).flatMap u_pr).length) [some (g_r 45), some (g_i (x : Int)), none, none] M3 (by rw [hn, List.flatMap_cons, List.flatMap_append, List.length_append, List.length_append, u_pr, g3, List.length_cons]; omega) ⟨A ++ [c], S2, u_ks l ++ F, rfl, rfl, hw2.tr ((((u_we_q (q_pe M2 _)).tr (u_we_76 _ _ _)).tr (u_we_42 _ _)).tr (u_we_q hq3)), hS3, hs3, fun f hf => by rcases List.mem_append.mp hf with hf | hf; exact g4 f hf; exact hFg f (List.mem_cons_of_mem _ hf), by rw [List.flatMap_append, ← g3]; exact u_A_s hA, by rw [hq3 45 42 (by decide) (by decide) (by decide), g_up_at, List.length_append]; rfl, by rw [hq3.fn (k := 76) (by decide) (by decide) (by decide)]; exact u_an hAn c (by rw [g_up_ne (by decide), g_up_at]) (fun i hi => by rw [g_up_ne (by decide), g_up_nj (by omega), g_up_ne (by decide)])⟩) rfl ⟨rfl, rfl, trivial⟩
    · obtain ⟨k, rfl⟩ : ∃ k9, k = k9 + 1 := ⟨k - 1, by omega⟩
      obtain ⟨z, hz3, hzr⟩ := u_rp_ch k l y 0 hrow (by show ((0 + k : Nat) : Int) < M1 47 (M1 68 y).toNat; rw [hmk, Int.toNat_natCast, ← g1]; omega)
      rw [Nat.zero_add] at hz3
      have hdk : (u_ks l).drop k ++ F = u_ch l k :: ((u_ks l).drop (k + 1) ++ F) := by
        have h9 := g5 k (by omega)
        obtain ⟨hl9, e9⟩ := List.getElem?_eq_some_iff.mp h9
        rw [List.drop_eq_getElem_cons hl9, e9, List.cons_append]
      refine ev_aload_n (i := 0) d_Mo_write_86 rfl rfl rfl ?_
      refine ev_aload_n (i := 0) d_Mo_write_87 rfl rfl rfl ?_
      refine ev_getR d_Mo_write_88 rfl lk_Mo_80 lx_45 rfl ?_
      refine ev_iconst d_Mo_write_91 rfl ⟨by decide, by decide⟩ ?_
      refine ev_iload_n (i := 2) d_Mo_write_92 rfl rfl rfl ?_
      refine ev_imul (z := 3 * (y : Int)) d_Mo_write_93 rfl (g_w_id (by unfold g_rg; omega)) ?_
      refine ev_iload_n (i := 3) d_Mo_write_94 rfl rfl rfl ?_
      refine ev_iadd (z := ((3 * y + k : Nat) : Int)) d_Mo_write_95 rfl (by rw [g_w_id (by unfold g_rg; omega)]; omega) ?_
      refine ev_iaload (z := (z : Int)) d_Mo_write_96 rfl lx_69 (by omega) (by omega) (by rw [Int.toNat_natCast, hq3 69 _ (by decide) (by decide) (by omega), g_up_ne (by decide), g_up_ne (by decide), g_up_ne (by decide), hw2 69 _ (by decide) (by decide) (by decide) (by omega)]; exact hz3) ?_
      refine ev_iconst d_Mo_write_97 rfl ⟨by decide, by decide⟩ ?_
      refine ev_callV (As := [g_i ((z : Int)), g_i 0]) d_Mo_write_98 rfl cl_Mo_148 ((c_Mo_push (d + 0) M3 S2 (z : Int) 0 hS3 (by omega))) (g_hR (by decide)) g_h0 lx_45 rfl rfl (Nat.le_of_ble_eq_true rfl) rfl rfl ?_
      refine ev_iinc (z := (k : Int) - 1) d_Mo_write_101 rfl rfl (by decide) (by rw [g_w_id (by unfold g_rg; omega)]; omega) rfl ?_
      refine ev_goto (tgt := 82) d_Mo_write_104 (by decide) ?_
      exact ev_le (ih2 k [some (g_r 45), some (g_i (x : Int)), some (g_i (y : Int)), some (g_i ((k : Int) - 1))] _ (by omega) ⟨k, z :: S2, by omega, rfl, rfl, hq3.tr (q_up _ _ _ _ _), q_push z 0 hS3, by rw [hdk]; exact ⟨hzr, hs3⟩⟩) rfl ⟨rfl, rfl, rfl, congrArg (fun z => some (some (g_i z))) (by omega), trivial⟩
