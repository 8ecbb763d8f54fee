/-- all but the row of inhabited types -/
def e66 (M M1 : g_M) : Prop := ∀ k b : Nat, k ≠ 66 → M1 k b = M k b
theorem e66.up {M M1 : g_M} (h : e66 M M1) (i : Nat) (z : Int) : e66 M (g_up M1 66 i z) := fun k b hk => by rw [g_up_ne hk]; exact h k b hk
theorem e66.fn {M M1 : g_M} (h : e66 M M1) {k : Nat} (hk : k ≠ 66) : M1 k = M k := funext fun b => h k b hk
theorem h_ad0 {L : List Nat} {S : Nat → Bool} {x : Nat} {a : Int} (h : a = 1 ↔ L.all S = true) (ha : a = 0) : ((0 : Int) = 1 ↔ (L ++ [x]).all S = true) := by
  rw [List.all_append, Bool.and_eq_true, ← h]
  omega
theorem h_ad1 {L : List Nat} {S : Nat → Bool} {x : Nat} (h : ¬ S x = true) : ((0 : Int) = 1 ↔ (L ++ [x]).all S = true) := by
  rw [List.all_append, Bool.and_eq_true]
  constructor
  · intro h9; omega
  · intro h9
    have := List.all_eq_true.mp h9.2 x List.mem_cons_self
    exact absurd this h
theorem h_ad2 {L : List Nat} {S : Nat → Bool} {x : Nat} {a : Int} (h : a = 1 ↔ L.all S = true) (h01 : a = 0 ∨ a = 1) (ha : a ≠ 0) (hx : S x = true) : ((1 : Int) = 1 ↔ (L ++ [x]).all S = true) := by
  refine ⟨fun _ => ?_, fun _ => rfl⟩
  rw [List.all_append, h.mp (by omega)]
  simp [hx]
theorem h_yes {z : Int} {b : Bool} (h : z = if b = true then 1 else 0) (hz : ¬ z = 0) : b = true := by
  cases b
  · exact absurd h hz
  · rfl
theorem z_map_s {α : Type} (f : Nat → α) (k : Nat) : (List.range (k + 1)).map f = (List.range k).map f ++ [f k] := by
  rw [List.range_succ, List.map_append]
  rfl
theorem h_k_at {wd pl : Nat → Int} {c w : Nat} (hw : wd c = w) : h_k wd pl c = (List.range w).map (fun i => (pl (3 * c + i)).toNat) := by
  unfold h_k
  rw [hw, Int.toNat_natCast]
theorem h_fin {S : Nat → Bool} {M1 : g_M} (h : ∀ b : Nat, b < 3 → M1 66 b = if S b = true then 1 else 0) {b t : Nat} (hb : b < 3) (ht : t < 3) {A : Bool} {s v : Int} (hv : (M1 66 t ≠ 0 ∧ v = 1) ∨ (s ≠ 0 ∧ v = 1) ∨ (M1 66 t = 0 ∧ s = 0 ∧ v = 0)) (h01 : s = 0 ∨ s = 1) (hs : s = 1 ↔ A = true) : (if b = t then v else M1 66 b) = if (S b || (decide (t = b) && A)) = true then 1 else 0 := by
  by_cases hbt : b = t
  · subst hbt
    rw [if_pos rfl, decide_eq_true rfl, Bool.true_and]
    have h1 := h b hb
    have hA : A = true ∨ A = false := by cases A <;> simp
    rcases hA with hA | hA
    · rw [hA, Bool.or_true, if_pos rfl]
      have := hs.mpr hA
      omega
    · have hs0 : s = 0 := by
        have : ¬ s = 1 := fun h9 => by rw [hs.mp h9] at hA; exact absurd hA (by decide)
        omega
      rw [hA, Bool.or_false]
      by_cases hS : S b = true
      · rw [if_pos hS] at h1 ⊢
        omega
      · rw [if_neg hS] at h1 ⊢
        omega
  · rw [if_neg hbt, decide_eq_false (fun h9 => hbt h9.symm), Bool.false_and, Bool.or_false]
    exact h b hb
theorem c_Mo_allInhabited (d : Nat) (M : g_M) (m m2 : Nat) (hm : M 45 0 = m) (hm8 : m ≤ 8) (hm2 : M 45 4 = m2) (hm6 : m2 ≤ 6) (hs46 : ∀ c : Nat, c < m → (0 ≤ M 46 c ∧ M 46 c < 3) ∧ (0 ≤ M 47 c ∧ M 47 c ≤ 3) ∧ (∀ i : Nat, (i : Int) < M 47 c → 0 ≤ M 48 (3 * c + i) ∧ M 48 (3 * c + i) < 3) ∧ True) (hs49 : ∀ c : Nat, c < m2 → (0 ≤ M 49 c ∧ M 49 c < 3) ∧ (0 ≤ M 50 c ∧ M 50 c ≤ 3) ∧ (∀ i : Nat, (i : Int) < M 50 c → 0 ≤ M 51 (3 * c + i) ∧ M 51 (3 * c + i) < 3) ∧ True) : ConR y_Mo_allInhabited w_Mo_allInhabited (g_rm (d + 0)) LX M [g_r 45] LX (fun M2 v2 => (∃ r : Int, v2 = some (g_i r) ∧ (r = 0 ∨ r = 1) ∧ (r = 1 ↔ ((h_u (M 46) (M 47) (M 48) m) ++ h_u (M 49) (M 50) (M 51) m2).all (h_r (M 46) (M 47) (M 48) m 3) = true)) ∧ e66 M M2) := by
  refine con_ofR (av := [g_r 45]) (ls0 := [some (g_r 45), none, none, none, none]) (by decide) rfl (Nat.le_of_ble_eq_true rfl) (g_hls (av := [g_r 45]) (k := 4)) (fun _ h9 => List.mem_cons_of_mem _ h9) ?_
  refine ev_iconst d_Mo_allInhabited_0 rfl ⟨by decide, by decide⟩ ?_
  refine ev_istore_n (i := 1) d_Mo_allInhabited_1 rfl rfl (by decide) rfl ?_
  refine ev_wh (fun n ls1 M1 => ∃ i : Nat, i ≤ 3 ∧ n = 3 - i ∧ ls1 = [some (g_r 45), some (g_i (i : Int)), none, none, none] ∧ e66 M M1 ∧ ∀ b : Nat, b < i → M1 66 b = 0) ?_ (n := 3) (⟨0, Nat.zero_le _, rfl, rfl, fun _ _ _ => rfl, fun b hb => by omega⟩)
  intro n ls1 M1 hP ih
  obtain ⟨i, hi, hn, rfl, he, hz66⟩ := hP
  refine ev_iload_n (i := 1) d_Mo_allInhabited_2 rfl rfl rfl ?_
  refine ev_iconst d_Mo_allInhabited_3 rfl ⟨by decide, by decide⟩ ?_
  refine ev_icmp_ge (tgt := 20) d_Mo_allInhabited_4 (by decide) rfl (fun hz1 => ?_) (fun hz1 => ?_)
  · refine ev_iconst d_Mo_allInhabited_20 rfl ⟨by decide, by decide⟩ ?_
    refine ev_istore_n (i := 1) d_Mo_allInhabited_21 rfl rfl (by decide) rfl ?_
    refine ev_wh (fun n ls1 M1 => ∃ r : Nat, r ≤ 3 ∧ n = 3 - r ∧ ls1 = [some (g_r 45), some (g_i (r : Int)), none, none, none] ∧ e66 M M1 ∧ (∀ b : Nat, b < 3 → M1 66 b = if (h_r (M 46) (M 47) (M 48) m r) b = true then 1 else 0)) ?_ (n := 3) (⟨0, Nat.zero_le _, rfl, rfl, he, fun b hb => hz66 b (by omega)⟩)
    clear ih hz66 he hn hi
    intro n2 ls2 M2 hP2 ih2
    obtain ⟨r, hr, hn2, rfl, he2, hs2⟩ := hP2
    refine ev_iload_n (i := 1) d_Mo_allInhabited_22 rfl rfl rfl ?_
    refine ev_iconst d_Mo_allInhabited_23 rfl ⟨by decide, by decide⟩ ?_
    refine ev_icmp_ge (tgt := 134) d_Mo_allInhabited_24 (by decide) rfl (fun hz2 => ?_) (fun hz2 => ?_)
    · have er : r = 3 := by omega
      subst er
      clear ih2
      refine ev_iconst d_Mo_allInhabited_134 rfl ⟨by decide, by decide⟩ ?_
      refine ev_istore_n (i := 1) d_Mo_allInhabited_135 rfl rfl (by decide) rfl ?_
      refine ev_iconst d_Mo_allInhabited_136 rfl ⟨by decide, by decide⟩ ?_
      refine ev_istore_n (i := 2) d_Mo_allInhabited_137 rfl rfl (by decide) rfl ?_
      refine ev_wl (fun n ls1 => ∃ (c : Nat) (a : Int), c ≤ m ∧ n = m - c ∧ ls1 = [some (g_r 45), some (g_i a), some (g_i (c : Int)), none, none] ∧ (a = 0 ∨ a = 1) ∧ (a = 1 ↔ (h_u (M 46) (M 47) (M 48) c).all (h_r (M 46) (M 47) (M 48) m 3) = true)) ?_ (n := m) (⟨0, 1, Nat.zero_le _, rfl, rfl, Or.inr rfl, by simp [h_u]⟩)
      intro n5 ls5 hP5 ih5
      obtain ⟨c, a, hc, hn5, rfl, ha01, hav⟩ := hP5
      refine ev_iload_n (i := 2) d_Mo_allInhabited_138 rfl rfl rfl ?_
      refine ev_aload_n (i := 0) d_Mo_allInhabited_139 rfl rfl rfl ?_
      refine ev_getI (z := (m : Int)) d_Mo_allInhabited_140 rfl lk_Mo_116 lx_45 rfl ((he2 45 0 (by decide)).trans hm) ?_
      refine ev_icmp_ge (tgt := 222) d_Mo_allInhabited_143 (by decide) rfl (fun hz5 => ?_) (fun hz5 => ?_)
      · refine ev_iconst d_Mo_allInhabited_222 rfl ⟨by decide, by decide⟩ ?_
        refine ev_istore_n (i := 2) d_Mo_allInhabited_223 rfl rfl (by decide) rfl ?_
        refine ev_wl (fun n ls1 => ∃ (c : Nat) (a : Int), c ≤ m2 ∧ n = m2 - c ∧ ls1 = [some (g_r 45), some (g_i a), some (g_i (c : Int)), none, none] ∧ (a = 0 ∨ a = 1) ∧ (a = 1 ↔ ((h_u (M 46) (M 47) (M 48) m) ++ h_u (M 49) (M 50) (M 51) c).all (h_r (M 46) (M 47) (M 48) m 3) = true)) ?_ (n := m2) (⟨0, a, Nat.zero_le _, rfl, rfl, ha01, by have e : c = m := (by omega); subst e; rw [h_u, List.append_nil]; exact hav⟩)
        intro n7 ls7 hP7 ih7
        obtain ⟨c, a, hc, hn7, rfl, ha01, hav⟩ := hP7
        refine ev_iload_n (i := 2) d_Mo_allInhabited_224 rfl rfl rfl ?_
        refine ev_aload_n (i := 0) d_Mo_allInhabited_225 rfl rfl rfl ?_
        refine ev_getI (z := (m2 : Int)) d_Mo_allInhabited_226 rfl lk_Mo_127 lx_45 rfl ((he2 45 4 (by decide)).trans hm2) ?_
        refine ev_icmp_ge (tgt := 308) d_Mo_allInhabited_229 (by decide) rfl (fun hz7 => ?_) (fun hz7 => ?_)
        · refine ev_iload_n (i := 1) d_Mo_allInhabited_308 rfl rfl rfl ?_
          exact ev_retIR d_Mo_allInhabited_309 (⟨⟨a, rfl, ha01, by have e : c = m2 := (by omega); subst e; exact hav⟩, he2⟩) (Or.inr ⟨rfl, by omega⟩)
        · obtain ⟨s1, s2, s3, s4⟩ := hs49 c (by omega)
          obtain ⟨w, hw⟩ : ∃ w : Nat, M 50 c = w := ⟨(M 50 c).toNat, by omega⟩
          have hy66 := hs2 (M 49 c).toNat (by omega)
          refine ev_iload_n (i := 1) d_Mo_allInhabited_232 rfl rfl rfl ?_
          refine ev_if_eq (tgt := 254) d_Mo_allInhabited_233 (by decide) rfl (fun d1 => ?_) (fun d1 => ?_)
          · refine ev_iconst d_Mo_allInhabited_254 rfl ⟨by decide, by decide⟩ ?_
            refine ev_istore_n (i := 1) d_Mo_allInhabited_255 rfl rfl (by decide) rfl ?_
            refine ev_iconst d_Mo_allInhabited_256 rfl ⟨by decide, by decide⟩ ?_
            refine ev_istore_n (i := 3) d_Mo_allInhabited_257 rfl rfl (by decide) rfl ?_
            refine ev_wl (fun n ls1 => ∃ (k : Nat) (a2 : Int), k ≤ w ∧ n = w - k ∧ ls1 = [some (g_r 45), some (g_i a2), some (g_i (c : Int)), some (g_i (k : Int)), none] ∧ (a2 = 0 ∨ a2 = 1) ∧ (a2 = 1 ↔ (((h_u (M 46) (M 47) (M 48) m) ++ h_u (M 49) (M 50) (M 51) c ++ [(M 49 c).toNat]) ++ (List.range k).map (fun i => (M 51 (3 * c + i)).toNat)).all (h_r (M 46) (M 47) (M 48) m 3) = true)) ?_ (n := w) (⟨0, 0, Nat.zero_le _, rfl, rfl, by decide, by rw [List.range_zero, List.map_nil, List.append_nil]; first | exact h_ad2 hav ha01 d1 (h_yes hy66 d2) | exact h_ad0 hav (by omega) | exact h_ad1 (fun h9 => by rw [hy66, if_pos h9] at d2; exact absurd d2 (by decide))⟩)
            intro n8 ls8 hP8 ih8
            obtain ⟨k, a2, hk, hn8, rfl, ha2, hav2⟩ := hP8
            refine ev_iload_n (i := 3) d_Mo_allInhabited_258 rfl rfl rfl ?_
            refine ev_aload_n (i := 0) d_Mo_allInhabited_259 rfl rfl rfl ?_
            refine ev_getR d_Mo_allInhabited_260 rfl lk_Mo_22 lx_45 rfl ?_
            refine ev_iload_n (i := 2) d_Mo_allInhabited_263 rfl rfl rfl ?_
            refine ev_iaload (z := (w : Int)) d_Mo_allInhabited_264 rfl lx_50 (by omega) (by omega) ((he2 50 _ (by decide)).trans hw) ?_
            refine ev_icmp_ge (tgt := 302) d_Mo_allInhabited_265 (by decide) rfl (fun hz8 => ?_) (fun hz8 => ?_)
            · refine ev_iinc (z := (c : Int) + 1) d_Mo_allInhabited_302 rfl rfl (by decide) (g_w_id (by unfold g_rg; omega)) rfl ?_
              refine ev_goto (tgt := 224) d_Mo_allInhabited_305 (by decide) ?_
              exact ev_le (ih7 (m2 - (c + 1)) [some (g_r 45), some (g_i a2), some (g_i ((c + 1 : Nat) : Int)), none, none] (by omega) ⟨c + 1, a2, by omega, rfl, rfl, ha2, by rw [hav2]; rw [h_u, h_k_at hw, show k = w by omega, List.append_assoc, List.append_assoc]; rfl⟩) rfl ⟨rfl, rfl, rfl, trivial⟩
            · refine ev_iload_n (i := 1) d_Mo_allInhabited_268 rfl rfl rfl ?_
              refine ev_if_eq (tgt := 294) d_Mo_allInhabited_269 (by decide) rfl (fun d3 => ?_) (fun d3 => ?_)
              · refine ev_iconst d_Mo_allInhabited_294 rfl ⟨by decide, by decide⟩ ?_
                refine ev_istore_n (i := 1) d_Mo_allInhabited_295 rfl rfl (by decide) rfl ?_
                refine ev_iinc (z := (k : Int) + 1) d_Mo_allInhabited_296 rfl rfl (by decide) (g_w_id (by unfold g_rg; omega)) rfl ?_
                refine ev_goto (tgt := 258) d_Mo_allInhabited_299 (by decide) ?_
                exact ev_le (ih8 (w - (k + 1)) [some (g_r 45), some (g_i 0), some (g_i (c : Int)), some (g_i ((k + 1 : Nat) : Int)), none] (by omega) ⟨k + 1, 0, by omega, rfl, rfl, by decide, by rw [z_map_s, ← List.append_assoc]; first | exact h_ad2 hav2 ha2 d3 (h_yes hz66 d4) | exact h_ad0 hav2 (by omega) | exact h_ad1 (fun h9 => by rw [hz66, if_pos h9] at d4; exact absurd d4 (by decide))⟩) rfl ⟨rfl, rfl, rfl, rfl, trivial⟩
              · have hz66 := hs2 (M 51 (3 * c + k)).toNat (by have := s3 k (by omega); omega)
                refine ev_aload_n (i := 0) d_Mo_allInhabited_272 rfl rfl rfl ?_
                refine ev_getR d_Mo_allInhabited_273 rfl lk_Mo_71 lx_45 rfl ?_
                refine ev_aload_n (i := 0) d_Mo_allInhabited_276 rfl rfl rfl ?_
                refine ev_getR d_Mo_allInhabited_277 rfl lk_Mo_25 lx_45 rfl ?_
                refine ev_iconst d_Mo_allInhabited_280 rfl ⟨by decide, by decide⟩ ?_
                refine ev_iload_n (i := 2) d_Mo_allInhabited_281 rfl rfl rfl ?_
                refine ev_imul (z := 3 * (c : Int)) d_Mo_allInhabited_282 rfl (g_w_id (by unfold g_rg; omega)) ?_
                refine ev_iload_n (i := 3) d_Mo_allInhabited_283 rfl rfl rfl ?_
                refine ev_iadd (z := 3 * (c : Int) + (k : Int)) d_Mo_allInhabited_284 rfl (g_w_id (by unfold g_rg; omega)) ?_
                refine ev_iaload (z := M 51 (3 * c + k)) d_Mo_allInhabited_285 rfl lx_51 (by omega) (by omega) (by rw [show (3 * (c : Int) + (k : Int)).toNat = 3 * c + k by omega]; exact he2 51 _ (by decide)) ?_
                refine ev_baload (z := M2 66 (M 51 (3 * c + k)).toNat) d_Mo_allInhabited_286 rfl lx_66 ((s3 k (by omega)).1) (by have := (s3 k (by omega)).2; omega) (rfl) ?_
                refine ev_if_eq (tgt := 294) d_Mo_allInhabited_287 (by decide) rfl (fun d4 => ?_) (fun d4 => ?_)
                · refine ev_iconst d_Mo_allInhabited_294 rfl ⟨by decide, by decide⟩ ?_
                  refine ev_istore_n (i := 1) d_Mo_allInhabited_295 rfl rfl (by decide) rfl ?_
                  refine ev_iinc (z := (k : Int) + 1) d_Mo_allInhabited_296 rfl rfl (by decide) (g_w_id (by unfold g_rg; omega)) rfl ?_
                  refine ev_goto (tgt := 258) d_Mo_allInhabited_299 (by decide) ?_
                  exact ev_le (ih8 (w - (k + 1)) [some (g_r 45), some (g_i 0), some (g_i (c : Int)), some (g_i ((k + 1 : Nat) : Int)), none] (by omega) ⟨k + 1, 0, by omega, rfl, rfl, by decide, by rw [z_map_s, ← List.append_assoc]; first | exact h_ad2 hav2 ha2 d3 (h_yes hz66 d4) | exact h_ad0 hav2 (by omega) | exact h_ad1 (fun h9 => by rw [hz66, if_pos h9] at d4; exact absurd d4 (by decide))⟩) rfl ⟨rfl, rfl, rfl, rfl, trivial⟩
                · refine ev_iconst d_Mo_allInhabited_290 rfl ⟨by decide, by decide⟩ ?_
                  refine ev_goto (tgt := 295) d_Mo_allInhabited_291 (by decide) ?_
                  refine ev_istore_n (i := 1) d_Mo_allInhabited_295 rfl rfl (by decide) rfl ?_
                  refine ev_iinc (z := (k : Int) + 1) d_Mo_allInhabited_296 rfl rfl (by decide) (g_w_id (by unfold g_rg; omega)) rfl ?_
                  refine ev_goto (tgt := 258) d_Mo_allInhabited_299 (by decide) ?_
                  exact ev_le (ih8 (w - (k + 1)) [some (g_r 45), some (g_i 1), some (g_i (c : Int)), some (g_i ((k + 1 : Nat) : Int)), none] (by omega) ⟨k + 1, 1, by omega, rfl, rfl, by decide, by rw [z_map_s, ← List.append_assoc]; first | exact h_ad2 hav2 ha2 d3 (h_yes hz66 d4) | exact h_ad0 hav2 (by omega) | exact h_ad1 (fun h9 => by rw [hz66, if_pos h9] at d4; exact absurd d4 (by decide))⟩) rfl ⟨rfl, rfl, rfl, rfl, trivial⟩
          · refine ev_aload_n (i := 0) d_Mo_allInhabited_236 rfl rfl rfl ?_
            refine ev_getR d_Mo_allInhabited_237 rfl lk_Mo_71 lx_45 rfl ?_
            refine ev_aload_n (i := 0) d_Mo_allInhabited_240 rfl rfl rfl ?_
            refine ev_getR d_Mo_allInhabited_241 rfl lk_Mo_19 lx_45 rfl ?_
            refine ev_iload_n (i := 2) d_Mo_allInhabited_244 rfl rfl rfl ?_
            refine ev_iaload (z := M 49 c) d_Mo_allInhabited_245 rfl lx_49 (by omega) (by omega) (he2 49 _ (by decide)) ?_
            refine ev_baload (z := M2 66 (M 49 c).toNat) d_Mo_allInhabited_246 rfl lx_66 (by omega) (by omega) (rfl) ?_
            refine ev_if_eq (tgt := 254) d_Mo_allInhabited_247 (by decide) rfl (fun d2 => ?_) (fun d2 => ?_)
            · refine ev_iconst d_Mo_allInhabited_254 rfl ⟨by decide, by decide⟩ ?_
              refine ev_istore_n (i := 1) d_Mo_allInhabited_255 rfl rfl (by decide) rfl ?_
              refine ev_iconst d_Mo_allInhabited_256 rfl ⟨by decide, by decide⟩ ?_
              refine ev_istore_n (i := 3) d_Mo_allInhabited_257 rfl rfl (by decide) rfl ?_
              refine ev_wl (fun n ls1 => ∃ (k : Nat) (a2 : Int), k ≤ w ∧ n = w - k ∧ ls1 = [some (g_r 45), some (g_i a2), some (g_i (c : Int)), some (g_i (k : Int)), none] ∧ (a2 = 0 ∨ a2 = 1) ∧ (a2 = 1 ↔ (((h_u (M 46) (M 47) (M 48) m) ++ h_u (M 49) (M 50) (M 51) c ++ [(M 49 c).toNat]) ++ (List.range k).map (fun i => (M 51 (3 * c + i)).toNat)).all (h_r (M 46) (M 47) (M 48) m 3) = true)) ?_ (n := w) (⟨0, 0, Nat.zero_le _, rfl, rfl, by decide, by rw [List.range_zero, List.map_nil, List.append_nil]; first | exact h_ad2 hav ha01 d1 (h_yes hy66 d2) | exact h_ad0 hav (by omega) | exact h_ad1 (fun h9 => by rw [hy66, if_pos h9] at d2; exact absurd d2 (by decide))⟩)
              intro n8 ls8 hP8 ih8
              obtain ⟨k, a2, hk, hn8, rfl, ha2, hav2⟩ := hP8
              refine ev_iload_n (i := 3) d_Mo_allInhabited_258 rfl rfl rfl ?_
              refine ev_aload_n (i := 0) d_Mo_allInhabited_259 rfl rfl rfl ?_
              refine ev_getR d_Mo_allInhabited_260 rfl lk_Mo_22 lx_45 rfl ?_
              refine ev_iload_n (i := 2) d_Mo_allInhabited_263 rfl rfl rfl ?_
              refine ev_iaload (z := (w : Int)) d_Mo_allInhabited_264 rfl lx_50 (by omega) (by omega) ((he2 50 _ (by decide)).trans hw) ?_
              refine ev_icmp_ge (tgt := 302) d_Mo_allInhabited_265 (by decide) rfl (fun hz8 => ?_) (fun hz8 => ?_)
              · refine ev_iinc (z := (c : Int) + 1) d_Mo_allInhabited_302 rfl rfl (by decide) (g_w_id (by unfold g_rg; omega)) rfl ?_
                refine ev_goto (tgt := 224) d_Mo_allInhabited_305 (by decide) ?_
                exact ev_le (ih7 (m2 - (c + 1)) [some (g_r 45), some (g_i a2), some (g_i ((c + 1 : Nat) : Int)), none, none] (by omega) ⟨c + 1, a2, by omega, rfl, rfl, ha2, by rw [hav2]; rw [h_u, h_k_at hw, show k = w by omega, List.append_assoc, List.append_assoc]; rfl⟩) rfl ⟨rfl, rfl, rfl, trivial⟩
              · refine ev_iload_n (i := 1) d_Mo_allInhabited_268 rfl rfl rfl ?_
                refine ev_if_eq (tgt := 294) d_Mo_allInhabited_269 (by decide) rfl (fun d3 => ?_) (fun d3 => ?_)
                · refine ev_iconst d_Mo_allInhabited_294 rfl ⟨by decide, by decide⟩ ?_
                  refine ev_istore_n (i := 1) d_Mo_allInhabited_295 rfl rfl (by decide) rfl ?_
                  refine ev_iinc (z := (k : Int) + 1) d_Mo_allInhabited_296 rfl rfl (by decide) (g_w_id (by unfold g_rg; omega)) rfl ?_
                  refine ev_goto (tgt := 258) d_Mo_allInhabited_299 (by decide) ?_
                  exact ev_le (ih8 (w - (k + 1)) [some (g_r 45), some (g_i 0), some (g_i (c : Int)), some (g_i ((k + 1 : Nat) : Int)), none] (by omega) ⟨k + 1, 0, by omega, rfl, rfl, by decide, by rw [z_map_s, ← List.append_assoc]; first | exact h_ad2 hav2 ha2 d3 (h_yes hz66 d4) | exact h_ad0 hav2 (by omega) | exact h_ad1 (fun h9 => by rw [hz66, if_pos h9] at d4; exact absurd d4 (by decide))⟩) rfl ⟨rfl, rfl, rfl, rfl, trivial⟩
                · have hz66 := hs2 (M 51 (3 * c + k)).toNat (by have := s3 k (by omega); omega)
                  refine ev_aload_n (i := 0) d_Mo_allInhabited_272 rfl rfl rfl ?_
                  refine ev_getR d_Mo_allInhabited_273 rfl lk_Mo_71 lx_45 rfl ?_
                  refine ev_aload_n (i := 0) d_Mo_allInhabited_276 rfl rfl rfl ?_
                  refine ev_getR d_Mo_allInhabited_277 rfl lk_Mo_25 lx_45 rfl ?_
                  refine ev_iconst d_Mo_allInhabited_280 rfl ⟨by decide, by decide⟩ ?_
                  refine ev_iload_n (i := 2) d_Mo_allInhabited_281 rfl rfl rfl ?_
                  refine ev_imul (z := 3 * (c : Int)) d_Mo_allInhabited_282 rfl (g_w_id (by unfold g_rg; omega)) ?_
                  refine ev_iload_n (i := 3) d_Mo_allInhabited_283 rfl rfl rfl ?_
                  refine ev_iadd (z := 3 * (c : Int) + (k : Int)) d_Mo_allInhabited_284 rfl (g_w_id (by unfold g_rg; omega)) ?_
                  refine ev_iaload (z := M 51 (3 * c + k)) d_Mo_allInhabited_285 rfl lx_51 (by omega) (by omega) (by rw [show (3 * (c : Int) + (k : Int)).toNat = 3 * c + k by omega]; exact he2 51 _ (by decide)) ?_
                  refine ev_baload (z := M2 66 (M 51 (3 * c + k)).toNat) d_Mo_allInhabited_286 rfl lx_66 ((s3 k (by omega)).1) (by have := (s3 k (by omega)).2; omega) (rfl) ?_
                  refine ev_if_eq (tgt := 294) d_Mo_allInhabited_287 (by decide) rfl (fun d4 => ?_) (fun d4 => ?_)
                  · refine ev_iconst d_Mo_allInhabited_294 rfl ⟨by decide, by decide⟩ ?_
                    refine ev_istore_n (i := 1) d_Mo_allInhabited_295 rfl rfl (by decide) rfl ?_
                    refine ev_iinc (z := (k : Int) + 1) d_Mo_allInhabited_296 rfl rfl (by decide) (g_w_id (by unfold g_rg; omega)) rfl ?_
                    refine ev_goto (tgt := 258) d_Mo_allInhabited_299 (by decide) ?_
                    exact ev_le (ih8 (w - (k + 1)) [some (g_r 45), some (g_i 0), some (g_i (c : Int)), some (g_i ((k + 1 : Nat) : Int)), none] (by omega) ⟨k + 1, 0, by omega, rfl, rfl, by decide, by rw [z_map_s, ← List.append_assoc]; first | exact h_ad2 hav2 ha2 d3 (h_yes hz66 d4) | exact h_ad0 hav2 (by omega) | exact h_ad1 (fun h9 => by rw [hz66, if_pos h9] at d4; exact absurd d4 (by decide))⟩) rfl ⟨rfl, rfl, rfl, rfl, trivial⟩
                  · refine ev_iconst d_Mo_allInhabited_290 rfl ⟨by decide, by decide⟩ ?_
                    refine ev_goto (tgt := 295) d_Mo_allInhabited_291 (by decide) ?_
                    refine ev_istore_n (i := 1) d_Mo_allInhabited_295 rfl rfl (by decide) rfl ?_
                    refine ev_iinc (z := (k : Int) + 1) d_Mo_allInhabited_296 rfl rfl (by decide) (g_w_id (by unfold g_rg; omega)) rfl ?_
                    refine ev_goto (tgt := 258) d_Mo_allInhabited_299 (by decide) ?_
                    exact ev_le (ih8 (w - (k + 1)) [some (g_r 45), some (g_i 1), some (g_i (c : Int)), some (g_i ((k + 1 : Nat) : Int)), none] (by omega) ⟨k + 1, 1, by omega, rfl, rfl, by decide, by rw [z_map_s, ← List.append_assoc]; first | exact h_ad2 hav2 ha2 d3 (h_yes hz66 d4) | exact h_ad0 hav2 (by omega) | exact h_ad1 (fun h9 => by rw [hz66, if_pos h9] at d4; exact absurd d4 (by decide))⟩) rfl ⟨rfl, rfl, rfl, rfl, trivial⟩
            · refine ev_iconst d_Mo_allInhabited_250 rfl ⟨by decide, by decide⟩ ?_
              refine ev_goto (tgt := 255) d_Mo_allInhabited_251 (by decide) ?_
              refine ev_istore_n (i := 1) d_Mo_allInhabited_255 rfl rfl (by decide) rfl ?_
              refine ev_iconst d_Mo_allInhabited_256 rfl ⟨by decide, by decide⟩ ?_
              refine ev_istore_n (i := 3) d_Mo_allInhabited_257 rfl rfl (by decide) rfl ?_
              refine ev_wl (fun n ls1 => ∃ (k : Nat) (a2 : Int), k ≤ w ∧ n = w - k ∧ ls1 = [some (g_r 45), some (g_i a2), some (g_i (c : Int)), some (g_i (k : Int)), none] ∧ (a2 = 0 ∨ a2 = 1) ∧ (a2 = 1 ↔ (((h_u (M 46) (M 47) (M 48) m) ++ h_u (M 49) (M 50) (M 51) c ++ [(M 49 c).toNat]) ++ (List.range k).map (fun i => (M 51 (3 * c + i)).toNat)).all (h_r (M 46) (M 47) (M 48) m 3) = true)) ?_ (n := w) (⟨0, 1, Nat.zero_le _, rfl, rfl, by decide, by rw [List.range_zero, List.map_nil, List.append_nil]; first | exact h_ad2 hav ha01 d1 (h_yes hy66 d2) | exact h_ad0 hav (by omega) | exact h_ad1 (fun h9 => by rw [hy66, if_pos h9] at d2; exact absurd d2 (by decide))⟩)
              intro n8 ls8 hP8 ih8
              obtain ⟨k, a2, hk, hn8, rfl, ha2, hav2⟩ := hP8
              refine ev_iload_n (i := 3) d_Mo_allInhabited_258 rfl rfl rfl ?_
              refine ev_aload_n (i := 0) d_Mo_allInhabited_259 rfl rfl rfl ?_
              refine ev_getR d_Mo_allInhabited_260 rfl lk_Mo_22 lx_45 rfl ?_
              refine ev_iload_n (i := 2) d_Mo_allInhabited_263 rfl rfl rfl ?_
              refine ev_iaload (z := (w : Int)) d_Mo_allInhabited_264 rfl lx_50 (by omega) (by omega) ((he2 50 _ (by decide)).trans hw) ?_
              refine ev_icmp_ge (tgt := 302) d_Mo_allInhabited_265 (by decide) rfl (fun hz8 => ?_) (fun hz8 => ?_)
              · refine ev_iinc (z := (c : Int) + 1) d_Mo_allInhabited_302 rfl rfl (by decide) (g_w_id (by unfold g_rg; omega)) rfl ?_
                refine ev_goto (tgt := 224) d_Mo_allInhabited_305 (by decide) ?_
                exact ev_le (ih7 (m2 - (c + 1)) [some (g_r 45), some (g_i a2), some (g_i ((c + 1 : Nat) : Int)), none, none] (by omega) ⟨c + 1, a2, by omega, rfl, rfl, ha2, by rw [hav2]; rw [h_u, h_k_at hw, show k = w by omega, List.append_assoc, List.append_assoc]; rfl⟩) rfl ⟨rfl, rfl, rfl, trivial⟩
              · refine ev_iload_n (i := 1) d_Mo_allInhabited_268 rfl rfl rfl ?_
                refine ev_if_eq (tgt := 294) d_Mo_allInhabited_269 (by decide) rfl (fun d3 => ?_) (fun d3 => ?_)
                · refine ev_iconst d_Mo_allInhabited_294 rfl ⟨by decide, by decide⟩ ?_
                  refine ev_istore_n (i := 1) d_Mo_allInhabited_295 rfl rfl (by decide) rfl ?_
                  refine ev_iinc (z := (k : Int) + 1) d_Mo_allInhabited_296 rfl rfl (by decide) (g_w_id (by unfold g_rg; omega)) rfl ?_
                  refine ev_goto (tgt := 258) d_Mo_allInhabited_299 (by decide) ?_
                  exact ev_le (ih8 (w - (k + 1)) [some (g_r 45), some (g_i 0), some (g_i (c : Int)), some (g_i ((k + 1 : Nat) : Int)), none] (by omega) ⟨k + 1, 0, by omega, rfl, rfl, by decide, by rw [z_map_s, ← List.append_assoc]; first | exact h_ad2 hav2 ha2 d3 (h_yes hz66 d4) | exact h_ad0 hav2 (by omega) | exact h_ad1 (fun h9 => by rw [hz66, if_pos h9] at d4; exact absurd d4 (by decide))⟩) rfl ⟨rfl, rfl, rfl, rfl, trivial⟩
                · have hz66 := hs2 (M 51 (3 * c + k)).toNat (by have := s3 k (by omega); omega)
                  refine ev_aload_n (i := 0) d_Mo_allInhabited_272 rfl rfl rfl ?_
                  refine ev_getR d_Mo_allInhabited_273 rfl lk_Mo_71 lx_45 rfl ?_
                  refine ev_aload_n (i := 0) d_Mo_allInhabited_276 rfl rfl rfl ?_
                  refine ev_getR d_Mo_allInhabited_277 rfl lk_Mo_25 lx_45 rfl ?_
                  refine ev_iconst d_Mo_allInhabited_280 rfl ⟨by decide, by decide⟩ ?_
                  refine ev_iload_n (i := 2) d_Mo_allInhabited_281 rfl rfl rfl ?_
                  refine ev_imul (z := 3 * (c : Int)) d_Mo_allInhabited_282 rfl (g_w_id (by unfold g_rg; omega)) ?_
                  refine ev_iload_n (i := 3) d_Mo_allInhabited_283 rfl rfl rfl ?_
                  refine ev_iadd (z := 3 * (c : Int) + (k : Int)) d_Mo_allInhabited_284 rfl (g_w_id (by unfold g_rg; omega)) ?_
                  refine ev_iaload (z := M 51 (3 * c + k)) d_Mo_allInhabited_285 rfl lx_51 (by omega) (by omega) (by rw [show (3 * (c : Int) + (k : Int)).toNat = 3 * c + k by omega]; exact he2 51 _ (by decide)) ?_
                  refine ev_baload (z := M2 66 (M 51 (3 * c + k)).toNat) d_Mo_allInhabited_286 rfl lx_66 ((s3 k (by omega)).1) (by have := (s3 k (by omega)).2; omega) (rfl) ?_
                  refine ev_if_eq (tgt := 294) d_Mo_allInhabited_287 (by decide) rfl (fun d4 => ?_) (fun d4 => ?_)
                  · refine ev_iconst d_Mo_allInhabited_294 rfl ⟨by decide, by decide⟩ ?_
                    refine ev_istore_n (i := 1) d_Mo_allInhabited_295 rfl rfl (by decide) rfl ?_
                    refine ev_iinc (z := (k : Int) + 1) d_Mo_allInhabited_296 rfl rfl (by decide) (g_w_id (by unfold g_rg; omega)) rfl ?_
                    refine ev_goto (tgt := 258) d_Mo_allInhabited_299 (by decide) ?_
                    exact ev_le (ih8 (w - (k + 1)) [some (g_r 45), some (g_i 0), some (g_i (c : Int)), some (g_i ((k + 1 : Nat) : Int)), none] (by omega) ⟨k + 1, 0, by omega, rfl, rfl, by decide, by rw [z_map_s, ← List.append_assoc]; first | exact h_ad2 hav2 ha2 d3 (h_yes hz66 d4) | exact h_ad0 hav2 (by omega) | exact h_ad1 (fun h9 => by rw [hz66, if_pos h9] at d4; exact absurd d4 (by decide))⟩) rfl ⟨rfl, rfl, rfl, rfl, trivial⟩
                  · refine ev_iconst d_Mo_allInhabited_290 rfl ⟨by decide, by decide⟩ ?_
                    refine ev_goto (tgt := 295) d_Mo_allInhabited_291 (by decide) ?_
                    refine ev_istore_n (i := 1) d_Mo_allInhabited_295 rfl rfl (by decide) rfl ?_
                    refine ev_iinc (z := (k : Int) + 1) d_Mo_allInhabited_296 rfl rfl (by decide) (g_w_id (by unfold g_rg; omega)) rfl ?_
                    refine ev_goto (tgt := 258) d_Mo_allInhabited_299 (by decide) ?_
                    exact ev_le (ih8 (w - (k + 1)) [some (g_r 45), some (g_i 1), some (g_i (c : Int)), some (g_i ((k + 1 : Nat) : Int)), none] (by omega) ⟨k + 1, 1, by omega, rfl, rfl, by decide, by rw [z_map_s, ← List.append_assoc]; first | exact h_ad2 hav2 ha2 d3 (h_yes hz66 d4) | exact h_ad0 hav2 (by omega) | exact h_ad1 (fun h9 => by rw [hz66, if_pos h9] at d4; exact absurd d4 (by decide))⟩) rfl ⟨rfl, rfl, rfl, rfl, trivial⟩
      · obtain ⟨s1, s2, s3, s4⟩ := hs46 c (by omega)
        obtain ⟨w, hw⟩ : ∃ w : Nat, M 47 c = w := ⟨(M 47 c).toNat, by omega⟩
        have hy66 := hs2 (M 46 c).toNat (by omega)
        refine ev_iload_n (i := 1) d_Mo_allInhabited_146 rfl rfl rfl ?_
        refine ev_if_eq (tgt := 168) d_Mo_allInhabited_147 (by decide) rfl (fun d1 => ?_) (fun d1 => ?_)
        · refine ev_iconst d_Mo_allInhabited_168 rfl ⟨by decide, by decide⟩ ?_
          refine ev_istore_n (i := 1) d_Mo_allInhabited_169 rfl rfl (by decide) rfl ?_
          refine ev_iconst d_Mo_allInhabited_170 rfl ⟨by decide, by decide⟩ ?_
          refine ev_istore_n (i := 3) d_Mo_allInhabited_171 rfl rfl (by decide) rfl ?_
          refine ev_wl (fun n ls1 => ∃ (k : Nat) (a2 : Int), k ≤ w ∧ n = w - k ∧ ls1 = [some (g_r 45), some (g_i a2), some (g_i (c : Int)), some (g_i (k : Int)), none] ∧ (a2 = 0 ∨ a2 = 1) ∧ (a2 = 1 ↔ ((h_u (M 46) (M 47) (M 48) c ++ [(M 46 c).toNat]) ++ (List.range k).map (fun i => (M 48 (3 * c + i)).toNat)).all (h_r (M 46) (M 47) (M 48) m 3) = true)) ?_ (n := w) (⟨0, 0, Nat.zero_le _, rfl, rfl, by decide, by rw [List.range_zero, List.map_nil, List.append_nil]; first | exact h_ad2 hav ha01 d1 (h_yes hy66 d2) | exact h_ad0 hav (by omega) | exact h_ad1 (fun h9 => by rw [hy66, if_pos h9] at d2; exact absurd d2 (by decide))⟩)
          intro n6 ls6 hP6 ih6
          obtain ⟨k, a2, hk, hn6, rfl, ha2, hav2⟩ := hP6
          refine ev_iload_n (i := 3) d_Mo_allInhabited_172 rfl rfl rfl ?_
          refine ev_aload_n (i := 0) d_Mo_allInhabited_173 rfl rfl rfl ?_
          refine ev_getR d_Mo_allInhabited_174 rfl lk_Mo_13 lx_45 rfl ?_
          refine ev_iload_n (i := 2) d_Mo_allInhabited_177 rfl rfl rfl ?_
          refine ev_iaload (z := (w : Int)) d_Mo_allInhabited_178 rfl lx_47 (by omega) (by omega) ((he2 47 _ (by decide)).trans hw) ?_
          refine ev_icmp_ge (tgt := 216) d_Mo_allInhabited_179 (by decide) rfl (fun hz6 => ?_) (fun hz6 => ?_)
          · refine ev_iinc (z := (c : Int) + 1) d_Mo_allInhabited_216 rfl rfl (by decide) (g_w_id (by unfold g_rg; omega)) rfl ?_
            refine ev_goto (tgt := 138) d_Mo_allInhabited_219 (by decide) ?_
            exact ev_le (ih5 (m - (c + 1)) [some (g_r 45), some (g_i a2), some (g_i ((c + 1 : Nat) : Int)), none, none] (by omega) ⟨c + 1, a2, by omega, rfl, rfl, ha2, by rw [hav2]; rw [h_u, h_k_at hw, show k = w by omega, List.append_assoc]; rfl⟩) rfl ⟨rfl, rfl, rfl, trivial⟩
          · refine ev_iload_n (i := 1) d_Mo_allInhabited_182 rfl rfl rfl ?_
            refine ev_if_eq (tgt := 208) d_Mo_allInhabited_183 (by decide) rfl (fun d3 => ?_) (fun d3 => ?_)
            · refine ev_iconst d_Mo_allInhabited_208 rfl ⟨by decide, by decide⟩ ?_
              refine ev_istore_n (i := 1) d_Mo_allInhabited_209 rfl rfl (by decide) rfl ?_
              refine ev_iinc (z := (k : Int) + 1) d_Mo_allInhabited_210 rfl rfl (by decide) (g_w_id (by unfold g_rg; omega)) rfl ?_
              refine ev_goto (tgt := 172) d_Mo_allInhabited_213 (by decide) ?_
              exact ev_le (ih6 (w - (k + 1)) [some (g_r 45), some (g_i 0), some (g_i (c : Int)), some (g_i ((k + 1 : Nat) : Int)), none] (by omega) ⟨k + 1, 0, by omega, rfl, rfl, by decide, by rw [z_map_s, ← List.append_assoc]; first | exact h_ad2 hav2 ha2 d3 (h_yes hz66 d4) | exact h_ad0 hav2 (by omega) | exact h_ad1 (fun h9 => by rw [hz66, if_pos h9] at d4; exact absurd d4 (by decide))⟩) rfl ⟨rfl, rfl, rfl, rfl, trivial⟩
            · have hz66 := hs2 (M 48 (3 * c + k)).toNat (by have := s3 k (by omega); omega)
              refine ev_aload_n (i := 0) d_Mo_allInhabited_186 rfl rfl rfl ?_
              refine ev_getR d_Mo_allInhabited_187 rfl lk_Mo_71 lx_45 rfl ?_
              refine ev_aload_n (i := 0) d_Mo_allInhabited_190 rfl rfl rfl ?_
              refine ev_getR d_Mo_allInhabited_191 rfl lk_Mo_16 lx_45 rfl ?_
              refine ev_iconst d_Mo_allInhabited_194 rfl ⟨by decide, by decide⟩ ?_
              refine ev_iload_n (i := 2) d_Mo_allInhabited_195 rfl rfl rfl ?_
              refine ev_imul (z := 3 * (c : Int)) d_Mo_allInhabited_196 rfl (g_w_id (by unfold g_rg; omega)) ?_
              refine ev_iload_n (i := 3) d_Mo_allInhabited_197 rfl rfl rfl ?_
              refine ev_iadd (z := 3 * (c : Int) + (k : Int)) d_Mo_allInhabited_198 rfl (g_w_id (by unfold g_rg; omega)) ?_
              refine ev_iaload (z := M 48 (3 * c + k)) d_Mo_allInhabited_199 rfl lx_48 (by omega) (by omega) (by rw [show (3 * (c : Int) + (k : Int)).toNat = 3 * c + k by omega]; exact he2 48 _ (by decide)) ?_
              refine ev_baload (z := M2 66 (M 48 (3 * c + k)).toNat) d_Mo_allInhabited_200 rfl lx_66 ((s3 k (by omega)).1) (by have := (s3 k (by omega)).2; omega) (rfl) ?_
              refine ev_if_eq (tgt := 208) d_Mo_allInhabited_201 (by decide) rfl (fun d4 => ?_) (fun d4 => ?_)
              · refine ev_iconst d_Mo_allInhabited_208 rfl ⟨by decide, by decide⟩ ?_
                refine ev_istore_n (i := 1) d_Mo_allInhabited_209 rfl rfl (by decide) rfl ?_
                refine ev_iinc (z := (k : Int) + 1) d_Mo_allInhabited_210 rfl rfl (by decide) (g_w_id (by unfold g_rg; omega)) rfl ?_
                refine ev_goto (tgt := 172) d_Mo_allInhabited_213 (by decide) ?_
                exact ev_le (ih6 (w - (k + 1)) [some (g_r 45), some (g_i 0), some (g_i (c : Int)), some (g_i ((k + 1 : Nat) : Int)), none] (by omega) ⟨k + 1, 0, by omega, rfl, rfl, by decide, by rw [z_map_s, ← List.append_assoc]; first | exact h_ad2 hav2 ha2 d3 (h_yes hz66 d4) | exact h_ad0 hav2 (by omega) | exact h_ad1 (fun h9 => by rw [hz66, if_pos h9] at d4; exact absurd d4 (by decide))⟩) rfl ⟨rfl, rfl, rfl, rfl, trivial⟩
              · refine ev_iconst d_Mo_allInhabited_204 rfl ⟨by decide, by decide⟩ ?_
                refine ev_goto (tgt := 209) d_Mo_allInhabited_205 (by decide) ?_
                refine ev_istore_n (i := 1) d_Mo_allInhabited_209 rfl rfl (by decide) rfl ?_
                refine ev_iinc (z := (k : Int) + 1) d_Mo_allInhabited_210 rfl rfl (by decide) (g_w_id (by unfold g_rg; omega)) rfl ?_
                refine ev_goto (tgt := 172) d_Mo_allInhabited_213 (by decide) ?_
                exact ev_le (ih6 (w - (k + 1)) [some (g_r 45), some (g_i 1), some (g_i (c : Int)), some (g_i ((k + 1 : Nat) : Int)), none] (by omega) ⟨k + 1, 1, by omega, rfl, rfl, by decide, by rw [z_map_s, ← List.append_assoc]; first | exact h_ad2 hav2 ha2 d3 (h_yes hz66 d4) | exact h_ad0 hav2 (by omega) | exact h_ad1 (fun h9 => by rw [hz66, if_pos h9] at d4; exact absurd d4 (by decide))⟩) rfl ⟨rfl, rfl, rfl, rfl, trivial⟩
        · refine ev_aload_n (i := 0) d_Mo_allInhabited_150 rfl rfl rfl ?_
          refine ev_getR d_Mo_allInhabited_151 rfl lk_Mo_71 lx_45 rfl ?_
          refine ev_aload_n (i := 0) d_Mo_allInhabited_154 rfl rfl rfl ?_
          refine ev_getR d_Mo_allInhabited_155 rfl lk_Mo_7 lx_45 rfl ?_
          refine ev_iload_n (i := 2) d_Mo_allInhabited_158 rfl rfl rfl ?_
          refine ev_iaload (z := M 46 c) d_Mo_allInhabited_159 rfl lx_46 (by omega) (by omega) (he2 46 _ (by decide)) ?_
          refine ev_baload (z := M2 66 (M 46 c).toNat) d_Mo_allInhabited_160 rfl lx_66 (by omega) (by omega) (rfl) ?_
          refine ev_if_eq (tgt := 168) d_Mo_allInhabited_161 (by decide) rfl (fun d2 => ?_) (fun d2 => ?_)
          · refine ev_iconst d_Mo_allInhabited_168 rfl ⟨by decide, by decide⟩ ?_
            refine ev_istore_n (i := 1) d_Mo_allInhabited_169 rfl rfl (by decide) rfl ?_
            refine ev_iconst d_Mo_allInhabited_170 rfl ⟨by decide, by decide⟩ ?_
            refine ev_istore_n (i := 3) d_Mo_allInhabited_171 rfl rfl (by decide) rfl ?_
            refine ev_wl (fun n ls1 => ∃ (k : Nat) (a2 : Int), k ≤ w ∧ n = w - k ∧ ls1 = [some (g_r 45), some (g_i a2), some (g_i (c : Int)), some (g_i (k : Int)), none] ∧ (a2 = 0 ∨ a2 = 1) ∧ (a2 = 1 ↔ ((h_u (M 46) (M 47) (M 48) c ++ [(M 46 c).toNat]) ++ (List.range k).map (fun i => (M 48 (3 * c + i)).toNat)).all (h_r (M 46) (M 47) (M 48) m 3) = true)) ?_ (n := w) (⟨0, 0, Nat.zero_le _, rfl, rfl, by decide, by rw [List.range_zero, List.map_nil, List.append_nil]; first | exact h_ad2 hav ha01 d1 (h_yes hy66 d2) | exact h_ad0 hav (by omega) | exact h_ad1 (fun h9 => by rw [hy66, if_pos h9] at d2; exact absurd d2 (by decide))⟩)
            intro n6 ls6 hP6 ih6
            obtain ⟨k, a2, hk, hn6, rfl, ha2, hav2⟩ := hP6
            refine ev_iload_n (i := 3) d_Mo_allInhabited_172 rfl rfl rfl ?_
            refine ev_aload_n (i := 0) d_Mo_allInhabited_173 rfl rfl rfl ?_
            refine ev_getR d_Mo_allInhabited_174 rfl lk_Mo_13 lx_45 rfl ?_
            refine ev_iload_n (i := 2) d_Mo_allInhabited_177 rfl rfl rfl ?_
            refine ev_iaload (z := (w : Int)) d_Mo_allInhabited_178 rfl lx_47 (by omega) (by omega) ((he2 47 _ (by decide)).trans hw) ?_
            refine ev_icmp_ge (tgt := 216) d_Mo_allInhabited_179 (by decide) rfl (fun hz6 => ?_) (fun hz6 => ?_)
            · refine ev_iinc (z := (c : Int) + 1) d_Mo_allInhabited_216 rfl rfl (by decide) (g_w_id (by unfold g_rg; omega)) rfl ?_
              refine ev_goto (tgt := 138) d_Mo_allInhabited_219 (by decide) ?_
              exact ev_le (ih5 (m - (c + 1)) [some (g_r 45), some (g_i a2), some (g_i ((c + 1 : Nat) : Int)), none, none] (by omega) ⟨c + 1, a2, by omega, rfl, rfl, ha2, by rw [hav2]; rw [h_u, h_k_at hw, show k = w by omega, List.append_assoc]; rfl⟩) rfl ⟨rfl, rfl, rfl, trivial⟩
            · refine ev_iload_n (i := 1) d_Mo_allInhabited_182 rfl rfl rfl ?_
              refine ev_if_eq (tgt := 208) d_Mo_allInhabited_183 (by decide) rfl (fun d3 => ?_) (fun d3 => ?_)
              · refine ev_iconst d_Mo_allInhabited_208 rfl ⟨by decide, by decide⟩ ?_
                refine ev_istore_n (i := 1) d_Mo_allInhabited_209 rfl rfl (by decide) rfl ?_
                refine ev_iinc (z := (k : Int) + 1) d_Mo_allInhabited_210 rfl rfl (by decide) (g_w_id (by unfold g_rg; omega)) rfl ?_
                refine ev_goto (tgt := 172) d_Mo_allInhabited_213 (by decide) ?_
                exact ev_le (ih6 (w - (k + 1)) [some (g_r 45), some (g_i 0), some (g_i (c : Int)), some (g_i ((k + 1 : Nat) : Int)), none] (by omega) ⟨k + 1, 0, by omega, rfl, rfl, by decide, by rw [z_map_s, ← List.append_assoc]; first | exact h_ad2 hav2 ha2 d3 (h_yes hz66 d4) | exact h_ad0 hav2 (by omega) | exact h_ad1 (fun h9 => by rw [hz66, if_pos h9] at d4; exact absurd d4 (by decide))⟩) rfl ⟨rfl, rfl, rfl, rfl, trivial⟩
              · have hz66 := hs2 (M 48 (3 * c + k)).toNat (by have := s3 k (by omega); omega)
                refine ev_aload_n (i := 0) d_Mo_allInhabited_186 rfl rfl rfl ?_
                refine ev_getR d_Mo_allInhabited_187 rfl lk_Mo_71 lx_45 rfl ?_
                refine ev_aload_n (i := 0) d_Mo_allInhabited_190 rfl rfl rfl ?_
                refine ev_getR d_Mo_allInhabited_191 rfl lk_Mo_16 lx_45 rfl ?_
                refine ev_iconst d_Mo_allInhabited_194 rfl ⟨by decide, by decide⟩ ?_
                refine ev_iload_n (i := 2) d_Mo_allInhabited_195 rfl rfl rfl ?_
                refine ev_imul (z := 3 * (c : Int)) d_Mo_allInhabited_196 rfl (g_w_id (by unfold g_rg; omega)) ?_
                refine ev_iload_n (i := 3) d_Mo_allInhabited_197 rfl rfl rfl ?_
                refine ev_iadd (z := 3 * (c : Int) + (k : Int)) d_Mo_allInhabited_198 rfl (g_w_id (by unfold g_rg; omega)) ?_
                refine ev_iaload (z := M 48 (3 * c + k)) d_Mo_allInhabited_199 rfl lx_48 (by omega) (by omega) (by rw [show (3 * (c : Int) + (k : Int)).toNat = 3 * c + k by omega]; exact he2 48 _ (by decide)) ?_
                refine ev_baload (z := M2 66 (M 48 (3 * c + k)).toNat) d_Mo_allInhabited_200 rfl lx_66 ((s3 k (by omega)).1) (by have := (s3 k (by omega)).2; omega) (rfl) ?_
                refine ev_if_eq (tgt := 208) d_Mo_allInhabited_201 (by decide) rfl (fun d4 => ?_) (fun d4 => ?_)
                · refine ev_iconst d_Mo_allInhabited_208 rfl ⟨by decide, by decide⟩ ?_
                  refine ev_istore_n (i := 1) d_Mo_allInhabited_209 rfl rfl (by decide) rfl ?_
                  refine ev_iinc (z := (k : Int) + 1) d_Mo_allInhabited_210 rfl rfl (by decide) (g_w_id (by unfold g_rg; omega)) rfl ?_
                  refine ev_goto (tgt := 172) d_Mo_allInhabited_213 (by decide) ?_
                  exact ev_le (ih6 (w - (k + 1)) [some (g_r 45), some (g_i 0), some (g_i (c : Int)), some (g_i ((k + 1 : Nat) : Int)), none] (by omega) ⟨k + 1, 0, by omega, rfl, rfl, by decide, by rw [z_map_s, ← List.append_assoc]; first | exact h_ad2 hav2 ha2 d3 (h_yes hz66 d4) | exact h_ad0 hav2 (by omega) | exact h_ad1 (fun h9 => by rw [hz66, if_pos h9] at d4; exact absurd d4 (by decide))⟩) rfl ⟨rfl, rfl, rfl, rfl, trivial⟩
                · refine ev_iconst d_Mo_allInhabited_204 rfl ⟨by decide, by decide⟩ ?_
                  refine ev_goto (tgt := 209) d_Mo_allInhabited_205 (by decide) ?_
                  refine ev_istore_n (i := 1) d_Mo_allInhabited_209 rfl rfl (by decide) rfl ?_
                  refine ev_iinc (z := (k : Int) + 1) d_Mo_allInhabited_210 rfl rfl (by decide) (g_w_id (by unfold g_rg; omega)) rfl ?_
                  refine ev_goto (tgt := 172) d_Mo_allInhabited_213 (by decide) ?_
                  exact ev_le (ih6 (w - (k + 1)) [some (g_r 45), some (g_i 1), some (g_i (c : Int)), some (g_i ((k + 1 : Nat) : Int)), none] (by omega) ⟨k + 1, 1, by omega, rfl, rfl, by decide, by rw [z_map_s, ← List.append_assoc]; first | exact h_ad2 hav2 ha2 d3 (h_yes hz66 d4) | exact h_ad0 hav2 (by omega) | exact h_ad1 (fun h9 => by rw [hz66, if_pos h9] at d4; exact absurd d4 (by decide))⟩) rfl ⟨rfl, rfl, rfl, rfl, trivial⟩
          · refine ev_iconst d_Mo_allInhabited_164 rfl ⟨by decide, by decide⟩ ?_
            refine ev_goto (tgt := 169) d_Mo_allInhabited_165 (by decide) ?_
            refine ev_istore_n (i := 1) d_Mo_allInhabited_169 rfl rfl (by decide) rfl ?_
            refine ev_iconst d_Mo_allInhabited_170 rfl ⟨by decide, by decide⟩ ?_
            refine ev_istore_n (i := 3) d_Mo_allInhabited_171 rfl rfl (by decide) rfl ?_
            refine ev_wl (fun n ls1 => ∃ (k : Nat) (a2 : Int), k ≤ w ∧ n = w - k ∧ ls1 = [some (g_r 45), some (g_i a2), some (g_i (c : Int)), some (g_i (k : Int)), none] ∧ (a2 = 0 ∨ a2 = 1) ∧ (a2 = 1 ↔ ((h_u (M 46) (M 47) (M 48) c ++ [(M 46 c).toNat]) ++ (List.range k).map (fun i => (M 48 (3 * c + i)).toNat)).all (h_r (M 46) (M 47) (M 48) m 3) = true)) ?_ (n := w) (⟨0, 1, Nat.zero_le _, rfl, rfl, by decide, by rw [List.range_zero, List.map_nil, List.append_nil]; first | exact h_ad2 hav ha01 d1 (h_yes hy66 d2) | exact h_ad0 hav (by omega) | exact h_ad1 (fun h9 => by rw [hy66, if_pos h9] at d2; exact absurd d2 (by decide))⟩)
            intro n6 ls6 hP6 ih6
            obtain ⟨k, a2, hk, hn6, rfl, ha2, hav2⟩ := hP6
            refine ev_iload_n (i := 3) d_Mo_allInhabited_172 rfl rfl rfl ?_
            refine ev_aload_n (i := 0) d_Mo_allInhabited_173 rfl rfl rfl ?_
            refine ev_getR d_Mo_allInhabited_174 rfl lk_Mo_13 lx_45 rfl ?_
            refine ev_iload_n (i := 2) d_Mo_allInhabited_177 rfl rfl rfl ?_
            refine ev_iaload (z := (w : Int)) d_Mo_allInhabited_178 rfl lx_47 (by omega) (by omega) ((he2 47 _ (by decide)).trans hw) ?_
            refine ev_icmp_ge (tgt := 216) d_Mo_allInhabited_179 (by decide) rfl (fun hz6 => ?_) (fun hz6 => ?_)
            · refine ev_iinc (z := (c : Int) + 1) d_Mo_allInhabited_216 rfl rfl (by decide) (g_w_id (by unfold g_rg; omega)) rfl ?_
              refine ev_goto (tgt := 138) d_Mo_allInhabited_219 (by decide) ?_
              exact ev_le (ih5 (m - (c + 1)) [some (g_r 45), some (g_i a2), some (g_i ((c + 1 : Nat) : Int)), none, none] (by omega) ⟨c + 1, a2, by omega, rfl, rfl, ha2, by rw [hav2]; rw [h_u, h_k_at hw, show k = w by omega, List.append_assoc]; rfl⟩) rfl ⟨rfl, rfl, rfl, trivial⟩
            · refine ev_iload_n (i := 1) d_Mo_allInhabited_182 rfl rfl rfl ?_
              refine ev_if_eq (tgt := 208) d_Mo_allInhabited_183 (by decide) rfl (fun d3 => ?_) (fun d3 => ?_)
              · refine ev_iconst d_Mo_allInhabited_208 rfl ⟨by decide, by decide⟩ ?_
                refine ev_istore_n (i := 1) d_Mo_allInhabited_209 rfl rfl (by decide) rfl ?_
                refine ev_iinc (z := (k : Int) + 1) d_Mo_allInhabited_210 rfl rfl (by decide) (g_w_id (by unfold g_rg; omega)) rfl ?_
                refine ev_goto (tgt := 172) d_Mo_allInhabited_213 (by decide) ?_
                exact ev_le (ih6 (w - (k + 1)) [some (g_r 45), some (g_i 0), some (g_i (c : Int)), some (g_i ((k + 1 : Nat) : Int)), none] (by omega) ⟨k + 1, 0, by omega, rfl, rfl, by decide, by rw [z_map_s, ← List.append_assoc]; first | exact h_ad2 hav2 ha2 d3 (h_yes hz66 d4) | exact h_ad0 hav2 (by omega) | exact h_ad1 (fun h9 => by rw [hz66, if_pos h9] at d4; exact absurd d4 (by decide))⟩) rfl ⟨rfl, rfl, rfl, rfl, trivial⟩
              · have hz66 := hs2 (M 48 (3 * c + k)).toNat (by have := s3 k (by omega); omega)
                refine ev_aload_n (i := 0) d_Mo_allInhabited_186 rfl rfl rfl ?_
                refine ev_getR d_Mo_allInhabited_187 rfl lk_Mo_71 lx_45 rfl ?_
                refine ev_aload_n (i := 0) d_Mo_allInhabited_190 rfl rfl rfl ?_
                refine ev_getR d_Mo_allInhabited_191 rfl lk_Mo_16 lx_45 rfl ?_
                refine ev_iconst d_Mo_allInhabited_194 rfl ⟨by decide, by decide⟩ ?_
                refine ev_iload_n (i := 2) d_Mo_allInhabited_195 rfl rfl rfl ?_
                refine ev_imul (z := 3 * (c : Int)) d_Mo_allInhabited_196 rfl (g_w_id (by unfold g_rg; omega)) ?_
                refine ev_iload_n (i := 3) d_Mo_allInhabited_197 rfl rfl rfl ?_
                refine ev_iadd (z := 3 * (c : Int) + (k : Int)) d_Mo_allInhabited_198 rfl (g_w_id (by unfold g_rg; omega)) ?_
                refine ev_iaload (z := M 48 (3 * c + k)) d_Mo_allInhabited_199 rfl lx_48 (by omega) (by omega) (by rw [show (3 * (c : Int) + (k : Int)).toNat = 3 * c + k by omega]; exact he2 48 _ (by decide)) ?_
                refine ev_baload (z := M2 66 (M 48 (3 * c + k)).toNat) d_Mo_allInhabited_200 rfl lx_66 ((s3 k (by omega)).1) (by have := (s3 k (by omega)).2; omega) (rfl) ?_
                refine ev_if_eq (tgt := 208) d_Mo_allInhabited_201 (by decide) rfl (fun d4 => ?_) (fun d4 => ?_)
                · refine ev_iconst d_Mo_allInhabited_208 rfl ⟨by decide, by decide⟩ ?_
                  refine ev_istore_n (i := 1) d_Mo_allInhabited_209 rfl rfl (by decide) rfl ?_
                  refine ev_iinc (z := (k : Int) + 1) d_Mo_allInhabited_210 rfl rfl (by decide) (g_w_id (by unfold g_rg; omega)) rfl ?_
                  refine ev_goto (tgt := 172) d_Mo_allInhabited_213 (by decide) ?_
                  exact ev_le (ih6 (w - (k + 1)) [some (g_r 45), some (g_i 0), some (g_i (c : Int)), some (g_i ((k + 1 : Nat) : Int)), none] (by omega) ⟨k + 1, 0, by omega, rfl, rfl, by decide, by rw [z_map_s, ← List.append_assoc]; first | exact h_ad2 hav2 ha2 d3 (h_yes hz66 d4) | exact h_ad0 hav2 (by omega) | exact h_ad1 (fun h9 => by rw [hz66, if_pos h9] at d4; exact absurd d4 (by decide))⟩) rfl ⟨rfl, rfl, rfl, rfl, trivial⟩
                · refine ev_iconst d_Mo_allInhabited_204 rfl ⟨by decide, by decide⟩ ?_
                  refine ev_goto (tgt := 209) d_Mo_allInhabited_205 (by decide) ?_
                  refine ev_istore_n (i := 1) d_Mo_allInhabited_209 rfl rfl (by decide) rfl ?_
                  refine ev_iinc (z := (k : Int) + 1) d_Mo_allInhabited_210 rfl rfl (by decide) (g_w_id (by unfold g_rg; omega)) rfl ?_
                  refine ev_goto (tgt := 172) d_Mo_allInhabited_213 (by decide) ?_
                  exact ev_le (ih6 (w - (k + 1)) [some (g_r 45), some (g_i 1), some (g_i (c : Int)), some (g_i ((k + 1 : Nat) : Int)), none] (by omega) ⟨k + 1, 1, by omega, rfl, rfl, by decide, by rw [z_map_s, ← List.append_assoc]; first | exact h_ad2 hav2 ha2 d3 (h_yes hz66 d4) | exact h_ad0 hav2 (by omega) | exact h_ad1 (fun h9 => by rw [hz66, if_pos h9] at d4; exact absurd d4 (by decide))⟩) rfl ⟨rfl, rfl, rfl, rfl, trivial⟩
    · refine ev_iconst d_Mo_allInhabited_27 rfl ⟨by decide, by decide⟩ ?_
      refine ev_istore_n (i := 2) d_Mo_allInhabited_28 rfl rfl (by decide) rfl ?_
      refine ev_wh (fun n ls1 M1 => ∃ c : Nat, c ≤ m ∧ n = m - c ∧ ls1 = [some (g_r 45), some (g_i (r : Int)), some (g_i (c : Int)), none, none] ∧ e66 M M1 ∧ (∀ b : Nat, b < 3 → M1 66 b = if (h_c (M 46) (M 47) (M 48) (h_r (M 46) (M 47) (M 48) m r) c) b = true then 1 else 0)) ?_ (n := m) (⟨0, Nat.zero_le _, rfl, rfl, he2, hs2⟩)
      intro n3 ls3 M3 hP3 ih3
      obtain ⟨c, hc, hn3, rfl, he3, hs3⟩ := hP3
      refine ev_iload_n (i := 2) d_Mo_allInhabited_29 rfl rfl rfl ?_
      refine ev_aload_n (i := 0) d_Mo_allInhabited_30 rfl rfl rfl ?_
      refine ev_getI (z := (m : Int)) d_Mo_allInhabited_31 rfl lk_Mo_116 lx_45 rfl ((he3 45 0 (by decide)).trans hm) ?_
      refine ev_icmp_ge (tgt := 128) d_Mo_allInhabited_34 (by decide) rfl (fun hz3 => ?_) (fun hz3 => ?_)
      · refine ev_iinc (z := (r : Int) + 1) d_Mo_allInhabited_128 rfl rfl (by decide) (g_w_id (by unfold g_rg; omega)) rfl ?_
        refine ev_goto (tgt := 22) d_Mo_allInhabited_131 (by decide) ?_
        have e : c = m := by omega
        subst e
        exact ev_le (ih2 (3 - (r + 1)) [some (g_r 45), some (g_i ((r + 1 : Nat) : Int)), none, none, none] M3 (by omega) ⟨r + 1, by omega, rfl, rfl, he3, hs3⟩) rfl ⟨rfl, rfl, trivial⟩
      · obtain ⟨s1, s2, s3, s4⟩ := hs46 c (by omega)
        obtain ⟨w, hw⟩ : ∃ w : Nat, M 47 c = w := ⟨(M 47 c).toNat, by omega⟩
        have ht : (M 46 c).toNat < 3 := by omega
        refine ev_iconst d_Mo_allInhabited_37 rfl ⟨by decide, by decide⟩ ?_
        refine ev_istore_n (i := 3) d_Mo_allInhabited_38 rfl rfl (by decide) rfl ?_
        refine ev_iconst d_Mo_allInhabited_39 rfl ⟨by decide, by decide⟩ ?_
        refine ev_istore (i := 4) d_Mo_allInhabited_40 rfl (by decide) rfl ?_
        refine ev_wl (fun n ls1 => ∃ (k : Nat) (s : Int), k ≤ w ∧ n = w - k ∧ ls1 = [some (g_r 45), some (g_i (r : Int)), some (g_i (c : Int)), some (g_i s), some (g_i (k : Int))] ∧ (s = 0 ∨ s = 1) ∧ (s = 1 ↔ ((List.range k).map (fun i => (M 48 (3 * c + i)).toNat)).all (h_c (M 46) (M 47) (M 48) (h_r (M 46) (M 47) (M 48) m r) c) = true)) ?_ (n := w) (⟨0, 1, Nat.zero_le _, rfl, rfl, Or.inr rfl, by simp⟩)
        intro n4 ls4 hP4 ih4
        obtain ⟨k, s, hk, hn4, rfl, hs01, hsv⟩ := hP4
        refine ev_iload (i := 4) d_Mo_allInhabited_42 rfl rfl ?_
        refine ev_aload_n (i := 0) d_Mo_allInhabited_44 rfl rfl rfl ?_
        refine ev_getR d_Mo_allInhabited_45 rfl lk_Mo_13 lx_45 rfl ?_
        refine ev_iload_n (i := 2) d_Mo_allInhabited_48 rfl rfl rfl ?_
        refine ev_iaload (z := (w : Int)) d_Mo_allInhabited_49 rfl lx_47 (by omega) (by omega) ((he3 47 _ (by decide)).trans hw) ?_
        refine ev_icmp_ge (tgt := 88) d_Mo_allInhabited_50 (by decide) rfl (fun hz4 => ?_) (fun hz4 => ?_)
        · have ekw : k = w := by omega
          subst ekw
          have hka := h_k_at (pl := M 48) hw
          have hsk := hsv
          have hsk01 := hs01
          refine ev_aload_n (i := 0) d_Mo_allInhabited_88 rfl rfl rfl ?_
          refine ev_getR d_Mo_allInhabited_89 rfl lk_Mo_71 lx_45 rfl ?_
          refine ev_aload_n (i := 0) d_Mo_allInhabited_92 rfl rfl rfl ?_
          refine ev_getR d_Mo_allInhabited_93 rfl lk_Mo_7 lx_45 rfl ?_
          refine ev_iload_n (i := 2) d_Mo_allInhabited_96 rfl rfl rfl ?_
          refine ev_iaload (z := M 46 c) d_Mo_allInhabited_97 rfl lx_46 (by omega) (by omega) (he3 46 _ (by decide)) ?_
          refine ev_aload_n (i := 0) d_Mo_allInhabited_98 rfl rfl rfl ?_
          refine ev_getR d_Mo_allInhabited_99 rfl lk_Mo_71 lx_45 rfl ?_
          refine ev_aload_n (i := 0) d_Mo_allInhabited_102 rfl rfl rfl ?_
          refine ev_getR d_Mo_allInhabited_103 rfl lk_Mo_7 lx_45 rfl ?_
          refine ev_iload_n (i := 2) d_Mo_allInhabited_106 rfl rfl rfl ?_
          refine ev_iaload (z := M 46 c) d_Mo_allInhabited_107 rfl lx_46 (by omega) (by omega) (he3 46 _ (by decide)) ?_
          refine ev_baload (z := M3 66 (M 46 c).toNat) d_Mo_allInhabited_108 rfl lx_66 (by omega) (by omega) (rfl) ?_
          refine ev_if_ne (tgt := 116) d_Mo_allInhabited_109 (by decide) rfl (fun c4 => ?_) (fun c4 => ?_)
          · refine ev_iconst d_Mo_allInhabited_116 rfl ⟨by decide, by decide⟩ ?_
            refine ev_goto (tgt := 121) d_Mo_allInhabited_117 (by decide) ?_
            refine ev_bastore d_Mo_allInhabited_121 rfl lx_66 (by omega) (by omega) (by decide) ?_
            rw [show Int.toNat ((M 46 c)) = (M 46 c).toNat by rfl]
            refine ev_iinc (z := (c : Int) + 1) d_Mo_allInhabited_122 rfl rfl (by decide) (g_w_id (by unfold g_rg; omega)) rfl ?_
            refine ev_goto (tgt := 29) d_Mo_allInhabited_125 (by decide) ?_
            refine ev_le (ih3 (m - (c + 1)) [some (g_r 45), some (g_i (r : Int)), some (g_i ((c + 1 : Nat) : Int)), none, none] _ (by omega) ⟨c + 1, by omega, rfl, rfl, he3.up _ _, fun b hb => ?_⟩) rfl ⟨rfl, rfl, rfl, trivial⟩
            rw [h_c_s, hka]
            simp only [g_up, true_and]
            exact h_fin hs3 hb ht (by first | exact Or.inl ⟨c4, rfl⟩ | exact Or.inr (Or.inl ⟨c5, rfl⟩) | exact Or.inr (Or.inr ⟨c4, c5, rfl⟩)) hsk01 hsk
          · refine ev_iload_n (i := 3) d_Mo_allInhabited_112 rfl rfl rfl ?_
            refine ev_if_eq (tgt := 120) d_Mo_allInhabited_113 (by decide) rfl (fun c5 => ?_) (fun c5 => ?_)
            · refine ev_iconst d_Mo_allInhabited_120 rfl ⟨by decide, by decide⟩ ?_
              refine ev_bastore d_Mo_allInhabited_121 rfl lx_66 (by omega) (by omega) (by decide) ?_
              rw [show Int.toNat ((M 46 c)) = (M 46 c).toNat by rfl]
              refine ev_iinc (z := (c : Int) + 1) d_Mo_allInhabited_122 rfl rfl (by decide) (g_w_id (by unfold g_rg; omega)) rfl ?_
              refine ev_goto (tgt := 29) d_Mo_allInhabited_125 (by decide) ?_
              refine ev_le (ih3 (m - (c + 1)) [some (g_r 45), some (g_i (r : Int)), some (g_i ((c + 1 : Nat) : Int)), none, none] _ (by omega) ⟨c + 1, by omega, rfl, rfl, he3.up _ _, fun b hb => ?_⟩) rfl ⟨rfl, rfl, rfl, trivial⟩
              rw [h_c_s, hka]
              simp only [g_up, true_and]
              exact h_fin hs3 hb ht (by first | exact Or.inl ⟨c4, rfl⟩ | exact Or.inr (Or.inl ⟨c5, rfl⟩) | exact Or.inr (Or.inr ⟨c4, c5, rfl⟩)) hsk01 hsk
            · refine ev_iconst d_Mo_allInhabited_116 rfl ⟨by decide, by decide⟩ ?_
              refine ev_goto (tgt := 121) d_Mo_allInhabited_117 (by decide) ?_
              refine ev_bastore d_Mo_allInhabited_121 rfl lx_66 (by omega) (by omega) (by decide) ?_
              rw [show Int.toNat ((M 46 c)) = (M 46 c).toNat by rfl]
              refine ev_iinc (z := (c : Int) + 1) d_Mo_allInhabited_122 rfl rfl (by decide) (g_w_id (by unfold g_rg; omega)) rfl ?_
              refine ev_goto (tgt := 29) d_Mo_allInhabited_125 (by decide) ?_
              refine ev_le (ih3 (m - (c + 1)) [some (g_r 45), some (g_i (r : Int)), some (g_i ((c + 1 : Nat) : Int)), none, none] _ (by omega) ⟨c + 1, by omega, rfl, rfl, he3.up _ _, fun b hb => ?_⟩) rfl ⟨rfl, rfl, rfl, trivial⟩
              rw [h_c_s, hka]
              simp only [g_up, true_and]
              exact h_fin hs3 hb ht (by first | exact Or.inl ⟨c4, rfl⟩ | exact Or.inr (Or.inl ⟨c5, rfl⟩) | exact Or.inr (Or.inr ⟨c4, c5, rfl⟩)) hsk01 hsk
        · refine ev_iload_n (i := 3) d_Mo_allInhabited_53 rfl rfl rfl ?_
          refine ev_if_eq (tgt := 80) d_Mo_allInhabited_54 (by decide) rfl (fun c2 => ?_) (fun c2 => ?_)
          · refine ev_iconst d_Mo_allInhabited_80 rfl ⟨by decide, by decide⟩ ?_
            refine ev_istore_n (i := 3) d_Mo_allInhabited_81 rfl rfl (by decide) rfl ?_
            refine ev_iinc (z := (k : Int) + 1) d_Mo_allInhabited_82 rfl rfl (by decide) (g_w_id (by unfold g_rg; omega)) rfl ?_
            refine ev_goto (tgt := 42) d_Mo_allInhabited_85 (by decide) ?_
            exact ev_le (ih4 (w - (k + 1)) [some (g_r 45), some (g_i (r : Int)), some (g_i (c : Int)), some (g_i 0), some (g_i ((k + 1 : Nat) : Int))] (by omega) ⟨k + 1, 0, by omega, rfl, rfl, by decide, by rw [z_map_s]; first | exact h_ad2 hsv hs01 c2 (h_yes hx66 c3) | exact h_ad0 hsv (by omega) | exact h_ad1 (fun h9 => by rw [hx66, if_pos h9] at c3; exact absurd c3 (by decide))⟩) rfl ⟨rfl, rfl, rfl, rfl, rfl, trivial⟩
          · refine ev_aload_n (i := 0) d_Mo_allInhabited_57 rfl rfl rfl ?_
            refine ev_getR d_Mo_allInhabited_58 rfl lk_Mo_71 lx_45 rfl ?_
            refine ev_aload_n (i := 0) d_Mo_allInhabited_61 rfl rfl rfl ?_
            refine ev_getR d_Mo_allInhabited_62 rfl lk_Mo_16 lx_45 rfl ?_
            refine ev_iconst d_Mo_allInhabited_65 rfl ⟨by decide, by decide⟩ ?_
            refine ev_iload_n (i := 2) d_Mo_allInhabited_66 rfl rfl rfl ?_
            refine ev_imul (z := 3 * (c : Int)) d_Mo_allInhabited_67 rfl (g_w_id (by unfold g_rg; omega)) ?_
            refine ev_iload (i := 4) d_Mo_allInhabited_68 rfl rfl ?_
            refine ev_iadd (z := 3 * (c : Int) + (k : Int)) d_Mo_allInhabited_70 rfl (g_w_id (by unfold g_rg; omega)) ?_
            refine ev_iaload (z := M 48 (3 * c + k)) d_Mo_allInhabited_71 rfl lx_48 (by omega) (by omega) (by rw [show (3 * (c : Int) + (k : Int)).toNat = 3 * c + k by omega]; exact he3 48 _ (by decide)) ?_
            refine ev_baload (z := M3 66 (M 48 (3 * c + k)).toNat) d_Mo_allInhabited_72 rfl lx_66 ((s3 k (by omega)).1) (by have := (s3 k (by omega)).2; omega) (rfl) ?_
            have hx66 := hs3 (M 48 (3 * c + k)).toNat (by have := s3 k (by omega); omega)
            refine ev_if_eq (tgt := 80) d_Mo_allInhabited_73 (by decide) rfl (fun c3 => ?_) (fun c3 => ?_)
            · refine ev_iconst d_Mo_allInhabited_80 rfl ⟨by decide, by decide⟩ ?_
              refine ev_istore_n (i := 3) d_Mo_allInhabited_81 rfl rfl (by decide) rfl ?_
              refine ev_iinc (z := (k : Int) + 1) d_Mo_allInhabited_82 rfl rfl (by decide) (g_w_id (by unfold g_rg; omega)) rfl ?_
              refine ev_goto (tgt := 42) d_Mo_allInhabited_85 (by decide) ?_
              exact ev_le (ih4 (w - (k + 1)) [some (g_r 45), some (g_i (r : Int)), some (g_i (c : Int)), some (g_i 0), some (g_i ((k + 1 : Nat) : Int))] (by omega) ⟨k + 1, 0, by omega, rfl, rfl, by decide, by rw [z_map_s]; first | exact h_ad2 hsv hs01 c2 (h_yes hx66 c3) | exact h_ad0 hsv (by omega) | exact h_ad1 (fun h9 => by rw [hx66, if_pos h9] at c3; exact absurd c3 (by decide))⟩) rfl ⟨rfl, rfl, rfl, rfl, rfl, trivial⟩
            · refine ev_iconst d_Mo_allInhabited_76 rfl ⟨by decide, by decide⟩ ?_
              refine ev_goto (tgt := 81) d_Mo_allInhabited_77 (by decide) ?_
              refine ev_istore_n (i := 3) d_Mo_allInhabited_81 rfl rfl (by decide) rfl ?_
              refine ev_iinc (z := (k : Int) + 1) d_Mo_allInhabited_82 rfl rfl (by decide) (g_w_id (by unfold g_rg; omega)) rfl ?_
              refine ev_goto (tgt := 42) d_Mo_allInhabited_85 (by decide) ?_
              exact ev_le (ih4 (w - (k + 1)) [some (g_r 45), some (g_i (r : Int)), some (g_i (c : Int)), some (g_i 1), some (g_i ((k + 1 : Nat) : Int))] (by omega) ⟨k + 1, 1, by omega, rfl, rfl, by decide, by rw [z_map_s]; first | exact h_ad2 hsv hs01 c2 (h_yes hx66 c3) | exact h_ad0 hsv (by omega) | exact h_ad1 (fun h9 => by rw [hx66, if_pos h9] at c3; exact absurd c3 (by decide))⟩) rfl ⟨rfl, rfl, rfl, rfl, rfl, trivial⟩
  · refine ev_aload_n (i := 0) d_Mo_allInhabited_7 rfl rfl rfl ?_
    refine ev_getR d_Mo_allInhabited_8 rfl lk_Mo_71 lx_45 rfl ?_
    refine ev_iload_n (i := 1) d_Mo_allInhabited_11 rfl rfl rfl ?_
    refine ev_iconst d_Mo_allInhabited_12 rfl ⟨by decide, by decide⟩ ?_
    refine ev_bastore d_Mo_allInhabited_13 rfl lx_66 (by omega) (by omega) (Or.inl rfl) ?_
    rw [show Int.toNat ((i : Int)) = i by rfl]
    refine ev_iinc (z := (i : Int) + 1) d_Mo_allInhabited_14 rfl rfl (by decide) (g_w_id (by unfold g_rg; omega)) rfl ?_
    refine ev_goto (tgt := 2) d_Mo_allInhabited_17 (by decide) ?_
    refine ev_le (ih (3 - (i + 1)) [some (g_r 45), some (g_i ((i + 1 : Nat) : Int)), none, none, none] _ (by omega) ⟨i + 1, by omega, rfl, rfl, he.up i 0, fun b hb => ?_⟩) rfl ⟨rfl, rfl, trivial⟩
    simp only [g_up, true_and]
    split
    · rfl
    · exact hz66 b (by omega)
