theorem z_app_get {L e : List Nat} {q x : Nat} (h : L[q]? = some x) : (L ++ e)[q]? = some x := by
  rw [List.getElem?_append_left (List.getElem?_eq_some_iff.mp h).1]
  exact h
theorem o_M_at {M M1 : g_M} {l : List Nat} (h : o_M M M1 l) {i x : Nat} (hx : l[i]? = some x) : M1 59 i = o_f x ∧ M1 60 i = o_t x ∧ M1 61 i = o_v x := h.2.2.2.2 i x hx
theorem o_all_s {L : List Nat} {k xk : Nat} (hxk : L[k]? = some xk) : (L.length < 201 ∧ ∀ q x : Nat, q < k + 1 → L[q]? = some x → o_ee x) ↔ (L.length < 201 ∧ ∀ q x : Nat, q < k → L[q]? = some x → o_ee x) ∧ o_ee xk := by
  constructor
  · intro h
    exact ⟨⟨h.1, fun q x hq hqx => h.2 q x (by omega) hqx⟩, h.2 k xk (by omega) hxk⟩
  · intro h
    refine ⟨h.1.1, fun q x hq hqx => ?_⟩
    by_cases hqk : q = k
    · subst hqk
      have ex : x = xk := by rw [hxk] at hqx; simpa using hqx.symm
      rw [ex]
      exact h.2
    · exact h.1.2 q x (by omega) hqx
theorem o_cxx {x : Nat} (hx : o_ok x) : o_v (o_c x x) = o_v x ↔ o_c x x = x := ⟨fun h => o_v_inj (o_c_ok hx hx) hx (o_c_f x x) (o_c_t x x) h, fun h => by rw [h]⟩
theorem c_Mo_isEnding (d : Nat) (M : g_M) (M0 : g_M) (m : Nat) (hP : r_P M) (hf0 : f61 M M0) (hm : M 45 13 = m) : ConR y_Mo_isEnding w_Mo_isEnding (g_rm (d + 7)) LX M0 [g_r 45] LX (fun M2 v2 => ∃ r : Int, v2 = some (g_i r) ∧ (r = 0 ∨ r = 1) ∧ f61 M M2 ∧ ∃ L : List Nat, o_M M M2 L ∧ (L.length < 201 → ∀ x, o_R M x → x ∈ L) ∧ (r = 1 ↔ L.length < 201 ∧ ∀ x ∈ L, o_ee x)) := by
  refine con_ofR (av := [g_r 45]) (ls0 := [some (g_r 45), none, none, none]) (by decide) rfl (Nat.le_of_ble_eq_true rfl) (g_hls (av := [g_r 45]) (k := 3)) (fun _ h9 => List.mem_cons_of_mem _ h9) ?_
  refine ev_aload_n (i := 0) d_Mo_isEnding_0 rfl rfl rfl ?_
  refine ev_callVR (As := []) d_Mo_isEnding_1 rfl cl_Mo_209 (c_Mo_callGraphs (d + 0) M M0 m hP hf0 hm) (g_hR (by decide)) g_h0 lx_45 rfl rfl (Nat.le_of_ble_eq_true rfl) rfl rfl (fun M1 v9 g9 => ?_)
  obtain ⟨rfl, l0, hf1, hM1, hG1, hv1⟩ := g9
  refine ev_iconst d_Mo_isEnding_4 rfl ⟨by decide, by decide⟩ ?_
  refine ev_istore_n (i := 1) d_Mo_isEnding_5 rfl rfl (by decide) rfl ?_
  refine ev_wh (fun n ls1 M2 => ∃ (a : Nat) (L : List Nat), a ≤ 201 ∧ n = 201 - a ∧ ls1 = [some (g_r 45), some (g_i (a : Int)), none, none] ∧ f61 M M2 ∧ o_M M M2 L ∧ (∀ y ∈ l0, y ∈ L) ∧ (L.length < 201 → ∀ p q x y : Nat, p < a → q < a → L[p]? = some x → L[q]? = some y → o_t x = o_f y → o_c x y ∈ L)) ?_ (n := 201) (⟨0, l0, Nat.zero_le _, rfl, rfl, hf1, hM1, fun _ h => h, fun _ p q x y hp => by omega⟩)
  intro n ls1 M2 hP0 ih
  obtain ⟨a, L, ha, hn, rfl, hf2, hM2, hs2, hc2⟩ := hP0
  have hL201 := hM2.1
  refine ev_iload_n (i := 1) d_Mo_isEnding_6 rfl rfl rfl ?_
  refine ev_aload_n (i := 0) d_Mo_isEnding_7 rfl rfl rfl ?_
  refine ev_getI (z := (L.length : Int)) d_Mo_isEnding_8 rfl lk_Mo_192 lx_45 rfl (hM2.2.2.2.1) ?_
  refine ev_icmp_ge (tgt := 145) d_Mo_isEnding_11 (by decide) rfl (fun c0 => ?_) (fun c0 => ?_)
  · refine ev_aload_n (i := 0) d_Mo_isEnding_145 rfl rfl rfl ?_
    refine ev_getI (z := (L.length : Int)) d_Mo_isEnding_146 rfl lk_Mo_192 lx_45 rfl (hM2.2.2.2.1) ?_
    refine ev_sipush d_Mo_isEnding_149 rfl (by decide +kernel) ⟨by decide, by decide⟩ ?_
    refine ev_icmp_ge (tgt := 159) d_Mo_isEnding_152 (by decide) rfl (fun c9 => ?_) (fun c9 => ?_)
    · refine ev_iconst d_Mo_isEnding_159 rfl ⟨by decide, by decide⟩ ?_
      refine ev_istore_n (i := 1) d_Mo_isEnding_160 rfl rfl (by decide) rfl ?_
      refine ev_iconst d_Mo_isEnding_161 rfl ⟨by decide, by decide⟩ ?_
      refine ev_istore_n (i := 2) d_Mo_isEnding_162 rfl rfl (by decide) rfl ?_
      refine ev_wl (fun n5 ls5 => ∃ (k : Nat) (s : Int), k ≤ L.length ∧ n5 = L.length - k ∧ ls5 = [some (g_r 45), some (g_i s), some (g_i (k : Int)), none] ∧ (s = 0 ∨ s = 1) ∧ (s = 1 ↔ L.length < 201 ∧ ∀ q x : Nat, q < k → L[q]? = some x → o_ee x)) ?_ (n := L.length) (⟨0, 0, Nat.zero_le _, rfl, rfl, by decide, ⟨fun h9 => ⟨by first | omega | exact absurd h9 (by decide), fun q x hq => by omega⟩, fun h9 => by first | rfl | omega⟩⟩)
      intro n5 ls5 hP5 ih5
      obtain ⟨k, s, hk, hn5, rfl, hs01, hsv⟩ := hP5
      refine ev_iload_n (i := 2) d_Mo_isEnding_163 rfl rfl rfl ?_
      refine ev_aload_n (i := 0) d_Mo_isEnding_164 rfl rfl rfl ?_
      refine ev_getI (z := (L.length : Int)) d_Mo_isEnding_165 rfl lk_Mo_192 lx_45 rfl (hM2.2.2.2.1) ?_
      refine ev_icmp_ge (tgt := 248) d_Mo_isEnding_168 (by decide) rfl (fun hz5 => ?_) (fun hz5 => ?_)
      · refine ev_iload_n (i := 1) d_Mo_isEnding_248 rfl rfl rfl ?_
        exact ev_retIR d_Mo_isEnding_249 (⟨s, rfl, hs01, hf2, L, hM2, fun h9 => o_R_min (fun x hx => by obtain ⟨c9, u9, h1, h2, rfl⟩ := hx; exact hs2 _ (hv1 (Nat.lt_of_le_of_lt (z_nodup_le l0 L hM1.2.1 hs2) h9) c9 u9 (by omega) h2)) (fun x z hx hz ht => by obtain ⟨p9, hp9⟩ := List.getElem?_of_mem hx; obtain ⟨c9, u9, h1, h2, rfl⟩ := hz; have hz2 := hs2 _ (hv1 (Nat.lt_of_le_of_lt (z_nodup_le l0 L hM1.2.1 hs2) h9) c9 u9 (by omega) h2); obtain ⟨q9, hq9⟩ := List.getElem?_of_mem hz2; have g1 := (List.getElem?_eq_some_iff.mp hp9).1; have g2 := (List.getElem?_eq_some_iff.mp hq9).1; exact hc2 h9 p9 q9 x _ (by omega) (by omega) hp9 hq9 ht), by rw [hsv]; exact ⟨fun h => ⟨h.1, fun x hx => by obtain ⟨q9, hq9⟩ := List.getElem?_of_mem hx; exact h.2 q9 x (by have := (List.getElem?_eq_some_iff.mp hq9).1; omega) hq9⟩, fun h => ⟨h.1, fun q x _ hqx => h.2 x (List.mem_of_getElem? hqx)⟩⟩⟩) (Or.inr ⟨rfl, by omega⟩)
      · obtain ⟨xk, hxk⟩ : ∃ xk, L[k]? = some xk := ⟨_, List.getElem?_eq_getElem (by omega)⟩
        have hxkR := hM2.2.2.1 xk (List.mem_of_getElem? hxk)
        refine ev_aload_n (i := 0) d_Mo_isEnding_171 rfl rfl rfl ?_
        refine ev_getR d_Mo_isEnding_172 rfl lk_Mo_55 lx_45 rfl ?_
        refine ev_iload_n (i := 2) d_Mo_isEnding_175 rfl rfl rfl ?_
        refine ev_iaload (z := ((o_v xk : Nat) : Int)) d_Mo_isEnding_176 rfl lx_61 (by omega) (by omega) ((o_M_at hM2 hxk).2.2) ?_
        refine ev_istore_n (i := 3) d_Mo_isEnding_177 rfl rfl (by decide) rfl ?_
        refine ev_aload_n (i := 0) d_Mo_isEnding_178 rfl rfl rfl ?_
        refine ev_getR d_Mo_isEnding_179 rfl lk_Mo_49 lx_45 rfl ?_
        refine ev_iload_n (i := 2) d_Mo_isEnding_182 rfl rfl rfl ?_
        refine ev_iaload (z := ((o_f xk : Nat) : Int)) d_Mo_isEnding_183 rfl lx_59 (by omega) (by omega) ((o_M_at hM2 hxk).1) ?_
        refine ev_aload_n (i := 0) d_Mo_isEnding_184 rfl rfl rfl ?_
        refine ev_getR d_Mo_isEnding_185 rfl lk_Mo_52 lx_45 rfl ?_
        refine ev_iload_n (i := 2) d_Mo_isEnding_188 rfl rfl rfl ?_
        refine ev_iaload (z := ((o_t xk : Nat) : Int)) d_Mo_isEnding_189 rfl lx_60 (by omega) (by omega) ((o_M_at hM2 hxk).2.1) ?_
        refine ev_icmp_ne (tgt := 242) d_Mo_isEnding_190 (by decide) rfl (fun d1 => ?_) (fun d1 => ?_)
        · refine ev_iinc (z := (k : Int) + 1) d_Mo_isEnding_242 rfl rfl (by decide) (g_w_id (by unfold g_rg; omega)) rfl ?_
          refine ev_goto (tgt := 163) d_Mo_isEnding_245 (by decide) ?_
          exact ev_le (ih5 (L.length - (k + 1)) [some (g_r 45), some (g_i s), some (g_i ((k + 1 : Nat) : Int)), none] (by omega) ⟨k + 1, s, by omega, rfl, rfl, hs01, by rw [hsv, o_all_s hxk]; exact ⟨fun h => ⟨h, fun h9 _ => absurd (by rw [h9]) d1⟩, fun h => h.1⟩⟩) rfl ⟨rfl, rfl, rfl, trivial⟩
        · refine ev_iload_n (i := 3) d_Mo_isEnding_193 rfl rfl rfl ?_
          refine ev_iload_n (i := 3) d_Mo_isEnding_194 rfl rfl rfl ?_
          refine ev_callS (As := [g_i (((o_v xk : Nat) : Int)), g_i (((o_v xk : Nat) : Int))]) d_Mo_isEnding_195 rfl cl_Mo_212 (c_Mo_composed (d + 5) M2 xk xk (o_R_ok hP hxkR) (o_R_ok hP hxkR)) (g_hR (by decide)) g_h0 rfl rfl (Nat.le_of_ble_eq_true rfl) rfl rfl ?_
          refine ev_iload_n (i := 3) d_Mo_isEnding_198 rfl rfl rfl ?_
          refine ev_icmp_ne (tgt := 242) d_Mo_isEnding_199 (by decide) rfl (fun d2 => ?_) (fun d2 => ?_)
          · refine ev_iinc (z := (k : Int) + 1) d_Mo_isEnding_242 rfl rfl (by decide) (g_w_id (by unfold g_rg; omega)) rfl ?_
            refine ev_goto (tgt := 163) d_Mo_isEnding_245 (by decide) ?_
            exact ev_le (ih5 (L.length - (k + 1)) [some (g_r 45), some (g_i s), some (g_i ((k + 1 : Nat) : Int)), none] (by omega) ⟨k + 1, s, by omega, rfl, rfl, hs01, by rw [hsv, o_all_s hxk]; exact ⟨fun h => ⟨h, fun _ h9 => absurd (by rw [h9]) d2⟩, fun h => h.1⟩⟩) rfl ⟨rfl, rfl, rfl, trivial⟩
          · refine ev_iload_n (i := 1) d_Mo_isEnding_202 rfl rfl rfl ?_
            refine ev_if_eq (tgt := 240) d_Mo_isEnding_203 (by decide) rfl (fun d3 => ?_) (fun d3 => ?_)
            · refine ev_iconst d_Mo_isEnding_240 rfl ⟨by decide, by decide⟩ ?_
              refine ev_istore_n (i := 1) d_Mo_isEnding_241 rfl rfl (by decide) rfl ?_
              refine ev_iinc (z := (k : Int) + 1) d_Mo_isEnding_242 rfl rfl (by decide) (g_w_id (by unfold g_rg; omega)) rfl ?_
              refine ev_goto (tgt := 163) d_Mo_isEnding_245 (by decide) ?_
              exact ev_le (ih5 (L.length - (k + 1)) [some (g_r 45), some (g_i 0), some (g_i ((k + 1 : Nat) : Int)), none] (by omega) ⟨k + 1, 0, by omega, rfl, rfl, Or.inl rfl, by rw [o_all_s hxk, ← hsv]; exact ⟨fun h9 => absurd h9 (by decide), fun h9 => by first | (have h8 := h9.1; omega) | (exfalso; obtain ⟨i, hi, h7⟩ := h9.2 (by omega) ((o_cxx (o_R_ok hP hxkR)).mp (by omega)); have h6 := o_d_S.mp h7; have h5 : i = 0 ∨ i = 1 ∨ i = 2 := (by omega); rcases h5 with rfl | rfl | rfl; exact d4 (by show ((o_d xk (4 * 0) : Nat) : Int) = 2; omega); exact d5 (by show ((o_d xk (4 * 1) : Nat) : Int) = 2; omega); exact d6 (by show ((o_d xk (4 * 2) : Nat) : Int) = 2; omega))⟩⟩) rfl ⟨rfl, rfl, rfl, trivial⟩
            · refine ev_iload_n (i := 3) d_Mo_isEnding_206 rfl rfl rfl ?_
              refine ev_iconst d_Mo_isEnding_207 rfl ⟨by decide, by decide⟩ ?_
              refine ev_iconst d_Mo_isEnding_208 rfl ⟨by decide, by decide⟩ ?_
              refine ev_callS (As := [g_i (((o_v xk : Nat) : Int)), g_i 0, g_i 0]) d_Mo_isEnding_209 rfl cl_Mo_195 (c_Mo_arcAt (d + 6) M2 xk 0 0 (by decide) (by decide)) (g_hR (by decide)) g_h0 rfl rfl (Nat.le_of_ble_eq_true rfl) rfl rfl ?_
              refine ev_iconst d_Mo_isEnding_212 rfl ⟨by decide, by decide⟩ ?_
              refine ev_icmp_eq (tgt := 236) d_Mo_isEnding_213 (by decide) rfl (fun d4 => ?_) (fun d4 => ?_)
              · refine ev_iconst d_Mo_isEnding_236 rfl ⟨by decide, by decide⟩ ?_
                refine ev_goto (tgt := 241) d_Mo_isEnding_237 (by decide) ?_
                refine ev_istore_n (i := 1) d_Mo_isEnding_241 rfl rfl (by decide) rfl ?_
                refine ev_iinc (z := (k : Int) + 1) d_Mo_isEnding_242 rfl rfl (by decide) (g_w_id (by unfold g_rg; omega)) rfl ?_
                refine ev_goto (tgt := 163) d_Mo_isEnding_245 (by decide) ?_
                exact ev_le (ih5 (L.length - (k + 1)) [some (g_r 45), some (g_i 1), some (g_i ((k + 1 : Nat) : Int)), none] (by omega) ⟨k + 1, 1, by omega, rfl, rfl, Or.inr rfl, by rw [o_all_s hxk, ← hsv]; exact ⟨fun _ => ⟨by omega, fun _ _ => by first | exact ⟨0, by decide, o_d_S.mpr (by have h9 : ((o_d xk (4 * 0) : Nat) : Int) = 2 := d4; omega)⟩ | exact ⟨1, by decide, o_d_S.mpr (by have h9 : ((o_d xk (4 * 1) : Nat) : Int) = 2 := d5; omega)⟩ | exact ⟨2, by decide, o_d_S.mpr (by have h9 : ((o_d xk (4 * 2) : Nat) : Int) = 2 := d6; omega)⟩⟩, fun _ => rfl⟩⟩) rfl ⟨rfl, rfl, rfl, trivial⟩
              · refine ev_iload_n (i := 3) d_Mo_isEnding_216 rfl rfl rfl ?_
                refine ev_iconst d_Mo_isEnding_217 rfl ⟨by decide, by decide⟩ ?_
                refine ev_iconst d_Mo_isEnding_218 rfl ⟨by decide, by decide⟩ ?_
                refine ev_callS (As := [g_i (((o_v xk : Nat) : Int)), g_i 1, g_i 1]) d_Mo_isEnding_219 rfl cl_Mo_195 (c_Mo_arcAt (d + 6) M2 xk 1 1 (by decide) (by decide)) (g_hR (by decide)) g_h0 rfl rfl (Nat.le_of_ble_eq_true rfl) rfl rfl ?_
                refine ev_iconst d_Mo_isEnding_222 rfl ⟨by decide, by decide⟩ ?_
                refine ev_icmp_eq (tgt := 236) d_Mo_isEnding_223 (by decide) rfl (fun d5 => ?_) (fun d5 => ?_)
                · refine ev_iconst d_Mo_isEnding_236 rfl ⟨by decide, by decide⟩ ?_
                  refine ev_goto (tgt := 241) d_Mo_isEnding_237 (by decide) ?_
                  refine ev_istore_n (i := 1) d_Mo_isEnding_241 rfl rfl (by decide) rfl ?_
                  refine ev_iinc (z := (k : Int) + 1) d_Mo_isEnding_242 rfl rfl (by decide) (g_w_id (by unfold g_rg; omega)) rfl ?_
                  refine ev_goto (tgt := 163) d_Mo_isEnding_245 (by decide) ?_
                  exact ev_le (ih5 (L.length - (k + 1)) [some (g_r 45), some (g_i 1), some (g_i ((k + 1 : Nat) : Int)), none] (by omega) ⟨k + 1, 1, by omega, rfl, rfl, Or.inr rfl, by rw [o_all_s hxk, ← hsv]; exact ⟨fun _ => ⟨by omega, fun _ _ => by first | exact ⟨0, by decide, o_d_S.mpr (by have h9 : ((o_d xk (4 * 0) : Nat) : Int) = 2 := d4; omega)⟩ | exact ⟨1, by decide, o_d_S.mpr (by have h9 : ((o_d xk (4 * 1) : Nat) : Int) = 2 := d5; omega)⟩ | exact ⟨2, by decide, o_d_S.mpr (by have h9 : ((o_d xk (4 * 2) : Nat) : Int) = 2 := d6; omega)⟩⟩, fun _ => rfl⟩⟩) rfl ⟨rfl, rfl, rfl, trivial⟩
                · refine ev_iload_n (i := 3) d_Mo_isEnding_226 rfl rfl rfl ?_
                  refine ev_iconst d_Mo_isEnding_227 rfl ⟨by decide, by decide⟩ ?_
                  refine ev_iconst d_Mo_isEnding_228 rfl ⟨by decide, by decide⟩ ?_
                  refine ev_callS (As := [g_i (((o_v xk : Nat) : Int)), g_i 2, g_i 2]) d_Mo_isEnding_229 rfl cl_Mo_195 (c_Mo_arcAt (d + 6) M2 xk 2 2 (by decide) (by decide)) (g_hR (by decide)) g_h0 rfl rfl (Nat.le_of_ble_eq_true rfl) rfl rfl ?_
                  refine ev_iconst d_Mo_isEnding_232 rfl ⟨by decide, by decide⟩ ?_
                  refine ev_icmp_ne (tgt := 240) d_Mo_isEnding_233 (by decide) rfl (fun d6 => ?_) (fun d6 => ?_)
                  · refine ev_iconst d_Mo_isEnding_240 rfl ⟨by decide, by decide⟩ ?_
                    refine ev_istore_n (i := 1) d_Mo_isEnding_241 rfl rfl (by decide) rfl ?_
                    refine ev_iinc (z := (k : Int) + 1) d_Mo_isEnding_242 rfl rfl (by decide) (g_w_id (by unfold g_rg; omega)) rfl ?_
                    refine ev_goto (tgt := 163) d_Mo_isEnding_245 (by decide) ?_
                    exact ev_le (ih5 (L.length - (k + 1)) [some (g_r 45), some (g_i 0), some (g_i ((k + 1 : Nat) : Int)), none] (by omega) ⟨k + 1, 0, by omega, rfl, rfl, Or.inl rfl, by rw [o_all_s hxk, ← hsv]; exact ⟨fun h9 => absurd h9 (by decide), fun h9 => by first | (have h8 := h9.1; omega) | (exfalso; obtain ⟨i, hi, h7⟩ := h9.2 (by omega) ((o_cxx (o_R_ok hP hxkR)).mp (by omega)); have h6 := o_d_S.mp h7; have h5 : i = 0 ∨ i = 1 ∨ i = 2 := (by omega); rcases h5 with rfl | rfl | rfl; exact d4 (by show ((o_d xk (4 * 0) : Nat) : Int) = 2; omega); exact d5 (by show ((o_d xk (4 * 1) : Nat) : Int) = 2; omega); exact d6 (by show ((o_d xk (4 * 2) : Nat) : Int) = 2; omega))⟩⟩) rfl ⟨rfl, rfl, rfl, trivial⟩
                  · refine ev_iconst d_Mo_isEnding_236 rfl ⟨by decide, by decide⟩ ?_
                    refine ev_goto (tgt := 241) d_Mo_isEnding_237 (by decide) ?_
                    refine ev_istore_n (i := 1) d_Mo_isEnding_241 rfl rfl (by decide) rfl ?_
                    refine ev_iinc (z := (k : Int) + 1) d_Mo_isEnding_242 rfl rfl (by decide) (g_w_id (by unfold g_rg; omega)) rfl ?_
                    refine ev_goto (tgt := 163) d_Mo_isEnding_245 (by decide) ?_
                    exact ev_le (ih5 (L.length - (k + 1)) [some (g_r 45), some (g_i 1), some (g_i ((k + 1 : Nat) : Int)), none] (by omega) ⟨k + 1, 1, by omega, rfl, rfl, Or.inr rfl, by rw [o_all_s hxk, ← hsv]; exact ⟨fun _ => ⟨by omega, fun _ _ => by first | exact ⟨0, by decide, o_d_S.mpr (by have h9 : ((o_d xk (4 * 0) : Nat) : Int) = 2 := d4; omega)⟩ | exact ⟨1, by decide, o_d_S.mpr (by have h9 : ((o_d xk (4 * 1) : Nat) : Int) = 2 := d5; omega)⟩ | exact ⟨2, by decide, o_d_S.mpr (by have h9 : ((o_d xk (4 * 2) : Nat) : Int) = 2 := d6; omega)⟩⟩, fun _ => rfl⟩⟩) rfl ⟨rfl, rfl, rfl, trivial⟩
    · refine ev_iconst d_Mo_isEnding_155 rfl ⟨by decide, by decide⟩ ?_
      refine ev_goto (tgt := 160) d_Mo_isEnding_156 (by decide) ?_
      refine ev_istore_n (i := 1) d_Mo_isEnding_160 rfl rfl (by decide) rfl ?_
      refine ev_iconst d_Mo_isEnding_161 rfl ⟨by decide, by decide⟩ ?_
      refine ev_istore_n (i := 2) d_Mo_isEnding_162 rfl rfl (by decide) rfl ?_
      refine ev_wl (fun n5 ls5 => ∃ (k : Nat) (s : Int), k ≤ L.length ∧ n5 = L.length - k ∧ ls5 = [some (g_r 45), some (g_i s), some (g_i (k : Int)), none] ∧ (s = 0 ∨ s = 1) ∧ (s = 1 ↔ L.length < 201 ∧ ∀ q x : Nat, q < k → L[q]? = some x → o_ee x)) ?_ (n := L.length) (⟨0, 1, Nat.zero_le _, rfl, rfl, by decide, ⟨fun h9 => ⟨by first | omega | exact absurd h9 (by decide), fun q x hq => by omega⟩, fun h9 => by first | rfl | omega⟩⟩)
      intro n5 ls5 hP5 ih5
      obtain ⟨k, s, hk, hn5, rfl, hs01, hsv⟩ := hP5
      refine ev_iload_n (i := 2) d_Mo_isEnding_163 rfl rfl rfl ?_
      refine ev_aload_n (i := 0) d_Mo_isEnding_164 rfl rfl rfl ?_
      refine ev_getI (z := (L.length : Int)) d_Mo_isEnding_165 rfl lk_Mo_192 lx_45 rfl (hM2.2.2.2.1) ?_
      refine ev_icmp_ge (tgt := 248) d_Mo_isEnding_168 (by decide) rfl (fun hz5 => ?_) (fun hz5 => ?_)
      · refine ev_iload_n (i := 1) d_Mo_isEnding_248 rfl rfl rfl ?_
        exact ev_retIR d_Mo_isEnding_249 (⟨s, rfl, hs01, hf2, L, hM2, fun h9 => o_R_min (fun x hx => by obtain ⟨c9, u9, h1, h2, rfl⟩ := hx; exact hs2 _ (hv1 (Nat.lt_of_le_of_lt (z_nodup_le l0 L hM1.2.1 hs2) h9) c9 u9 (by omega) h2)) (fun x z hx hz ht => by obtain ⟨p9, hp9⟩ := List.getElem?_of_mem hx; obtain ⟨c9, u9, h1, h2, rfl⟩ := hz; have hz2 := hs2 _ (hv1 (Nat.lt_of_le_of_lt (z_nodup_le l0 L hM1.2.1 hs2) h9) c9 u9 (by omega) h2); obtain ⟨q9, hq9⟩ := List.getElem?_of_mem hz2; have g1 := (List.getElem?_eq_some_iff.mp hp9).1; have g2 := (List.getElem?_eq_some_iff.mp hq9).1; exact hc2 h9 p9 q9 x _ (by omega) (by omega) hp9 hq9 ht), by rw [hsv]; exact ⟨fun h => ⟨h.1, fun x hx => by obtain ⟨q9, hq9⟩ := List.getElem?_of_mem hx; exact h.2 q9 x (by have := (List.getElem?_eq_some_iff.mp hq9).1; omega) hq9⟩, fun h => ⟨h.1, fun q x _ hqx => h.2 x (List.mem_of_getElem? hqx)⟩⟩⟩) (Or.inr ⟨rfl, by omega⟩)
      · obtain ⟨xk, hxk⟩ : ∃ xk, L[k]? = some xk := ⟨_, List.getElem?_eq_getElem (by omega)⟩
        have hxkR := hM2.2.2.1 xk (List.mem_of_getElem? hxk)
        refine ev_aload_n (i := 0) d_Mo_isEnding_171 rfl rfl rfl ?_
        refine ev_getR d_Mo_isEnding_172 rfl lk_Mo_55 lx_45 rfl ?_
        refine ev_iload_n (i := 2) d_Mo_isEnding_175 rfl rfl rfl ?_
        refine ev_iaload (z := ((o_v xk : Nat) : Int)) d_Mo_isEnding_176 rfl lx_61 (by omega) (by omega) ((o_M_at hM2 hxk).2.2) ?_
        refine ev_istore_n (i := 3) d_Mo_isEnding_177 rfl rfl (by decide) rfl ?_
        refine ev_aload_n (i := 0) d_Mo_isEnding_178 rfl rfl rfl ?_
        refine ev_getR d_Mo_isEnding_179 rfl lk_Mo_49 lx_45 rfl ?_
        refine ev_iload_n (i := 2) d_Mo_isEnding_182 rfl rfl rfl ?_
        refine ev_iaload (z := ((o_f xk : Nat) : Int)) d_Mo_isEnding_183 rfl lx_59 (by omega) (by omega) ((o_M_at hM2 hxk).1) ?_
        refine ev_aload_n (i := 0) d_Mo_isEnding_184 rfl rfl rfl ?_
        refine ev_getR d_Mo_isEnding_185 rfl lk_Mo_52 lx_45 rfl ?_
        refine ev_iload_n (i := 2) d_Mo_isEnding_188 rfl rfl rfl ?_
        refine ev_iaload (z := ((o_t xk : Nat) : Int)) d_Mo_isEnding_189 rfl lx_60 (by omega) (by omega) ((o_M_at hM2 hxk).2.1) ?_
        refine ev_icmp_ne (tgt := 242) d_Mo_isEnding_190 (by decide) rfl (fun d1 => ?_) (fun d1 => ?_)
        · refine ev_iinc (z := (k : Int) + 1) d_Mo_isEnding_242 rfl rfl (by decide) (g_w_id (by unfold g_rg; omega)) rfl ?_
          refine ev_goto (tgt := 163) d_Mo_isEnding_245 (by decide) ?_
          exact ev_le (ih5 (L.length - (k + 1)) [some (g_r 45), some (g_i s), some (g_i ((k + 1 : Nat) : Int)), none] (by omega) ⟨k + 1, s, by omega, rfl, rfl, hs01, by rw [hsv, o_all_s hxk]; exact ⟨fun h => ⟨h, fun h9 _ => absurd (by rw [h9]) d1⟩, fun h => h.1⟩⟩) rfl ⟨rfl, rfl, rfl, trivial⟩
        · refine ev_iload_n (i := 3) d_Mo_isEnding_193 rfl rfl rfl ?_
          refine ev_iload_n (i := 3) d_Mo_isEnding_194 rfl rfl rfl ?_
          refine ev_callS (As := [g_i (((o_v xk : Nat) : Int)), g_i (((o_v xk : Nat) : Int))]) d_Mo_isEnding_195 rfl cl_Mo_212 (c_Mo_composed (d + 5) M2 xk xk (o_R_ok hP hxkR) (o_R_ok hP hxkR)) (g_hR (by decide)) g_h0 rfl rfl (Nat.le_of_ble_eq_true rfl) rfl rfl ?_
          refine ev_iload_n (i := 3) d_Mo_isEnding_198 rfl rfl rfl ?_
          refine ev_icmp_ne (tgt := 242) d_Mo_isEnding_199 (by decide) rfl (fun d2 => ?_) (fun d2 => ?_)
          · refine ev_iinc (z := (k : Int) + 1) d_Mo_isEnding_242 rfl rfl (by decide) (g_w_id (by unfold g_rg; omega)) rfl ?_
            refine ev_goto (tgt := 163) d_Mo_isEnding_245 (by decide) ?_
            exact ev_le (ih5 (L.length - (k + 1)) [some (g_r 45), some (g_i s), some (g_i ((k + 1 : Nat) : Int)), none] (by omega) ⟨k + 1, s, by omega, rfl, rfl, hs01, by rw [hsv, o_all_s hxk]; exact ⟨fun h => ⟨h, fun _ h9 => absurd (by rw [h9]) d2⟩, fun h => h.1⟩⟩) rfl ⟨rfl, rfl, rfl, trivial⟩
          · refine ev_iload_n (i := 1) d_Mo_isEnding_202 rfl rfl rfl ?_
            refine ev_if_eq (tgt := 240) d_Mo_isEnding_203 (by decide) rfl (fun d3 => ?_) (fun d3 => ?_)
            · refine ev_iconst d_Mo_isEnding_240 rfl ⟨by decide, by decide⟩ ?_
              refine ev_istore_n (i := 1) d_Mo_isEnding_241 rfl rfl (by decide) rfl ?_
              refine ev_iinc (z := (k : Int) + 1) d_Mo_isEnding_242 rfl rfl (by decide) (g_w_id (by unfold g_rg; omega)) rfl ?_
              refine ev_goto (tgt := 163) d_Mo_isEnding_245 (by decide) ?_
              exact ev_le (ih5 (L.length - (k + 1)) [some (g_r 45), some (g_i 0), some (g_i ((k + 1 : Nat) : Int)), none] (by omega) ⟨k + 1, 0, by omega, rfl, rfl, Or.inl rfl, by rw [o_all_s hxk, ← hsv]; exact ⟨fun h9 => absurd h9 (by decide), fun h9 => by first | (have h8 := h9.1; omega) | (exfalso; obtain ⟨i, hi, h7⟩ := h9.2 (by omega) ((o_cxx (o_R_ok hP hxkR)).mp (by omega)); have h6 := o_d_S.mp h7; have h5 : i = 0 ∨ i = 1 ∨ i = 2 := (by omega); rcases h5 with rfl | rfl | rfl; exact d4 (by show ((o_d xk (4 * 0) : Nat) : Int) = 2; omega); exact d5 (by show ((o_d xk (4 * 1) : Nat) : Int) = 2; omega); exact d6 (by show ((o_d xk (4 * 2) : Nat) : Int) = 2; omega))⟩⟩) rfl ⟨rfl, rfl, rfl, trivial⟩
            · refine ev_iload_n (i := 3) d_Mo_isEnding_206 rfl rfl rfl ?_
              refine ev_iconst d_Mo_isEnding_207 rfl ⟨by decide, by decide⟩ ?_
              refine ev_iconst d_Mo_isEnding_208 rfl ⟨by decide, by decide⟩ ?_
              refine ev_callS (As := [g_i (((o_v xk : Nat) : Int)), g_i 0, g_i 0]) d_Mo_isEnding_209 rfl cl_Mo_195 (c_Mo_arcAt (d + 6) M2 xk 0 0 (by decide) (by decide)) (g_hR (by decide)) g_h0 rfl rfl (Nat.le_of_ble_eq_true rfl) rfl rfl ?_
              refine ev_iconst d_Mo_isEnding_212 rfl ⟨by decide, by decide⟩ ?_
              refine ev_icmp_eq (tgt := 236) d_Mo_isEnding_213 (by decide) rfl (fun d4 => ?_) (fun d4 => ?_)
              · refine ev_iconst d_Mo_isEnding_236 rfl ⟨by decide, by decide⟩ ?_
                refine ev_goto (tgt := 241) d_Mo_isEnding_237 (by decide) ?_
                refine ev_istore_n (i := 1) d_Mo_isEnding_241 rfl rfl (by decide) rfl ?_
                refine ev_iinc (z := (k : Int) + 1) d_Mo_isEnding_242 rfl rfl (by decide) (g_w_id (by unfold g_rg; omega)) rfl ?_
                refine ev_goto (tgt := 163) d_Mo_isEnding_245 (by decide) ?_
                exact ev_le (ih5 (L.length - (k + 1)) [some (g_r 45), some (g_i 1), some (g_i ((k + 1 : Nat) : Int)), none] (by omega) ⟨k + 1, 1, by omega, rfl, rfl, Or.inr rfl, by rw [o_all_s hxk, ← hsv]; exact ⟨fun _ => ⟨by omega, fun _ _ => by first | exact ⟨0, by decide, o_d_S.mpr (by have h9 : ((o_d xk (4 * 0) : Nat) : Int) = 2 := d4; omega)⟩ | exact ⟨1, by decide, o_d_S.mpr (by have h9 : ((o_d xk (4 * 1) : Nat) : Int) = 2 := d5; omega)⟩ | exact ⟨2, by decide, o_d_S.mpr (by have h9 : ((o_d xk (4 * 2) : Nat) : Int) = 2 := d6; omega)⟩⟩, fun _ => rfl⟩⟩) rfl ⟨rfl, rfl, rfl, trivial⟩
              · refine ev_iload_n (i := 3) d_Mo_isEnding_216 rfl rfl rfl ?_
                refine ev_iconst d_Mo_isEnding_217 rfl ⟨by decide, by decide⟩ ?_
                refine ev_iconst d_Mo_isEnding_218 rfl ⟨by decide, by decide⟩ ?_
                refine ev_callS (As := [g_i (((o_v xk : Nat) : Int)), g_i 1, g_i 1]) d_Mo_isEnding_219 rfl cl_Mo_195 (c_Mo_arcAt (d + 6) M2 xk 1 1 (by decide) (by decide)) (g_hR (by decide)) g_h0 rfl rfl (Nat.le_of_ble_eq_true rfl) rfl rfl ?_
                refine ev_iconst d_Mo_isEnding_222 rfl ⟨by decide, by decide⟩ ?_
                refine ev_icmp_eq (tgt := 236) d_Mo_isEnding_223 (by decide) rfl (fun d5 => ?_) (fun d5 => ?_)
                · refine ev_iconst d_Mo_isEnding_236 rfl ⟨by decide, by decide⟩ ?_
                  refine ev_goto (tgt := 241) d_Mo_isEnding_237 (by decide) ?_
                  refine ev_istore_n (i := 1) d_Mo_isEnding_241 rfl rfl (by decide) rfl ?_
                  refine ev_iinc (z := (k : Int) + 1) d_Mo_isEnding_242 rfl rfl (by decide) (g_w_id (by unfold g_rg; omega)) rfl ?_
                  refine ev_goto (tgt := 163) d_Mo_isEnding_245 (by decide) ?_
                  exact ev_le (ih5 (L.length - (k + 1)) [some (g_r 45), some (g_i 1), some (g_i ((k + 1 : Nat) : Int)), none] (by omega) ⟨k + 1, 1, by omega, rfl, rfl, Or.inr rfl, by rw [o_all_s hxk, ← hsv]; exact ⟨fun _ => ⟨by omega, fun _ _ => by first | exact ⟨0, by decide, o_d_S.mpr (by have h9 : ((o_d xk (4 * 0) : Nat) : Int) = 2 := d4; omega)⟩ | exact ⟨1, by decide, o_d_S.mpr (by have h9 : ((o_d xk (4 * 1) : Nat) : Int) = 2 := d5; omega)⟩ | exact ⟨2, by decide, o_d_S.mpr (by have h9 : ((o_d xk (4 * 2) : Nat) : Int) = 2 := d6; omega)⟩⟩, fun _ => rfl⟩⟩) rfl ⟨rfl, rfl, rfl, trivial⟩
                · refine ev_iload_n (i := 3) d_Mo_isEnding_226 rfl rfl rfl ?_
                  refine ev_iconst d_Mo_isEnding_227 rfl ⟨by decide, by decide⟩ ?_
                  refine ev_iconst d_Mo_isEnding_228 rfl ⟨by decide, by decide⟩ ?_
                  refine ev_callS (As := [g_i (((o_v xk : Nat) : Int)), g_i 2, g_i 2]) d_Mo_isEnding_229 rfl cl_Mo_195 (c_Mo_arcAt (d + 6) M2 xk 2 2 (by decide) (by decide)) (g_hR (by decide)) g_h0 rfl rfl (Nat.le_of_ble_eq_true rfl) rfl rfl ?_
                  refine ev_iconst d_Mo_isEnding_232 rfl ⟨by decide, by decide⟩ ?_
                  refine ev_icmp_ne (tgt := 240) d_Mo_isEnding_233 (by decide) rfl (fun d6 => ?_) (fun d6 => ?_)
                  · refine ev_iconst d_Mo_isEnding_240 rfl ⟨by decide, by decide⟩ ?_
                    refine ev_istore_n (i := 1) d_Mo_isEnding_241 rfl rfl (by decide) rfl ?_
                    refine ev_iinc (z := (k : Int) + 1) d_Mo_isEnding_242 rfl rfl (by decide) (g_w_id (by unfold g_rg; omega)) rfl ?_
                    refine ev_goto (tgt := 163) d_Mo_isEnding_245 (by decide) ?_
                    exact ev_le (ih5 (L.length - (k + 1)) [some (g_r 45), some (g_i 0), some (g_i ((k + 1 : Nat) : Int)), none] (by omega) ⟨k + 1, 0, by omega, rfl, rfl, Or.inl rfl, by rw [o_all_s hxk, ← hsv]; exact ⟨fun h9 => absurd h9 (by decide), fun h9 => by first | (have h8 := h9.1; omega) | (exfalso; obtain ⟨i, hi, h7⟩ := h9.2 (by omega) ((o_cxx (o_R_ok hP hxkR)).mp (by omega)); have h6 := o_d_S.mp h7; have h5 : i = 0 ∨ i = 1 ∨ i = 2 := (by omega); rcases h5 with rfl | rfl | rfl; exact d4 (by show ((o_d xk (4 * 0) : Nat) : Int) = 2; omega); exact d5 (by show ((o_d xk (4 * 1) : Nat) : Int) = 2; omega); exact d6 (by show ((o_d xk (4 * 2) : Nat) : Int) = 2; omega))⟩⟩) rfl ⟨rfl, rfl, rfl, trivial⟩
                  · refine ev_iconst d_Mo_isEnding_236 rfl ⟨by decide, by decide⟩ ?_
                    refine ev_goto (tgt := 241) d_Mo_isEnding_237 (by decide) ?_
                    refine ev_istore_n (i := 1) d_Mo_isEnding_241 rfl rfl (by decide) rfl ?_
                    refine ev_iinc (z := (k : Int) + 1) d_Mo_isEnding_242 rfl rfl (by decide) (g_w_id (by unfold g_rg; omega)) rfl ?_
                    refine ev_goto (tgt := 163) d_Mo_isEnding_245 (by decide) ?_
                    exact ev_le (ih5 (L.length - (k + 1)) [some (g_r 45), some (g_i 1), some (g_i ((k + 1 : Nat) : Int)), none] (by omega) ⟨k + 1, 1, by omega, rfl, rfl, Or.inr rfl, by rw [o_all_s hxk, ← hsv]; exact ⟨fun _ => ⟨by omega, fun _ _ => by first | exact ⟨0, by decide, o_d_S.mpr (by have h9 : ((o_d xk (4 * 0) : Nat) : Int) = 2 := d4; omega)⟩ | exact ⟨1, by decide, o_d_S.mpr (by have h9 : ((o_d xk (4 * 1) : Nat) : Int) = 2 := d5; omega)⟩ | exact ⟨2, by decide, o_d_S.mpr (by have h9 : ((o_d xk (4 * 2) : Nat) : Int) = 2 := d6; omega)⟩⟩, fun _ => rfl⟩⟩) rfl ⟨rfl, rfl, rfl, trivial⟩
  · refine ev_aload_n (i := 0) d_Mo_isEnding_14 rfl rfl rfl ?_
    refine ev_getI (z := (L.length : Int)) d_Mo_isEnding_15 rfl lk_Mo_192 lx_45 rfl (hM2.2.2.2.1) ?_
    refine ev_sipush d_Mo_isEnding_18 rfl (by decide +kernel) ⟨by decide, by decide⟩ ?_
    refine ev_icmp_ge (tgt := 145) d_Mo_isEnding_21 (by decide) rfl (fun c00 => ?_) (fun c00 => ?_)
    · refine ev_aload_n (i := 0) d_Mo_isEnding_145 rfl rfl rfl ?_
      refine ev_getI (z := (L.length : Int)) d_Mo_isEnding_146 rfl lk_Mo_192 lx_45 rfl (hM2.2.2.2.1) ?_
      refine ev_sipush d_Mo_isEnding_149 rfl (by decide +kernel) ⟨by decide, by decide⟩ ?_
      refine ev_icmp_ge (tgt := 159) d_Mo_isEnding_152 (by decide) rfl (fun c9 => ?_) (fun c9 => ?_)
      · refine ev_iconst d_Mo_isEnding_159 rfl ⟨by decide, by decide⟩ ?_
        refine ev_istore_n (i := 1) d_Mo_isEnding_160 rfl rfl (by decide) rfl ?_
        refine ev_iconst d_Mo_isEnding_161 rfl ⟨by decide, by decide⟩ ?_
        refine ev_istore_n (i := 2) d_Mo_isEnding_162 rfl rfl (by decide) rfl ?_
        refine ev_wl (fun n5 ls5 => ∃ (k : Nat) (s : Int), k ≤ L.length ∧ n5 = L.length - k ∧ ls5 = [some (g_r 45), some (g_i s), some (g_i (k : Int)), none] ∧ (s = 0 ∨ s = 1) ∧ (s = 1 ↔ L.length < 201 ∧ ∀ q x : Nat, q < k → L[q]? = some x → o_ee x)) ?_ (n := L.length) (⟨0, 0, Nat.zero_le _, rfl, rfl, by decide, ⟨fun h9 => ⟨by first | omega | exact absurd h9 (by decide), fun q x hq => by omega⟩, fun h9 => by first | rfl | omega⟩⟩)
        intro n5 ls5 hP5 ih5
        obtain ⟨k, s, hk, hn5, rfl, hs01, hsv⟩ := hP5
        refine ev_iload_n (i := 2) d_Mo_isEnding_163 rfl rfl rfl ?_
        refine ev_aload_n (i := 0) d_Mo_isEnding_164 rfl rfl rfl ?_
        refine ev_getI (z := (L.length : Int)) d_Mo_isEnding_165 rfl lk_Mo_192 lx_45 rfl (hM2.2.2.2.1) ?_
        refine ev_icmp_ge (tgt := 248) d_Mo_isEnding_168 (by decide) rfl (fun hz5 => ?_) (fun hz5 => ?_)
        · refine ev_iload_n (i := 1) d_Mo_isEnding_248 rfl rfl rfl ?_
          exact ev_retIR d_Mo_isEnding_249 (⟨s, rfl, hs01, hf2, L, hM2, fun h9 => o_R_min (fun x hx => by obtain ⟨c9, u9, h1, h2, rfl⟩ := hx; exact hs2 _ (hv1 (Nat.lt_of_le_of_lt (z_nodup_le l0 L hM1.2.1 hs2) h9) c9 u9 (by omega) h2)) (fun x z hx hz ht => by obtain ⟨p9, hp9⟩ := List.getElem?_of_mem hx; obtain ⟨c9, u9, h1, h2, rfl⟩ := hz; have hz2 := hs2 _ (hv1 (Nat.lt_of_le_of_lt (z_nodup_le l0 L hM1.2.1 hs2) h9) c9 u9 (by omega) h2); obtain ⟨q9, hq9⟩ := List.getElem?_of_mem hz2; have g1 := (List.getElem?_eq_some_iff.mp hp9).1; have g2 := (List.getElem?_eq_some_iff.mp hq9).1; exact hc2 h9 p9 q9 x _ (by omega) (by omega) hp9 hq9 ht), by rw [hsv]; exact ⟨fun h => ⟨h.1, fun x hx => by obtain ⟨q9, hq9⟩ := List.getElem?_of_mem hx; exact h.2 q9 x (by have := (List.getElem?_eq_some_iff.mp hq9).1; omega) hq9⟩, fun h => ⟨h.1, fun q x _ hqx => h.2 x (List.mem_of_getElem? hqx)⟩⟩⟩) (Or.inr ⟨rfl, by omega⟩)
        · obtain ⟨xk, hxk⟩ : ∃ xk, L[k]? = some xk := ⟨_, List.getElem?_eq_getElem (by omega)⟩
          have hxkR := hM2.2.2.1 xk (List.mem_of_getElem? hxk)
          refine ev_aload_n (i := 0) d_Mo_isEnding_171 rfl rfl rfl ?_
          refine ev_getR d_Mo_isEnding_172 rfl lk_Mo_55 lx_45 rfl ?_
          refine ev_iload_n (i := 2) d_Mo_isEnding_175 rfl rfl rfl ?_
          refine ev_iaload (z := ((o_v xk : Nat) : Int)) d_Mo_isEnding_176 rfl lx_61 (by omega) (by omega) ((o_M_at hM2 hxk).2.2) ?_
          refine ev_istore_n (i := 3) d_Mo_isEnding_177 rfl rfl (by decide) rfl ?_
          refine ev_aload_n (i := 0) d_Mo_isEnding_178 rfl rfl rfl ?_
          refine ev_getR d_Mo_isEnding_179 rfl lk_Mo_49 lx_45 rfl ?_
          refine ev_iload_n (i := 2) d_Mo_isEnding_182 rfl rfl rfl ?_
          refine ev_iaload (z := ((o_f xk : Nat) : Int)) d_Mo_isEnding_183 rfl lx_59 (by omega) (by omega) ((o_M_at hM2 hxk).1) ?_
          refine ev_aload_n (i := 0) d_Mo_isEnding_184 rfl rfl rfl ?_
          refine ev_getR d_Mo_isEnding_185 rfl lk_Mo_52 lx_45 rfl ?_
          refine ev_iload_n (i := 2) d_Mo_isEnding_188 rfl rfl rfl ?_
          refine ev_iaload (z := ((o_t xk : Nat) : Int)) d_Mo_isEnding_189 rfl lx_60 (by omega) (by omega) ((o_M_at hM2 hxk).2.1) ?_
          refine ev_icmp_ne (tgt := 242) d_Mo_isEnding_190 (by decide) rfl (fun d1 => ?_) (fun d1 => ?_)
          · refine ev_iinc (z := (k : Int) + 1) d_Mo_isEnding_242 rfl rfl (by decide) (g_w_id (by unfold g_rg; omega)) rfl ?_
            refine ev_goto (tgt := 163) d_Mo_isEnding_245 (by decide) ?_
            exact ev_le (ih5 (L.length - (k + 1)) [some (g_r 45), some (g_i s), some (g_i ((k + 1 : Nat) : Int)), none] (by omega) ⟨k + 1, s, by omega, rfl, rfl, hs01, by rw [hsv, o_all_s hxk]; exact ⟨fun h => ⟨h, fun h9 _ => absurd (by rw [h9]) d1⟩, fun h => h.1⟩⟩) rfl ⟨rfl, rfl, rfl, trivial⟩
          · refine ev_iload_n (i := 3) d_Mo_isEnding_193 rfl rfl rfl ?_
            refine ev_iload_n (i := 3) d_Mo_isEnding_194 rfl rfl rfl ?_
            refine ev_callS (As := [g_i (((o_v xk : Nat) : Int)), g_i (((o_v xk : Nat) : Int))]) d_Mo_isEnding_195 rfl cl_Mo_212 (c_Mo_composed (d + 5) M2 xk xk (o_R_ok hP hxkR) (o_R_ok hP hxkR)) (g_hR (by decide)) g_h0 rfl rfl (Nat.le_of_ble_eq_true rfl) rfl rfl ?_
            refine ev_iload_n (i := 3) d_Mo_isEnding_198 rfl rfl rfl ?_
            refine ev_icmp_ne (tgt := 242) d_Mo_isEnding_199 (by decide) rfl (fun d2 => ?_) (fun d2 => ?_)
            · refine ev_iinc (z := (k : Int) + 1) d_Mo_isEnding_242 rfl rfl (by decide) (g_w_id (by unfold g_rg; omega)) rfl ?_
              refine ev_goto (tgt := 163) d_Mo_isEnding_245 (by decide) ?_
              exact ev_le (ih5 (L.length - (k + 1)) [some (g_r 45), some (g_i s), some (g_i ((k + 1 : Nat) : Int)), none] (by omega) ⟨k + 1, s, by omega, rfl, rfl, hs01, by rw [hsv, o_all_s hxk]; exact ⟨fun h => ⟨h, fun _ h9 => absurd (by rw [h9]) d2⟩, fun h => h.1⟩⟩) rfl ⟨rfl, rfl, rfl, trivial⟩
            · refine ev_iload_n (i := 1) d_Mo_isEnding_202 rfl rfl rfl ?_
              refine ev_if_eq (tgt := 240) d_Mo_isEnding_203 (by decide) rfl (fun d3 => ?_) (fun d3 => ?_)
              · refine ev_iconst d_Mo_isEnding_240 rfl ⟨by decide, by decide⟩ ?_
                refine ev_istore_n (i := 1) d_Mo_isEnding_241 rfl rfl (by decide) rfl ?_
                refine ev_iinc (z := (k : Int) + 1) d_Mo_isEnding_242 rfl rfl (by decide) (g_w_id (by unfold g_rg; omega)) rfl ?_
                refine ev_goto (tgt := 163) d_Mo_isEnding_245 (by decide) ?_
                exact ev_le (ih5 (L.length - (k + 1)) [some (g_r 45), some (g_i 0), some (g_i ((k + 1 : Nat) : Int)), none] (by omega) ⟨k + 1, 0, by omega, rfl, rfl, Or.inl rfl, by rw [o_all_s hxk, ← hsv]; exact ⟨fun h9 => absurd h9 (by decide), fun h9 => by first | (have h8 := h9.1; omega) | (exfalso; obtain ⟨i, hi, h7⟩ := h9.2 (by omega) ((o_cxx (o_R_ok hP hxkR)).mp (by omega)); have h6 := o_d_S.mp h7; have h5 : i = 0 ∨ i = 1 ∨ i = 2 := (by omega); rcases h5 with rfl | rfl | rfl; exact d4 (by show ((o_d xk (4 * 0) : Nat) : Int) = 2; omega); exact d5 (by show ((o_d xk (4 * 1) : Nat) : Int) = 2; omega); exact d6 (by show ((o_d xk (4 * 2) : Nat) : Int) = 2; omega))⟩⟩) rfl ⟨rfl, rfl, rfl, trivial⟩
              · refine ev_iload_n (i := 3) d_Mo_isEnding_206 rfl rfl rfl ?_
                refine ev_iconst d_Mo_isEnding_207 rfl ⟨by decide, by decide⟩ ?_
                refine ev_iconst d_Mo_isEnding_208 rfl ⟨by decide, by decide⟩ ?_
                refine ev_callS (As := [g_i (((o_v xk : Nat) : Int)), g_i 0, g_i 0]) d_Mo_isEnding_209 rfl cl_Mo_195 (c_Mo_arcAt (d + 6) M2 xk 0 0 (by decide) (by decide)) (g_hR (by decide)) g_h0 rfl rfl (Nat.le_of_ble_eq_true rfl) rfl rfl ?_
                refine ev_iconst d_Mo_isEnding_212 rfl ⟨by decide, by decide⟩ ?_
                refine ev_icmp_eq (tgt := 236) d_Mo_isEnding_213 (by decide) rfl (fun d4 => ?_) (fun d4 => ?_)
                · refine ev_iconst d_Mo_isEnding_236 rfl ⟨by decide, by decide⟩ ?_
                  refine ev_goto (tgt := 241) d_Mo_isEnding_237 (by decide) ?_
                  refine ev_istore_n (i := 1) d_Mo_isEnding_241 rfl rfl (by decide) rfl ?_
                  refine ev_iinc (z := (k : Int) + 1) d_Mo_isEnding_242 rfl rfl (by decide) (g_w_id (by unfold g_rg; omega)) rfl ?_
                  refine ev_goto (tgt := 163) d_Mo_isEnding_245 (by decide) ?_
                  exact ev_le (ih5 (L.length - (k + 1)) [some (g_r 45), some (g_i 1), some (g_i ((k + 1 : Nat) : Int)), none] (by omega) ⟨k + 1, 1, by omega, rfl, rfl, Or.inr rfl, by rw [o_all_s hxk, ← hsv]; exact ⟨fun _ => ⟨by omega, fun _ _ => by first | exact ⟨0, by decide, o_d_S.mpr (by have h9 : ((o_d xk (4 * 0) : Nat) : Int) = 2 := d4; omega)⟩ | exact ⟨1, by decide, o_d_S.mpr (by have h9 : ((o_d xk (4 * 1) : Nat) : Int) = 2 := d5; omega)⟩ | exact ⟨2, by decide, o_d_S.mpr (by have h9 : ((o_d xk (4 * 2) : Nat) : Int) = 2 := d6; omega)⟩⟩, fun _ => rfl⟩⟩) rfl ⟨rfl, rfl, rfl, trivial⟩
                · refine ev_iload_n (i := 3) d_Mo_isEnding_216 rfl rfl rfl ?_
                  refine ev_iconst d_Mo_isEnding_217 rfl ⟨by decide, by decide⟩ ?_
                  refine ev_iconst d_Mo_isEnding_218 rfl ⟨by decide, by decide⟩ ?_
                  refine ev_callS (As := [g_i (((o_v xk : Nat) : Int)), g_i 1, g_i 1]) d_Mo_isEnding_219 rfl cl_Mo_195 (c_Mo_arcAt (d + 6) M2 xk 1 1 (by decide) (by decide)) (g_hR (by decide)) g_h0 rfl rfl (Nat.le_of_ble_eq_true rfl) rfl rfl ?_
                  refine ev_iconst d_Mo_isEnding_222 rfl ⟨by decide, by decide⟩ ?_
                  refine ev_icmp_eq (tgt := 236) d_Mo_isEnding_223 (by decide) rfl (fun d5 => ?_) (fun d5 => ?_)
                  · refine ev_iconst d_Mo_isEnding_236 rfl ⟨by decide, by decide⟩ ?_
                    refine ev_goto (tgt := 241) d_Mo_isEnding_237 (by decide) ?_
                    refine ev_istore_n (i := 1) d_Mo_isEnding_241 rfl rfl (by decide) rfl ?_
                    refine ev_iinc (z := (k : Int) + 1) d_Mo_isEnding_242 rfl rfl (by decide) (g_w_id (by unfold g_rg; omega)) rfl ?_
                    refine ev_goto (tgt := 163) d_Mo_isEnding_245 (by decide) ?_
                    exact ev_le (ih5 (L.length - (k + 1)) [some (g_r 45), some (g_i 1), some (g_i ((k + 1 : Nat) : Int)), none] (by omega) ⟨k + 1, 1, by omega, rfl, rfl, Or.inr rfl, by rw [o_all_s hxk, ← hsv]; exact ⟨fun _ => ⟨by omega, fun _ _ => by first | exact ⟨0, by decide, o_d_S.mpr (by have h9 : ((o_d xk (4 * 0) : Nat) : Int) = 2 := d4; omega)⟩ | exact ⟨1, by decide, o_d_S.mpr (by have h9 : ((o_d xk (4 * 1) : Nat) : Int) = 2 := d5; omega)⟩ | exact ⟨2, by decide, o_d_S.mpr (by have h9 : ((o_d xk (4 * 2) : Nat) : Int) = 2 := d6; omega)⟩⟩, fun _ => rfl⟩⟩) rfl ⟨rfl, rfl, rfl, trivial⟩
                  · refine ev_iload_n (i := 3) d_Mo_isEnding_226 rfl rfl rfl ?_
                    refine ev_iconst d_Mo_isEnding_227 rfl ⟨by decide, by decide⟩ ?_
                    refine ev_iconst d_Mo_isEnding_228 rfl ⟨by decide, by decide⟩ ?_
                    refine ev_callS (As := [g_i (((o_v xk : Nat) : Int)), g_i 2, g_i 2]) d_Mo_isEnding_229 rfl cl_Mo_195 (c_Mo_arcAt (d + 6) M2 xk 2 2 (by decide) (by decide)) (g_hR (by decide)) g_h0 rfl rfl (Nat.le_of_ble_eq_true rfl) rfl rfl ?_
                    refine ev_iconst d_Mo_isEnding_232 rfl ⟨by decide, by decide⟩ ?_
                    refine ev_icmp_ne (tgt := 240) d_Mo_isEnding_233 (by decide) rfl (fun d6 => ?_) (fun d6 => ?_)
                    · refine ev_iconst d_Mo_isEnding_240 rfl ⟨by decide, by decide⟩ ?_
                      refine ev_istore_n (i := 1) d_Mo_isEnding_241 rfl rfl (by decide) rfl ?_
                      refine ev_iinc (z := (k : Int) + 1) d_Mo_isEnding_242 rfl rfl (by decide) (g_w_id (by unfold g_rg; omega)) rfl ?_
                      refine ev_goto (tgt := 163) d_Mo_isEnding_245 (by decide) ?_
                      exact ev_le (ih5 (L.length - (k + 1)) [some (g_r 45), some (g_i 0), some (g_i ((k + 1 : Nat) : Int)), none] (by omega) ⟨k + 1, 0, by omega, rfl, rfl, Or.inl rfl, by rw [o_all_s hxk, ← hsv]; exact ⟨fun h9 => absurd h9 (by decide), fun h9 => by first | (have h8 := h9.1; omega) | (exfalso; obtain ⟨i, hi, h7⟩ := h9.2 (by omega) ((o_cxx (o_R_ok hP hxkR)).mp (by omega)); have h6 := o_d_S.mp h7; have h5 : i = 0 ∨ i = 1 ∨ i = 2 := (by omega); rcases h5 with rfl | rfl | rfl; exact d4 (by show ((o_d xk (4 * 0) : Nat) : Int) = 2; omega); exact d5 (by show ((o_d xk (4 * 1) : Nat) : Int) = 2; omega); exact d6 (by show ((o_d xk (4 * 2) : Nat) : Int) = 2; omega))⟩⟩) rfl ⟨rfl, rfl, rfl, trivial⟩
                    · refine ev_iconst d_Mo_isEnding_236 rfl ⟨by decide, by decide⟩ ?_
                      refine ev_goto (tgt := 241) d_Mo_isEnding_237 (by decide) ?_
                      refine ev_istore_n (i := 1) d_Mo_isEnding_241 rfl rfl (by decide) rfl ?_
                      refine ev_iinc (z := (k : Int) + 1) d_Mo_isEnding_242 rfl rfl (by decide) (g_w_id (by unfold g_rg; omega)) rfl ?_
                      refine ev_goto (tgt := 163) d_Mo_isEnding_245 (by decide) ?_
                      exact ev_le (ih5 (L.length - (k + 1)) [some (g_r 45), some (g_i 1), some (g_i ((k + 1 : Nat) : Int)), none] (by omega) ⟨k + 1, 1, by omega, rfl, rfl, Or.inr rfl, by rw [o_all_s hxk, ← hsv]; exact ⟨fun _ => ⟨by omega, fun _ _ => by first | exact ⟨0, by decide, o_d_S.mpr (by have h9 : ((o_d xk (4 * 0) : Nat) : Int) = 2 := d4; omega)⟩ | exact ⟨1, by decide, o_d_S.mpr (by have h9 : ((o_d xk (4 * 1) : Nat) : Int) = 2 := d5; omega)⟩ | exact ⟨2, by decide, o_d_S.mpr (by have h9 : ((o_d xk (4 * 2) : Nat) : Int) = 2 := d6; omega)⟩⟩, fun _ => rfl⟩⟩) rfl ⟨rfl, rfl, rfl, trivial⟩
      · refine ev_iconst d_Mo_isEnding_155 rfl ⟨by decide, by decide⟩ ?_
        refine ev_goto (tgt := 160) d_Mo_isEnding_156 (by decide) ?_
        refine ev_istore_n (i := 1) d_Mo_isEnding_160 rfl rfl (by decide) rfl ?_
        refine ev_iconst d_Mo_isEnding_161 rfl ⟨by decide, by decide⟩ ?_
        refine ev_istore_n (i := 2) d_Mo_isEnding_162 rfl rfl (by decide) rfl ?_
        refine ev_wl (fun n5 ls5 => ∃ (k : Nat) (s : Int), k ≤ L.length ∧ n5 = L.length - k ∧ ls5 = [some (g_r 45), some (g_i s), some (g_i (k : Int)), none] ∧ (s = 0 ∨ s = 1) ∧ (s = 1 ↔ L.length < 201 ∧ ∀ q x : Nat, q < k → L[q]? = some x → o_ee x)) ?_ (n := L.length) (⟨0, 1, Nat.zero_le _, rfl, rfl, by decide, ⟨fun h9 => ⟨by first | omega | exact absurd h9 (by decide), fun q x hq => by omega⟩, fun h9 => by first | rfl | omega⟩⟩)
        intro n5 ls5 hP5 ih5
        obtain ⟨k, s, hk, hn5, rfl, hs01, hsv⟩ := hP5
        refine ev_iload_n (i := 2) d_Mo_isEnding_163 rfl rfl rfl ?_
        refine ev_aload_n (i := 0) d_Mo_isEnding_164 rfl rfl rfl ?_
        refine ev_getI (z := (L.length : Int)) d_Mo_isEnding_165 rfl lk_Mo_192 lx_45 rfl (hM2.2.2.2.1) ?_
        refine ev_icmp_ge (tgt := 248) d_Mo_isEnding_168 (by decide) rfl (fun hz5 => ?_) (fun hz5 => ?_)
        · refine ev_iload_n (i := 1) d_Mo_isEnding_248 rfl rfl rfl ?_
          exact ev_retIR d_Mo_isEnding_249 (⟨s, rfl, hs01, hf2, L, hM2, fun h9 => o_R_min (fun x hx => by obtain ⟨c9, u9, h1, h2, rfl⟩ := hx; exact hs2 _ (hv1 (Nat.lt_of_le_of_lt (z_nodup_le l0 L hM1.2.1 hs2) h9) c9 u9 (by omega) h2)) (fun x z hx hz ht => by obtain ⟨p9, hp9⟩ := List.getElem?_of_mem hx; obtain ⟨c9, u9, h1, h2, rfl⟩ := hz; have hz2 := hs2 _ (hv1 (Nat.lt_of_le_of_lt (z_nodup_le l0 L hM1.2.1 hs2) h9) c9 u9 (by omega) h2); obtain ⟨q9, hq9⟩ := List.getElem?_of_mem hz2; have g1 := (List.getElem?_eq_some_iff.mp hp9).1; have g2 := (List.getElem?_eq_some_iff.mp hq9).1; exact hc2 h9 p9 q9 x _ (by omega) (by omega) hp9 hq9 ht), by rw [hsv]; exact ⟨fun h => ⟨h.1, fun x hx => by obtain ⟨q9, hq9⟩ := List.getElem?_of_mem hx; exact h.2 q9 x (by have := (List.getElem?_eq_some_iff.mp hq9).1; omega) hq9⟩, fun h => ⟨h.1, fun q x _ hqx => h.2 x (List.mem_of_getElem? hqx)⟩⟩⟩) (Or.inr ⟨rfl, by omega⟩)
        · obtain ⟨xk, hxk⟩ : ∃ xk, L[k]? = some xk := ⟨_, List.getElem?_eq_getElem (by omega)⟩
          have hxkR := hM2.2.2.1 xk (List.mem_of_getElem? hxk)
          refine ev_aload_n (i := 0) d_Mo_isEnding_171 rfl rfl rfl ?_
          refine ev_getR d_Mo_isEnding_172 rfl lk_Mo_55 lx_45 rfl ?_
          refine ev_iload_n (i := 2) d_Mo_isEnding_175 rfl rfl rfl ?_
          refine ev_iaload (z := ((o_v xk : Nat) : Int)) d_Mo_isEnding_176 rfl lx_61 (by omega) (by omega) ((o_M_at hM2 hxk).2.2) ?_
          refine ev_istore_n (i := 3) d_Mo_isEnding_177 rfl rfl (by decide) rfl ?_
          refine ev_aload_n (i := 0) d_Mo_isEnding_178 rfl rfl rfl ?_
          refine ev_getR d_Mo_isEnding_179 rfl lk_Mo_49 lx_45 rfl ?_
          refine ev_iload_n (i := 2) d_Mo_isEnding_182 rfl rfl rfl ?_
          refine ev_iaload (z := ((o_f xk : Nat) : Int)) d_Mo_isEnding_183 rfl lx_59 (by omega) (by omega) ((o_M_at hM2 hxk).1) ?_
          refine ev_aload_n (i := 0) d_Mo_isEnding_184 rfl rfl rfl ?_
          refine ev_getR d_Mo_isEnding_185 rfl lk_Mo_52 lx_45 rfl ?_
          refine ev_iload_n (i := 2) d_Mo_isEnding_188 rfl rfl rfl ?_
          refine ev_iaload (z := ((o_t xk : Nat) : Int)) d_Mo_isEnding_189 rfl lx_60 (by omega) (by omega) ((o_M_at hM2 hxk).2.1) ?_
          refine ev_icmp_ne (tgt := 242) d_Mo_isEnding_190 (by decide) rfl (fun d1 => ?_) (fun d1 => ?_)
          · refine ev_iinc (z := (k : Int) + 1) d_Mo_isEnding_242 rfl rfl (by decide) (g_w_id (by unfold g_rg; omega)) rfl ?_
            refine ev_goto (tgt := 163) d_Mo_isEnding_245 (by decide) ?_
            exact ev_le (ih5 (L.length - (k + 1)) [some (g_r 45), some (g_i s), some (g_i ((k + 1 : Nat) : Int)), none] (by omega) ⟨k + 1, s, by omega, rfl, rfl, hs01, by rw [hsv, o_all_s hxk]; exact ⟨fun h => ⟨h, fun h9 _ => absurd (by rw [h9]) d1⟩, fun h => h.1⟩⟩) rfl ⟨rfl, rfl, rfl, trivial⟩
          · refine ev_iload_n (i := 3) d_Mo_isEnding_193 rfl rfl rfl ?_
            refine ev_iload_n (i := 3) d_Mo_isEnding_194 rfl rfl rfl ?_
            refine ev_callS (As := [g_i (((o_v xk : Nat) : Int)), g_i (((o_v xk : Nat) : Int))]) d_Mo_isEnding_195 rfl cl_Mo_212 (c_Mo_composed (d + 5) M2 xk xk (o_R_ok hP hxkR) (o_R_ok hP hxkR)) (g_hR (by decide)) g_h0 rfl rfl (Nat.le_of_ble_eq_true rfl) rfl rfl ?_
            refine ev_iload_n (i := 3) d_Mo_isEnding_198 rfl rfl rfl ?_
            refine ev_icmp_ne (tgt := 242) d_Mo_isEnding_199 (by decide) rfl (fun d2 => ?_) (fun d2 => ?_)
            · refine ev_iinc (z := (k : Int) + 1) d_Mo_isEnding_242 rfl rfl (by decide) (g_w_id (by unfold g_rg; omega)) rfl ?_
              refine ev_goto (tgt := 163) d_Mo_isEnding_245 (by decide) ?_
              exact ev_le (ih5 (L.length - (k + 1)) [some (g_r 45), some (g_i s), some (g_i ((k + 1 : Nat) : Int)), none] (by omega) ⟨k + 1, s, by omega, rfl, rfl, hs01, by rw [hsv, o_all_s hxk]; exact ⟨fun h => ⟨h, fun _ h9 => absurd (by rw [h9]) d2⟩, fun h => h.1⟩⟩) rfl ⟨rfl, rfl, rfl, trivial⟩
            · refine ev_iload_n (i := 1) d_Mo_isEnding_202 rfl rfl rfl ?_
              refine ev_if_eq (tgt := 240) d_Mo_isEnding_203 (by decide) rfl (fun d3 => ?_) (fun d3 => ?_)
              · refine ev_iconst d_Mo_isEnding_240 rfl ⟨by decide, by decide⟩ ?_
                refine ev_istore_n (i := 1) d_Mo_isEnding_241 rfl rfl (by decide) rfl ?_
                refine ev_iinc (z := (k : Int) + 1) d_Mo_isEnding_242 rfl rfl (by decide) (g_w_id (by unfold g_rg; omega)) rfl ?_
                refine ev_goto (tgt := 163) d_Mo_isEnding_245 (by decide) ?_
                exact ev_le (ih5 (L.length - (k + 1)) [some (g_r 45), some (g_i 0), some (g_i ((k + 1 : Nat) : Int)), none] (by omega) ⟨k + 1, 0, by omega, rfl, rfl, Or.inl rfl, by rw [o_all_s hxk, ← hsv]; exact ⟨fun h9 => absurd h9 (by decide), fun h9 => by first | (have h8 := h9.1; omega) | (exfalso; obtain ⟨i, hi, h7⟩ := h9.2 (by omega) ((o_cxx (o_R_ok hP hxkR)).mp (by omega)); have h6 := o_d_S.mp h7; have h5 : i = 0 ∨ i = 1 ∨ i = 2 := (by omega); rcases h5 with rfl | rfl | rfl; exact d4 (by show ((o_d xk (4 * 0) : Nat) : Int) = 2; omega); exact d5 (by show ((o_d xk (4 * 1) : Nat) : Int) = 2; omega); exact d6 (by show ((o_d xk (4 * 2) : Nat) : Int) = 2; omega))⟩⟩) rfl ⟨rfl, rfl, rfl, trivial⟩
              · refine ev_iload_n (i := 3) d_Mo_isEnding_206 rfl rfl rfl ?_
                refine ev_iconst d_Mo_isEnding_207 rfl ⟨by decide, by decide⟩ ?_
                refine ev_iconst d_Mo_isEnding_208 rfl ⟨by decide, by decide⟩ ?_
                refine ev_callS (As := [g_i (((o_v xk : Nat) : Int)), g_i 0, g_i 0]) d_Mo_isEnding_209 rfl cl_Mo_195 (c_Mo_arcAt (d + 6) M2 xk 0 0 (by decide) (by decide)) (g_hR (by decide)) g_h0 rfl rfl (Nat.le_of_ble_eq_true rfl) rfl rfl ?_
                refine ev_iconst d_Mo_isEnding_212 rfl ⟨by decide, by decide⟩ ?_
                refine ev_icmp_eq (tgt := 236) d_Mo_isEnding_213 (by decide) rfl (fun d4 => ?_) (fun d4 => ?_)
                · refine ev_iconst d_Mo_isEnding_236 rfl ⟨by decide, by decide⟩ ?_
                  refine ev_goto (tgt := 241) d_Mo_isEnding_237 (by decide) ?_
                  refine ev_istore_n (i := 1) d_Mo_isEnding_241 rfl rfl (by decide) rfl ?_
                  refine ev_iinc (z := (k : Int) + 1) d_Mo_isEnding_242 rfl rfl (by decide) (g_w_id (by unfold g_rg; omega)) rfl ?_
                  refine ev_goto (tgt := 163) d_Mo_isEnding_245 (by decide) ?_
                  exact ev_le (ih5 (L.length - (k + 1)) [some (g_r 45), some (g_i 1), some (g_i ((k + 1 : Nat) : Int)), none] (by omega) ⟨k + 1, 1, by omega, rfl, rfl, Or.inr rfl, by rw [o_all_s hxk, ← hsv]; exact ⟨fun _ => ⟨by omega, fun _ _ => by first | exact ⟨0, by decide, o_d_S.mpr (by have h9 : ((o_d xk (4 * 0) : Nat) : Int) = 2 := d4; omega)⟩ | exact ⟨1, by decide, o_d_S.mpr (by have h9 : ((o_d xk (4 * 1) : Nat) : Int) = 2 := d5; omega)⟩ | exact ⟨2, by decide, o_d_S.mpr (by have h9 : ((o_d xk (4 * 2) : Nat) : Int) = 2 := d6; omega)⟩⟩, fun _ => rfl⟩⟩) rfl ⟨rfl, rfl, rfl, trivial⟩
                · refine ev_iload_n (i := 3) d_Mo_isEnding_216 rfl rfl rfl ?_
                  refine ev_iconst d_Mo_isEnding_217 rfl ⟨by decide, by decide⟩ ?_
                  refine ev_iconst d_Mo_isEnding_218 rfl ⟨by decide, by decide⟩ ?_
                  refine ev_callS (As := [g_i (((o_v xk : Nat) : Int)), g_i 1, g_i 1]) d_Mo_isEnding_219 rfl cl_Mo_195 (c_Mo_arcAt (d + 6) M2 xk 1 1 (by decide) (by decide)) (g_hR (by decide)) g_h0 rfl rfl (Nat.le_of_ble_eq_true rfl) rfl rfl ?_
                  refine ev_iconst d_Mo_isEnding_222 rfl ⟨by decide, by decide⟩ ?_
                  refine ev_icmp_eq (tgt := 236) d_Mo_isEnding_223 (by decide) rfl (fun d5 => ?_) (fun d5 => ?_)
                  · refine ev_iconst d_Mo_isEnding_236 rfl ⟨by decide, by decide⟩ ?_
                    refine ev_goto (tgt := 241) d_Mo_isEnding_237 (by decide) ?_
                    refine ev_istore_n (i := 1) d_Mo_isEnding_241 rfl rfl (by decide) rfl ?_
                    refine ev_iinc (z := (k : Int) + 1) d_Mo_isEnding_242 rfl rfl (by decide) (g_w_id (by unfold g_rg; omega)) rfl ?_
                    refine ev_goto (tgt := 163) d_Mo_isEnding_245 (by decide) ?_
                    exact ev_le (ih5 (L.length - (k + 1)) [some (g_r 45), some (g_i 1), some (g_i ((k + 1 : Nat) : Int)), none] (by omega) ⟨k + 1, 1, by omega, rfl, rfl, Or.inr rfl, by rw [o_all_s hxk, ← hsv]; exact ⟨fun _ => ⟨by omega, fun _ _ => by first | exact ⟨0, by decide, o_d_S.mpr (by have h9 : ((o_d xk (4 * 0) : Nat) : Int) = 2 := d4; omega)⟩ | exact ⟨1, by decide, o_d_S.mpr (by have h9 : ((o_d xk (4 * 1) : Nat) : Int) = 2 := d5; omega)⟩ | exact ⟨2, by decide, o_d_S.mpr (by have h9 : ((o_d xk (4 * 2) : Nat) : Int) = 2 := d6; omega)⟩⟩, fun _ => rfl⟩⟩) rfl ⟨rfl, rfl, rfl, trivial⟩
                  · refine ev_iload_n (i := 3) d_Mo_isEnding_226 rfl rfl rfl ?_
                    refine ev_iconst d_Mo_isEnding_227 rfl ⟨by decide, by decide⟩ ?_
                    refine ev_iconst d_Mo_isEnding_228 rfl ⟨by decide, by decide⟩ ?_
                    refine ev_callS (As := [g_i (((o_v xk : Nat) : Int)), g_i 2, g_i 2]) d_Mo_isEnding_229 rfl cl_Mo_195 (c_Mo_arcAt (d + 6) M2 xk 2 2 (by decide) (by decide)) (g_hR (by decide)) g_h0 rfl rfl (Nat.le_of_ble_eq_true rfl) rfl rfl ?_
                    refine ev_iconst d_Mo_isEnding_232 rfl ⟨by decide, by decide⟩ ?_
                    refine ev_icmp_ne (tgt := 240) d_Mo_isEnding_233 (by decide) rfl (fun d6 => ?_) (fun d6 => ?_)
                    · refine ev_iconst d_Mo_isEnding_240 rfl ⟨by decide, by decide⟩ ?_
                      refine ev_istore_n (i := 1) d_Mo_isEnding_241 rfl rfl (by decide) rfl ?_
                      refine ev_iinc (z := (k : Int) + 1) d_Mo_isEnding_242 rfl rfl (by decide) (g_w_id (by unfold g_rg; omega)) rfl ?_
                      refine ev_goto (tgt := 163) d_Mo_isEnding_245 (by decide) ?_
                      exact ev_le (ih5 (L.length - (k + 1)) [some (g_r 45), some (g_i 0), some (g_i ((k + 1 : Nat) : Int)), none] (by omega) ⟨k + 1, 0, by omega, rfl, rfl, Or.inl rfl, by rw [o_all_s hxk, ← hsv]; exact ⟨fun h9 => absurd h9 (by decide), fun h9 => by first | (have h8 := h9.1; omega) | (exfalso; obtain ⟨i, hi, h7⟩ := h9.2 (by omega) ((o_cxx (o_R_ok hP hxkR)).mp (by omega)); have h6 := o_d_S.mp h7; have h5 : i = 0 ∨ i = 1 ∨ i = 2 := (by omega); rcases h5 with rfl | rfl | rfl; exact d4 (by show ((o_d xk (4 * 0) : Nat) : Int) = 2; omega); exact d5 (by show ((o_d xk (4 * 1) : Nat) : Int) = 2; omega); exact d6 (by show ((o_d xk (4 * 2) : Nat) : Int) = 2; omega))⟩⟩) rfl ⟨rfl, rfl, rfl, trivial⟩
                    · refine ev_iconst d_Mo_isEnding_236 rfl ⟨by decide, by decide⟩ ?_
                      refine ev_goto (tgt := 241) d_Mo_isEnding_237 (by decide) ?_
                      refine ev_istore_n (i := 1) d_Mo_isEnding_241 rfl rfl (by decide) rfl ?_
                      refine ev_iinc (z := (k : Int) + 1) d_Mo_isEnding_242 rfl rfl (by decide) (g_w_id (by unfold g_rg; omega)) rfl ?_
                      refine ev_goto (tgt := 163) d_Mo_isEnding_245 (by decide) ?_
                      exact ev_le (ih5 (L.length - (k + 1)) [some (g_r 45), some (g_i 1), some (g_i ((k + 1 : Nat) : Int)), none] (by omega) ⟨k + 1, 1, by omega, rfl, rfl, Or.inr rfl, by rw [o_all_s hxk, ← hsv]; exact ⟨fun _ => ⟨by omega, fun _ _ => by first | exact ⟨0, by decide, o_d_S.mpr (by have h9 : ((o_d xk (4 * 0) : Nat) : Int) = 2 := d4; omega)⟩ | exact ⟨1, by decide, o_d_S.mpr (by have h9 : ((o_d xk (4 * 1) : Nat) : Int) = 2 := d5; omega)⟩ | exact ⟨2, by decide, o_d_S.mpr (by have h9 : ((o_d xk (4 * 2) : Nat) : Int) = 2 := d6; omega)⟩⟩, fun _ => rfl⟩⟩) rfl ⟨rfl, rfl, rfl, trivial⟩
    · obtain ⟨xa, hxa⟩ : ∃ xa, L[a]? = some xa := ⟨_, List.getElem?_eq_getElem (by omega)⟩
      refine ev_iconst d_Mo_isEnding_24 rfl ⟨by decide, by decide⟩ ?_
      refine ev_istore_n (i := 2) d_Mo_isEnding_25 rfl rfl (by decide) rfl ?_
      refine ev_wh (fun n2 ls2 M3 => ∃ (b : Nat) (L3 : List Nat), b ≤ a + 1 ∧ n2 = a + 1 - b ∧ ls2 = [some (g_r 45), some (g_i (a : Int)), some (g_i (b : Int)), none] ∧ f61 M M3 ∧ o_M M M3 L3 ∧ (∀ y ∈ l0, y ∈ L3) ∧ L3[a]? = some xa ∧ (L3.length < 201 → (∀ p q x y : Nat, p < a → q < a → L3[p]? = some x → L3[q]? = some y → o_t x = o_f y → o_c x y ∈ L3) ∧ (∀ q y : Nat, q < b → L3[q]? = some y → o_t xa = o_f y → o_c xa y ∈ L3) ∧ (∀ q y : Nat, q < b → L3[q]? = some y → o_t y = o_f xa → o_c y xa ∈ L3))) ?_ (n := (a + 1)) (⟨0, L, Nat.zero_le _, rfl, rfl, hf2, hM2, hs2, hxa, fun h9 => ⟨fun p q x y hp hq => hc2 h9 p q x y hp hq, fun q y hq => by omega, fun q y hq => by omega⟩⟩)
      intro n2 ls2 M3 hP2 ih2
      obtain ⟨b, L3, hb, hn2, rfl, hf3, hM3, hs3, hxa3, hc3⟩ := hP2
      have hL3 := hM3.1
      have ha3 := (List.getElem?_eq_some_iff.mp hxa3).1
      refine ev_iload_n (i := 2) d_Mo_isEnding_26 rfl rfl rfl ?_
      refine ev_iload_n (i := 1) d_Mo_isEnding_27 rfl rfl rfl ?_
      refine ev_icmp_gt (tgt := 139) d_Mo_isEnding_28 (by decide) rfl (fun hz2 => ?_) (fun hz2 => ?_)
      · refine ev_iinc (z := (a : Int) + 1) d_Mo_isEnding_139 rfl rfl (by decide) (g_w_id (by unfold g_rg; omega)) rfl ?_
        refine ev_goto (tgt := 6) d_Mo_isEnding_142 (by decide) ?_
        refine ev_le (ih (201 - (a + 1)) [some (g_r 45), some (g_i ((a + 1 : Nat) : Int)), none, none] M3 (by omega) ⟨a + 1, L3, by omega, rfl, rfl, hf3, hM3, hs3, fun h9 p q x y hp hq hpx hqy ht => ?_⟩) rfl ⟨rfl, rfl, trivial⟩
        have hba : b = a + 1 := by omega
        obtain ⟨k1, k2, k3⟩ := hc3 h9
        by_cases hpa : p = a
        · subst hpa
          have ex : x = xa := by rw [hxa3] at hpx; simpa using hpx.symm
          rw [ex] at ht ⊢
          exact k2 q y (by omega) hqy ht
        · by_cases hqa : q = a
          · subst hqa
            have ey : y = xa := by rw [hxa3] at hqy; simpa using hqy.symm
            rw [ey] at ht ⊢
            exact k3 p x (by omega) hpx ht
          · exact k1 p q x y (by omega) (by omega) hpx hqy ht
      · refine ev_aload_n (i := 0) d_Mo_isEnding_31 rfl rfl rfl ?_
        refine ev_getI (z := (L3.length : Int)) d_Mo_isEnding_32 rfl lk_Mo_192 lx_45 rfl (hM3.2.2.2.1) ?_
        refine ev_sipush d_Mo_isEnding_35 rfl (by decide +kernel) ⟨by decide, by decide⟩ ?_
        refine ev_icmp_ge (tgt := 139) d_Mo_isEnding_38 (by decide) rfl (fun hz3 => ?_) (fun hz3 => ?_)
        · refine ev_iinc (z := (a : Int) + 1) d_Mo_isEnding_139 rfl rfl (by decide) (g_w_id (by unfold g_rg; omega)) rfl ?_
          refine ev_goto (tgt := 6) d_Mo_isEnding_142 (by decide) ?_
          refine ev_le (ih (201 - (a + 1)) [some (g_r 45), some (g_i ((a + 1 : Nat) : Int)), none, none] M3 (by omega) ⟨a + 1, L3, by omega, rfl, rfl, hf3, hM3, hs3, fun h9 p q x y hp hq hpx hqy ht => ?_⟩) rfl ⟨rfl, rfl, trivial⟩
          have hba : b = a + 1 := by omega
          obtain ⟨k1, k2, k3⟩ := hc3 h9
          by_cases hpa : p = a
          · subst hpa
            have ex : x = xa := by rw [hxa3] at hpx; simpa using hpx.symm
            rw [ex] at ht ⊢
            exact k2 q y (by omega) hqy ht
          · by_cases hqa : q = a
            · subst hqa
              have ey : y = xa := by rw [hxa3] at hqy; simpa using hqy.symm
              rw [ey] at ht ⊢
              exact k3 p x (by omega) hpx ht
            · exact k1 p q x y (by omega) (by omega) hpx hqy ht
        · obtain ⟨yb, hyb⟩ : ∃ yb, L3[b]? = some yb := ⟨_, List.getElem?_eq_getElem (by omega)⟩
          have hxaR := hM3.2.2.1 xa (List.mem_of_getElem? hxa3)
          have hybR := hM3.2.2.1 yb (List.mem_of_getElem? hyb)
          refine ev_aload_n (i := 0) d_Mo_isEnding_41 rfl rfl rfl ?_
          refine ev_getR d_Mo_isEnding_42 rfl lk_Mo_52 lx_45 rfl ?_
          refine ev_iload_n (i := 1) d_Mo_isEnding_45 rfl rfl rfl ?_
          refine ev_iaload (z := ((o_t xa : Nat) : Int)) d_Mo_isEnding_46 rfl lx_60 (by omega) (by omega) ((o_M_at hM3 hxa3).2.1) ?_
          refine ev_aload_n (i := 0) d_Mo_isEnding_47 rfl rfl rfl ?_
          refine ev_getR d_Mo_isEnding_48 rfl lk_Mo_49 lx_45 rfl ?_
          refine ev_iload_n (i := 2) d_Mo_isEnding_51 rfl rfl rfl ?_
          refine ev_iaload (z := ((o_f yb : Nat) : Int)) d_Mo_isEnding_52 rfl lx_59 (by omega) (by omega) ((o_M_at hM3 hyb).1) ?_
          refine ev_icmp_ne (tgt := 87) d_Mo_isEnding_53 (by decide) rfl (fun c1 => ?_) (fun c1 => ?_)
          · have hfA : f61 M M3 := hf3
            have hMA := hM3
            have hsubA : ∀ y ∈ L3, y ∈ L3 := fun y hy => hy
            have hgetA : ∀ q x : Nat, L3[q]? = some x → L3[q]? = some x := fun q x h => h
            have hbackA : ∀ q x : Nat, q ≤ a → L3[q]? = some x → L3[q]? = some x := fun q x hq h => h
            have hinA : o_t xa = o_f yb → o_c xa yb ∈ L3 ∨ L3.length = 201 := fun h9 => absurd (by rw [h9]) c1
            have hleA : L3.length ≤ L3.length := Nat.le_refl _
            refine ev_aload_n (i := 0) d_Mo_isEnding_87 rfl rfl rfl ?_
            refine ev_getR d_Mo_isEnding_88 rfl lk_Mo_52 lx_45 rfl ?_
            refine ev_iload_n (i := 2) d_Mo_isEnding_91 rfl rfl rfl ?_
            refine ev_iaload (z := ((o_t yb : Nat) : Int)) d_Mo_isEnding_92 rfl lx_60 (by omega) (by omega) ((o_M_at hMA (hgetA _ _ hyb)).2.1) ?_
            refine ev_aload_n (i := 0) d_Mo_isEnding_93 rfl rfl rfl ?_
            refine ev_getR d_Mo_isEnding_94 rfl lk_Mo_49 lx_45 rfl ?_
            refine ev_iload_n (i := 1) d_Mo_isEnding_97 rfl rfl rfl ?_
            refine ev_iaload (z := ((o_f xa : Nat) : Int)) d_Mo_isEnding_98 rfl lx_59 (by omega) (by omega) ((o_M_at hMA (hgetA _ _ hxa3)).1) ?_
            refine ev_icmp_ne (tgt := 133) d_Mo_isEnding_99 (by decide) rfl (fun c2 => ?_) (fun c2 => ?_)
            · have hfB := hfA
              have hMB := hMA
              have hsubB : ∀ y ∈ L3, y ∈ L3 := hsubA
              have hgetB : ∀ q x : Nat, L3[q]? = some x → L3[q]? = some x := hgetA
              have hbackB : ∀ q x : Nat, q ≤ a → L3[q]? = some x → L3[q]? = some x := hbackA
              have hinA2 : o_t xa = o_f yb → o_c xa yb ∈ L3 ∨ L3.length = 201 := hinA
              have hinB : o_t yb = o_f xa → o_c yb xa ∈ L3 ∨ L3.length = 201 := fun h9 => absurd (by rw [h9]) c2
              have hleB : L3.length ≤ L3.length := hleA
              refine ev_iinc (z := (b : Int) + 1) d_Mo_isEnding_133 rfl rfl (by decide) (g_w_id (by unfold g_rg; omega)) rfl ?_
              refine ev_goto (tgt := 26) d_Mo_isEnding_136 (by decide) ?_
              have hlB : L3.length < 201 → L3.length < 201 := fun h9 => Nat.lt_of_le_of_lt hleB h9
              refine ev_le (ih2 (a + 1 - (b + 1)) [some (g_r 45), some (g_i (a : Int)), some (g_i ((b + 1 : Nat) : Int)), none] M3 (by omega) ⟨b + 1, L3, by omega, rfl, rfl, hfB, hMB, fun y hy => hsubB y (hs3 y hy), hgetB a xa hxa3, fun h9 => ⟨fun p q x y hp hq hpx hqy ht => ?_, fun q y hq hqy ht => ?_, fun q y hq hqy ht => ?_⟩⟩) rfl ⟨rfl, rfl, rfl, trivial⟩
              · have hp3 : L3[p]? = some x := hbackB p x (by omega) hpx
                have hq3 : L3[q]? = some y := hbackB q y (by omega) hqy
                exact hsubB _ ((hc3 (hlB h9)).1 p q x y hp hq hp3 hq3 ht)
              · have hq3 : L3[q]? = some y := hbackB q y (by omega) hqy
                by_cases hqb : q = b
                · subst hqb
                  have ey : y = yb := by rw [hyb] at hq3; simpa using hq3.symm
                  rw [ey] at ht ⊢
                  exact (hinA2 ht).resolve_right (by omega)
                · exact hsubB _ ((hc3 (hlB h9)).2.1 q y (by omega) hq3 ht)
              · have hq3 : L3[q]? = some y := hbackB q y (by omega) hqy
                by_cases hqb : q = b
                · subst hqb
                  have ey : y = yb := by rw [hyb] at hq3; simpa using hq3.symm
                  rw [ey] at ht ⊢
                  exact (hinB ht).resolve_right (by omega)
                · exact hsubB _ ((hc3 (hlB h9)).2.2 q y (by omega) hq3 ht)
            · refine ev_aload_n (i := 0) d_Mo_isEnding_102 rfl rfl rfl ?_
              refine ev_aload_n (i := 0) d_Mo_isEnding_103 rfl rfl rfl ?_
              refine ev_getR d_Mo_isEnding_104 rfl lk_Mo_49 lx_45 rfl ?_
              refine ev_iload_n (i := 2) d_Mo_isEnding_107 rfl rfl rfl ?_
              refine ev_iaload (z := ((o_f yb : Nat) : Int)) d_Mo_isEnding_108 rfl lx_59 (by omega) (by omega) ((o_M_at hMA (hgetA _ _ hyb)).1) ?_
              refine ev_aload_n (i := 0) d_Mo_isEnding_109 rfl rfl rfl ?_
              refine ev_getR d_Mo_isEnding_110 rfl lk_Mo_52 lx_45 rfl ?_
              refine ev_iload_n (i := 1) d_Mo_isEnding_113 rfl rfl rfl ?_
              refine ev_iaload (z := ((o_t xa : Nat) : Int)) d_Mo_isEnding_114 rfl lx_60 (by omega) (by omega) ((o_M_at hMA (hgetA _ _ hxa3)).2.1) ?_
              refine ev_aload_n (i := 0) d_Mo_isEnding_115 rfl rfl rfl ?_
              refine ev_getR d_Mo_isEnding_116 rfl lk_Mo_55 lx_45 rfl ?_
              refine ev_iload_n (i := 2) d_Mo_isEnding_119 rfl rfl rfl ?_
              refine ev_iaload (z := ((o_v yb : Nat) : Int)) d_Mo_isEnding_120 rfl lx_61 (by omega) (by omega) ((o_M_at hMA (hgetA _ _ hyb)).2.2) ?_
              refine ev_aload_n (i := 0) d_Mo_isEnding_121 rfl rfl rfl ?_
              refine ev_getR d_Mo_isEnding_122 rfl lk_Mo_55 lx_45 rfl ?_
              refine ev_iload_n (i := 1) d_Mo_isEnding_125 rfl rfl rfl ?_
              refine ev_iaload (z := ((o_v xa : Nat) : Int)) d_Mo_isEnding_126 rfl lx_61 (by omega) (by omega) ((o_M_at hMA (hgetA _ _ hxa3)).2.2) ?_
              refine ev_callS (As := [g_i (((o_v yb : Nat) : Int)), g_i (((o_v xa : Nat) : Int))]) d_Mo_isEnding_127 rfl cl_Mo_212 (c_Mo_composed (d + 5) M3 yb xa (o_R_ok hP hybR) (o_R_ok hP hxaR)) (g_hR (by decide)) g_h0 rfl rfl (Nat.le_of_ble_eq_true rfl) rfl rfl ?_
              refine ev_callVR (As := [g_i (((o_f yb : Nat) : Int)), g_i (((o_t xa : Nat) : Int)), g_i ((o_v (o_c yb xa) : Nat) : Int)]) d_Mo_isEnding_130 rfl cl_Mo_205 (by rw [show ((o_f yb : Nat) : Int) = ((o_f (o_c yb xa) : Nat) : Int) by rw [o_c_f], show ((o_t xa : Nat) : Int) = ((o_t (o_c yb xa) : Nat) : Int) by rw [o_c_t]]; exact c_Mo_addGraph (d + 6) M M3 (o_c yb xa) L3 hP hMA (o_R_c hybR hxaR (by omega))) (g_hR (by decide)) g_h0 lx_45 rfl rfl (Nat.le_of_ble_eq_true rfl) rfl rfl (fun M6 v9 g9 => ?_)
              obtain ⟨rfl, hf6, e6, hM6, he6, hx6⟩ := g9
              have hfB := hfA.tr hf6
              have hMB := hM6
              have hsubB : ∀ y ∈ L3, y ∈ (L3 ++ e6) := fun y hy => List.mem_append_left _ (hsubA y hy)
              have hgetB : ∀ q x : Nat, L3[q]? = some x → (L3 ++ e6)[q]? = some x := fun q x h => z_app_get (hgetA q x h)
              have hbackB : ∀ q x : Nat, q ≤ a → (L3 ++ e6)[q]? = some x → L3[q]? = some x := fun q x hq h => hbackA q x hq (by rw [List.getElem?_append_left (by omega)] at h; exact h)
              have hinA2 : o_t xa = o_f yb → o_c xa yb ∈ (L3 ++ e6) ∨ (L3 ++ e6).length = 201 := fun h9 => (hinA h9).imp (fun h8 => List.mem_append_left _ h8) (fun h8 => by have h7 := hMB.1; rw [List.length_append] at h7 ⊢; omega)
              have hinB : o_t yb = o_f xa → o_c yb xa ∈ (L3 ++ e6) ∨ (L3 ++ e6).length = 201 := fun _ => hx6
              have hleB : L3.length ≤ (L3 ++ e6).length := by have h9 : (L3 ++ e6).length = L3.length + e6.length := List.length_append; omega
              refine ev_iinc (z := (b : Int) + 1) d_Mo_isEnding_133 rfl rfl (by decide) (g_w_id (by unfold g_rg; omega)) rfl ?_
              refine ev_goto (tgt := 26) d_Mo_isEnding_136 (by decide) ?_
              have hlB : (L3 ++ e6).length < 201 → L3.length < 201 := fun h9 => Nat.lt_of_le_of_lt hleB h9
              refine ev_le (ih2 (a + 1 - (b + 1)) [some (g_r 45), some (g_i (a : Int)), some (g_i ((b + 1 : Nat) : Int)), none] M6 (by omega) ⟨b + 1, (L3 ++ e6), by omega, rfl, rfl, hfB, hMB, fun y hy => hsubB y (hs3 y hy), hgetB a xa hxa3, fun h9 => ⟨fun p q x y hp hq hpx hqy ht => ?_, fun q y hq hqy ht => ?_, fun q y hq hqy ht => ?_⟩⟩) rfl ⟨rfl, rfl, rfl, trivial⟩
              · have hp3 : L3[p]? = some x := hbackB p x (by omega) hpx
                have hq3 : L3[q]? = some y := hbackB q y (by omega) hqy
                exact hsubB _ ((hc3 (hlB h9)).1 p q x y hp hq hp3 hq3 ht)
              · have hq3 : L3[q]? = some y := hbackB q y (by omega) hqy
                by_cases hqb : q = b
                · subst hqb
                  have ey : y = yb := by rw [hyb] at hq3; simpa using hq3.symm
                  rw [ey] at ht ⊢
                  exact (hinA2 ht).resolve_right (by omega)
                · exact hsubB _ ((hc3 (hlB h9)).2.1 q y (by omega) hq3 ht)
              · have hq3 : L3[q]? = some y := hbackB q y (by omega) hqy
                by_cases hqb : q = b
                · subst hqb
                  have ey : y = yb := by rw [hyb] at hq3; simpa using hq3.symm
                  rw [ey] at ht ⊢
                  exact (hinB ht).resolve_right (by omega)
                · exact hsubB _ ((hc3 (hlB h9)).2.2 q y (by omega) hq3 ht)
          · refine ev_aload_n (i := 0) d_Mo_isEnding_56 rfl rfl rfl ?_
            refine ev_aload_n (i := 0) d_Mo_isEnding_57 rfl rfl rfl ?_
            refine ev_getR d_Mo_isEnding_58 rfl lk_Mo_49 lx_45 rfl ?_
            refine ev_iload_n (i := 1) d_Mo_isEnding_61 rfl rfl rfl ?_
            refine ev_iaload (z := ((o_f xa : Nat) : Int)) d_Mo_isEnding_62 rfl lx_59 (by omega) (by omega) ((o_M_at hM3 hxa3).1) ?_
            refine ev_aload_n (i := 0) d_Mo_isEnding_63 rfl rfl rfl ?_
            refine ev_getR d_Mo_isEnding_64 rfl lk_Mo_52 lx_45 rfl ?_
            refine ev_iload_n (i := 2) d_Mo_isEnding_67 rfl rfl rfl ?_
            refine ev_iaload (z := ((o_t yb : Nat) : Int)) d_Mo_isEnding_68 rfl lx_60 (by omega) (by omega) ((o_M_at hM3 hyb).2.1) ?_
            refine ev_aload_n (i := 0) d_Mo_isEnding_69 rfl rfl rfl ?_
            refine ev_getR d_Mo_isEnding_70 rfl lk_Mo_55 lx_45 rfl ?_
            refine ev_iload_n (i := 1) d_Mo_isEnding_73 rfl rfl rfl ?_
            refine ev_iaload (z := ((o_v xa : Nat) : Int)) d_Mo_isEnding_74 rfl lx_61 (by omega) (by omega) ((o_M_at hM3 hxa3).2.2) ?_
            refine ev_aload_n (i := 0) d_Mo_isEnding_75 rfl rfl rfl ?_
            refine ev_getR d_Mo_isEnding_76 rfl lk_Mo_55 lx_45 rfl ?_
            refine ev_iload_n (i := 2) d_Mo_isEnding_79 rfl rfl rfl ?_
            refine ev_iaload (z := ((o_v yb : Nat) : Int)) d_Mo_isEnding_80 rfl lx_61 (by omega) (by omega) ((o_M_at hM3 hyb).2.2) ?_
            refine ev_callS (As := [g_i (((o_v xa : Nat) : Int)), g_i (((o_v yb : Nat) : Int))]) d_Mo_isEnding_81 rfl cl_Mo_212 (c_Mo_composed (d + 5) M3 xa yb (o_R_ok hP hxaR) (o_R_ok hP hybR)) (g_hR (by decide)) g_h0 rfl rfl (Nat.le_of_ble_eq_true rfl) rfl rfl ?_
            refine ev_callVR (As := [g_i (((o_f xa : Nat) : Int)), g_i (((o_t yb : Nat) : Int)), g_i ((o_v (o_c xa yb) : Nat) : Int)]) d_Mo_isEnding_84 rfl cl_Mo_205 (by rw [show ((o_f xa : Nat) : Int) = ((o_f (o_c xa yb) : Nat) : Int) by rw [o_c_f], show ((o_t yb : Nat) : Int) = ((o_t (o_c xa yb) : Nat) : Int) by rw [o_c_t]]; exact c_Mo_addGraph (d + 6) M M3 (o_c xa yb) L3 hP hM3 (o_R_c hxaR hybR (by omega))) (g_hR (by decide)) g_h0 lx_45 rfl rfl (Nat.le_of_ble_eq_true rfl) rfl rfl (fun M4 v9 g9 => ?_)
            obtain ⟨rfl, hf4, e4, hM4, he4, hx4⟩ := g9
            have hfA : f61 M M4 := hf3.tr hf4
            have hMA := hM4
            have hsubA : ∀ y ∈ L3, y ∈ L3 ++ e4 := fun y hy => List.mem_append_left _ hy
            have hgetA : ∀ q x : Nat, L3[q]? = some x → (L3 ++ e4)[q]? = some x := fun q x h => z_app_get h
            have hbackA : ∀ q x : Nat, q ≤ a → (L3 ++ e4)[q]? = some x → L3[q]? = some x := fun q x hq h => by rw [List.getElem?_append_left (by omega)] at h; exact h
            have hinA : o_t xa = o_f yb → o_c xa yb ∈ L3 ++ e4 ∨ (L3 ++ e4).length = 201 := fun _ => hx4
            have hleA : L3.length ≤ (L3 ++ e4).length := by rw [List.length_append]; omega
            refine ev_aload_n (i := 0) d_Mo_isEnding_87 rfl rfl rfl ?_
            refine ev_getR d_Mo_isEnding_88 rfl lk_Mo_52 lx_45 rfl ?_
            refine ev_iload_n (i := 2) d_Mo_isEnding_91 rfl rfl rfl ?_
            refine ev_iaload (z := ((o_t yb : Nat) : Int)) d_Mo_isEnding_92 rfl lx_60 (by omega) (by omega) ((o_M_at hMA (hgetA _ _ hyb)).2.1) ?_
            refine ev_aload_n (i := 0) d_Mo_isEnding_93 rfl rfl rfl ?_
            refine ev_getR d_Mo_isEnding_94 rfl lk_Mo_49 lx_45 rfl ?_
            refine ev_iload_n (i := 1) d_Mo_isEnding_97 rfl rfl rfl ?_
            refine ev_iaload (z := ((o_f xa : Nat) : Int)) d_Mo_isEnding_98 rfl lx_59 (by omega) (by omega) ((o_M_at hMA (hgetA _ _ hxa3)).1) ?_
            refine ev_icmp_ne (tgt := 133) d_Mo_isEnding_99 (by decide) rfl (fun c2 => ?_) (fun c2 => ?_)
            · have hfB := hfA
              have hMB := hMA
              have hsubB : ∀ y ∈ L3, y ∈ (L3 ++ e4) := hsubA
              have hgetB : ∀ q x : Nat, L3[q]? = some x → (L3 ++ e4)[q]? = some x := hgetA
              have hbackB : ∀ q x : Nat, q ≤ a → (L3 ++ e4)[q]? = some x → L3[q]? = some x := hbackA
              have hinA2 : o_t xa = o_f yb → o_c xa yb ∈ (L3 ++ e4) ∨ (L3 ++ e4).length = 201 := hinA
              have hinB : o_t yb = o_f xa → o_c yb xa ∈ (L3 ++ e4) ∨ (L3 ++ e4).length = 201 := fun h9 => absurd (by rw [h9]) c2
              have hleB : L3.length ≤ (L3 ++ e4).length := hleA
              refine ev_iinc (z := (b : Int) + 1) d_Mo_isEnding_133 rfl rfl (by decide) (g_w_id (by unfold g_rg; omega)) rfl ?_
              refine ev_goto (tgt := 26) d_Mo_isEnding_136 (by decide) ?_
              have hlB : (L3 ++ e4).length < 201 → L3.length < 201 := fun h9 => Nat.lt_of_le_of_lt hleB h9
              refine ev_le (ih2 (a + 1 - (b + 1)) [some (g_r 45), some (g_i (a : Int)), some (g_i ((b + 1 : Nat) : Int)), none] M4 (by omega) ⟨b + 1, (L3 ++ e4), by omega, rfl, rfl, hfB, hMB, fun y hy => hsubB y (hs3 y hy), hgetB a xa hxa3, fun h9 => ⟨fun p q x y hp hq hpx hqy ht => ?_, fun q y hq hqy ht => ?_, fun q y hq hqy ht => ?_⟩⟩) rfl ⟨rfl, rfl, rfl, trivial⟩
              · have hp3 : L3[p]? = some x := hbackB p x (by omega) hpx
                have hq3 : L3[q]? = some y := hbackB q y (by omega) hqy
                exact hsubB _ ((hc3 (hlB h9)).1 p q x y hp hq hp3 hq3 ht)
              · have hq3 : L3[q]? = some y := hbackB q y (by omega) hqy
                by_cases hqb : q = b
                · subst hqb
                  have ey : y = yb := by rw [hyb] at hq3; simpa using hq3.symm
                  rw [ey] at ht ⊢
                  exact (hinA2 ht).resolve_right (by omega)
                · exact hsubB _ ((hc3 (hlB h9)).2.1 q y (by omega) hq3 ht)
              · have hq3 : L3[q]? = some y := hbackB q y (by omega) hqy
                by_cases hqb : q = b
                · subst hqb
                  have ey : y = yb := by rw [hyb] at hq3; simpa using hq3.symm
                  rw [ey] at ht ⊢
                  exact (hinB ht).resolve_right (by omega)
                · exact hsubB _ ((hc3 (hlB h9)).2.2 q y (by omega) hq3 ht)
            · refine ev_aload_n (i := 0) d_Mo_isEnding_102 rfl rfl rfl ?_
              refine ev_aload_n (i := 0) d_Mo_isEnding_103 rfl rfl rfl ?_
              refine ev_getR d_Mo_isEnding_104 rfl lk_Mo_49 lx_45 rfl ?_
              refine ev_iload_n (i := 2) d_Mo_isEnding_107 rfl rfl rfl ?_
              refine ev_iaload (z := ((o_f yb : Nat) : Int)) d_Mo_isEnding_108 rfl lx_59 (by omega) (by omega) ((o_M_at hMA (hgetA _ _ hyb)).1) ?_
              refine ev_aload_n (i := 0) d_Mo_isEnding_109 rfl rfl rfl ?_
              refine ev_getR d_Mo_isEnding_110 rfl lk_Mo_52 lx_45 rfl ?_
              refine ev_iload_n (i := 1) d_Mo_isEnding_113 rfl rfl rfl ?_
              refine ev_iaload (z := ((o_t xa : Nat) : Int)) d_Mo_isEnding_114 rfl lx_60 (by omega) (by omega) ((o_M_at hMA (hgetA _ _ hxa3)).2.1) ?_
              refine ev_aload_n (i := 0) d_Mo_isEnding_115 rfl rfl rfl ?_
              refine ev_getR d_Mo_isEnding_116 rfl lk_Mo_55 lx_45 rfl ?_
              refine ev_iload_n (i := 2) d_Mo_isEnding_119 rfl rfl rfl ?_
              refine ev_iaload (z := ((o_v yb : Nat) : Int)) d_Mo_isEnding_120 rfl lx_61 (by omega) (by omega) ((o_M_at hMA (hgetA _ _ hyb)).2.2) ?_
              refine ev_aload_n (i := 0) d_Mo_isEnding_121 rfl rfl rfl ?_
              refine ev_getR d_Mo_isEnding_122 rfl lk_Mo_55 lx_45 rfl ?_
              refine ev_iload_n (i := 1) d_Mo_isEnding_125 rfl rfl rfl ?_
              refine ev_iaload (z := ((o_v xa : Nat) : Int)) d_Mo_isEnding_126 rfl lx_61 (by omega) (by omega) ((o_M_at hMA (hgetA _ _ hxa3)).2.2) ?_
              refine ev_callS (As := [g_i (((o_v yb : Nat) : Int)), g_i (((o_v xa : Nat) : Int))]) d_Mo_isEnding_127 rfl cl_Mo_212 (c_Mo_composed (d + 5) M4 yb xa (o_R_ok hP hybR) (o_R_ok hP hxaR)) (g_hR (by decide)) g_h0 rfl rfl (Nat.le_of_ble_eq_true rfl) rfl rfl ?_
              refine ev_callVR (As := [g_i (((o_f yb : Nat) : Int)), g_i (((o_t xa : Nat) : Int)), g_i ((o_v (o_c yb xa) : Nat) : Int)]) d_Mo_isEnding_130 rfl cl_Mo_205 (by rw [show ((o_f yb : Nat) : Int) = ((o_f (o_c yb xa) : Nat) : Int) by rw [o_c_f], show ((o_t xa : Nat) : Int) = ((o_t (o_c yb xa) : Nat) : Int) by rw [o_c_t]]; exact c_Mo_addGraph (d + 6) M M4 (o_c yb xa) (L3 ++ e4) hP hMA (o_R_c hybR hxaR (by omega))) (g_hR (by decide)) g_h0 lx_45 rfl rfl (Nat.le_of_ble_eq_true rfl) rfl rfl (fun M6 v9 g9 => ?_)
              obtain ⟨rfl, hf6, e6, hM6, he6, hx6⟩ := g9
              have hfB := hfA.tr hf6
              have hMB := hM6
              have hsubB : ∀ y ∈ L3, y ∈ ((L3 ++ e4) ++ e6) := fun y hy => List.mem_append_left _ (hsubA y hy)
              have hgetB : ∀ q x : Nat, L3[q]? = some x → ((L3 ++ e4) ++ e6)[q]? = some x := fun q x h => z_app_get (hgetA q x h)
              have hbackB : ∀ q x : Nat, q ≤ a → ((L3 ++ e4) ++ e6)[q]? = some x → L3[q]? = some x := fun q x hq h => hbackA q x hq (by rw [List.getElem?_append_left (by omega)] at h; exact h)
              have hinA2 : o_t xa = o_f yb → o_c xa yb ∈ ((L3 ++ e4) ++ e6) ∨ ((L3 ++ e4) ++ e6).length = 201 := fun h9 => (hinA h9).imp (fun h8 => List.mem_append_left _ h8) (fun h8 => by have h7 := hMB.1; rw [List.length_append] at h7 ⊢; omega)
              have hinB : o_t yb = o_f xa → o_c yb xa ∈ ((L3 ++ e4) ++ e6) ∨ ((L3 ++ e4) ++ e6).length = 201 := fun _ => hx6
              have hleB : L3.length ≤ ((L3 ++ e4) ++ e6).length := by have h9 : ((L3 ++ e4) ++ e6).length = (L3 ++ e4).length + e6.length := List.length_append; omega
              refine ev_iinc (z := (b : Int) + 1) d_Mo_isEnding_133 rfl rfl (by decide) (g_w_id (by unfold g_rg; omega)) rfl ?_
              refine ev_goto (tgt := 26) d_Mo_isEnding_136 (by decide) ?_
              have hlB : ((L3 ++ e4) ++ e6).length < 201 → L3.length < 201 := fun h9 => Nat.lt_of_le_of_lt hleB h9
              refine ev_le (ih2 (a + 1 - (b + 1)) [some (g_r 45), some (g_i (a : Int)), some (g_i ((b + 1 : Nat) : Int)), none] M6 (by omega) ⟨b + 1, ((L3 ++ e4) ++ e6), by omega, rfl, rfl, hfB, hMB, fun y hy => hsubB y (hs3 y hy), hgetB a xa hxa3, fun h9 => ⟨fun p q x y hp hq hpx hqy ht => ?_, fun q y hq hqy ht => ?_, fun q y hq hqy ht => ?_⟩⟩) rfl ⟨rfl, rfl, rfl, trivial⟩
              · have hp3 : L3[p]? = some x := hbackB p x (by omega) hpx
                have hq3 : L3[q]? = some y := hbackB q y (by omega) hqy
                exact hsubB _ ((hc3 (hlB h9)).1 p q x y hp hq hp3 hq3 ht)
              · have hq3 : L3[q]? = some y := hbackB q y (by omega) hqy
                by_cases hqb : q = b
                · subst hqb
                  have ey : y = yb := by rw [hyb] at hq3; simpa using hq3.symm
                  rw [ey] at ht ⊢
                  exact (hinA2 ht).resolve_right (by omega)
                · exact hsubB _ ((hc3 (hlB h9)).2.1 q y (by omega) hq3 ht)
              · have hq3 : L3[q]? = some y := hbackB q y (by omega) hqy
                by_cases hqb : q = b
                · subst hqb
                  have ey : y = yb := by rw [hyb] at hq3; simpa using hq3.symm
                  rw [ey] at ht ⊢
                  exact (hinB ht).resolve_right (by omega)
                · exact hsubB _ ((hc3 (hlB h9)).2.2 q y (by omega) hq3 ht)
