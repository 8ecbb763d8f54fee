theorem g74.f {fr : Nat} {M M1 : g_M} (h : g74 fr M M1) : u_f M M1 := fun k b h1 h2 => h k b (by omega)
theorem q_w_v {M : g_M} {t : Nat} (h : M 52 t < 8) : q_w M t = 0 := by unfold q_w; rw [if_pos h]
theorem q_w_c {M : g_M} {t : Nat} (h : 8 ≤ M 52 t) (h2 : M 52 t < 16) : q_w M t = M 47 (M 52 t - 8).toNat := by unfold q_w; rw [if_neg (by omega), if_pos h2]
theorem c_Mo_matches (d : Nat) (M : g_M) (M1 : g_M) (p x fr : Nat) (t : u_F) (b : Nat → u_F) (hf : u_f M M1) (hT : q_T M) (hrt : ∀ t : Nat, (t : Int) < M 45 8 → r_t M t) (hp : (p : Int) < M 45 8) (hp2 : M 54 p ≤ 2) (hq16 : ∀ x ∈ q_pl M p, M 52 x < 16) (hnv : M1 45 29 ≤ 730) (ht : u_rm M1 t x) (hfr : fr ≤ 200) (hb : u_b1 M1 fr b) : ConR y_Mo_matches w_Mo_matches (g_rm (d + 1)) LX M1 [g_r 45, g_i (p : Int), g_i (x : Int), g_i (fr : Int)] LX (fun M2 v2 => v2 = some (g_i (if (u_m M p t b).1 = true then 1 else 0)) ∧ g74 fr M1 M2 ∧ u_b1 M2 fr (u_m M p t b).2) := by
  refine con_ofR (av := [g_r 45, g_i (p : Int), g_i (x : Int), g_i (fr : Int)]) (ls0 := [some (g_r 45), some (g_i (p : Int)), some (g_i (x : Int)), some (g_i (fr : Int)), none, none, none, none]) (by decide) rfl (Nat.le_of_ble_eq_true rfl) (g_hls (av := [g_r 45, g_i (p : Int), g_i (x : Int), g_i (fr : Int)]) (k := 4)) (fun _ h9 => List.mem_cons_of_mem _ h9) ?_
  obtain ⟨c, l, rfl, hok, hmk, hwt, hrow⟩ := u_rp_nd ht
  have hx7 : (x : Int) < 730 := by have : (x : Int) < M1 45 29 := hok; omega
  obtain ⟨q1, q2, q3, q4, q5, -, -⟩ := hT.2.2 p hp
  have hn100 := hT.2.1
  have hp100 : p < 100 := by omega
  obtain ⟨w, hw⟩ : ∃ w : Nat, q_w M p = w := ⟨(q_w M p).toNat, by omega⟩
  have h52 : ∀ y, M1 52 y = M 52 y := fun y => hf 52 _ (by decide) (by omega)
  refine ev_aload_n (i := 0) d_Mo_matches_0 rfl rfl rfl ?_
  refine ev_getR d_Mo_matches_1 rfl lk_Mo_28 lx_45 rfl ?_
  refine ev_iload_n (i := 1) d_Mo_matches_4 rfl rfl rfl ?_
  refine ev_iaload (z := M 52 p) d_Mo_matches_5 rfl lx_52 (by omega) (by omega) (h52 p) ?_
  refine ev_bipush d_Mo_matches_6 rfl (by decide +kernel) ⟨by decide, by decide⟩ ?_
  refine ev_icmp_ge (tgt := 30) d_Mo_matches_8 (by decide) rfl (fun h8 => ?_) (fun h8 => ?_)
  · refine ev_aload_n (i := 0) d_Mo_matches_30 rfl rfl rfl ?_
    refine ev_getR d_Mo_matches_31 rfl lk_Mo_28 lx_45 rfl ?_
    refine ev_iload_n (i := 1) d_Mo_matches_34 rfl rfl rfl ?_
    refine ev_iaload (z := M 52 p) d_Mo_matches_35 rfl lx_52 (by omega) (by omega) (h52 p) ?_
    refine ev_bipush d_Mo_matches_36 rfl (by decide +kernel) ⟨by decide, by decide⟩ ?_
    refine ev_isub (z := M 52 p - 8) d_Mo_matches_38 rfl (g_w_id (by unfold g_rg; omega)) ?_
    refine ev_aload_n (i := 0) d_Mo_matches_39 rfl rfl rfl ?_
    refine ev_getR d_Mo_matches_40 rfl lk_Mo_77 lx_45 rfl ?_
    refine ev_iload_n (i := 2) d_Mo_matches_43 rfl rfl rfl ?_
    refine ev_iaload (z := (c : Int)) d_Mo_matches_44 rfl lx_68 (by omega) (by omega) (hmk) ?_
    refine ev_icmp_eq (tgt := 50) d_Mo_matches_45 (by decide) rfl (fun hc => ?_) (fun hc => ?_)
    · have hw47 : M1 47 c = w := by rw [← hw, q_w_c (by omega) (hq16 p (by rw [q_pl_eq hT hp]; exact List.mem_cons_self)), hf 47 _ (by decide) (by omega)]; congr 1; omega
      refine ev_iconst d_Mo_matches_50 rfl ⟨by decide, by decide⟩ ?_
      refine ev_istore (i := 4) d_Mo_matches_51 rfl (by decide) rfl ?_
      refine ev_wh (fun n ls1 M2 => ∃ (k : Nat) (bk : Nat → u_F), k ≤ w ∧ n = w - k ∧ ls1 = [some (g_r 45), some (g_i (p : Int)), some (g_i (x : Int)), some (g_i (fr : Int)), some (g_i (k : Int)), none, none, none] ∧ g74 fr M1 M2 ∧ u_fd (fun k b => u_m M (M 53 (3 * p + k)).toNat (u_ch l k) b) k b = (true, bk) ∧ u_b1 M2 fr bk) ?_ (n := w) (⟨0, b, Nat.zero_le _, rfl, rfl, g74.rf _ _, rfl, hb⟩)
      intro n ls1 M2 hP0 ih
      obtain ⟨k, bk, hk, hn, rfl, hg2, hfd, hb2⟩ := hP0
      have hf2 := hf.tr hg2.f
      have e52 : ∀ y, M2 52 y = M 52 y := fun y => hf2 52 _ (by decide) (by omega)
      have e53 : ∀ y, M2 53 y = M 53 y := fun y => hf2 53 _ (by decide) (by omega)
      have e68 : ∀ y, M2 68 y = M1 68 y := fun y => hg2 68 _ (by omega)
      have e69 : ∀ y, M2 69 y = M1 69 y := fun y => hg2 69 _ (by omega)
      refine ev_iload (i := 4) d_Mo_matches_53 rfl rfl ?_
      refine ev_aload_n (i := 0) d_Mo_matches_55 rfl rfl rfl ?_
      refine ev_iload_n (i := 1) d_Mo_matches_56 rfl rfl rfl ?_
      refine ev_callV (As := [g_i (p : Int)]) d_Mo_matches_57 rfl cl_Mo_144 ((c_Mo_places_w (d + 0) M2 p w hp100 (by rw [e52]; omega) (by rw [e52]; omega) ((q_w_f0 hf2.f0 p).trans hw))) (g_hR (by decide)) g_h0 lx_45 rfl rfl (Nat.le_of_ble_eq_true rfl) rfl rfl ?_
      refine ev_icmp_ge (tgt := 210) d_Mo_matches_60 (by decide) rfl (fun hz => ?_) (fun hz => ?_)
      · have ek : k = w := by omega
        refine ev_iconst d_Mo_matches_210 rfl ⟨by decide, by decide⟩ ?_
        exact ev_retIR d_Mo_matches_211 (⟨by rw [u_m_c hT hp h8, if_pos hc, hw, Int.toNat_natCast, ← ek, hfd]; rfl, hg2, by rw [u_m_c hT hp h8, if_pos hc, hw, Int.toNat_natCast, ← ek, hfd]; exact hb2⟩) (Or.inr ⟨rfl, by omega⟩)
      · have h5 := q5 k (by omega)
        obtain ⟨q, hq⟩ : ∃ q : Nat, M 53 (3 * p + k) = q := ⟨(M 53 (3 * p + k)).toNat, by omega⟩
        rw [hq] at h5
        have hqn : (q : Int) < M 45 8 := by omega
        obtain ⟨s1, s2, s3, s4, s5, -, -⟩ := hT.2.2 q hqn
        obtain ⟨y, hy, hty⟩ := u_rp_ch k l x 0 hrow (by show ((0 + k : Nat) : Int) < M1 47 (M1 68 x).toNat; rw [hmk, Int.toNat_natCast, hw47]; omega)
        rw [Nat.zero_add] at hy
        obtain ⟨c', l', e', hok', hmk', -, hrow'⟩ := u_rp_nd hty
        have hy7 : (y : Int) < 730 := by have : (y : Int) < M1 45 29 := hok'; omega
        have hkq : q ∈ q_kids M p := by rw [q_kids_map, List.mem_map]; exact ⟨k, List.mem_range.mpr (by omega), by rw [hq]; rfl⟩
        have hq16b : M 52 q < 16 := hq16 q (by rw [q_pl_eq hT hp]; exact List.mem_cons_of_mem _ (List.mem_flatMap.mpr ⟨q, hkq, by rw [q_pl_eq hT hqn]; exact List.mem_cons_self⟩))
        have hqh : M 54 q ≤ 1 := by have := (hrt p hp).2.2.1 k (by omega); rw [hq, Int.toNat_natCast] at this; omega
        refine ev_aload_n (i := 0) d_Mo_matches_63 rfl rfl rfl ?_
        refine ev_getR d_Mo_matches_64 rfl lk_Mo_31 lx_45 rfl ?_
        refine ev_iconst d_Mo_matches_67 rfl ⟨by decide, by decide⟩ ?_
        refine ev_iload_n (i := 1) d_Mo_matches_68 rfl rfl rfl ?_
        refine ev_imul (z := 3 * (p : Int)) d_Mo_matches_69 rfl (g_w_id (by unfold g_rg; omega)) ?_
        refine ev_iload (i := 4) d_Mo_matches_70 rfl rfl ?_
        refine ev_iadd (z := ((3 * p + k : Nat) : Int)) d_Mo_matches_72 rfl (by rw [g_w_id (by unfold g_rg; omega)]; omega) ?_
        refine ev_iaload (z := (q : Int)) d_Mo_matches_73 rfl lx_53 (by omega) (by omega) (by rw [Int.toNat_natCast, e53]; exact hq) ?_
        refine ev_istore (i := 5) d_Mo_matches_74 rfl (by decide) rfl ?_
        refine ev_aload_n (i := 0) d_Mo_matches_76 rfl rfl rfl ?_
        refine ev_getR d_Mo_matches_77 rfl lk_Mo_80 lx_45 rfl ?_
        refine ev_iconst d_Mo_matches_80 rfl ⟨by decide, by decide⟩ ?_
        refine ev_iload_n (i := 2) d_Mo_matches_81 rfl rfl rfl ?_
        refine ev_imul (z := 3 * (x : Int)) d_Mo_matches_82 rfl (g_w_id (by unfold g_rg; omega)) ?_
        refine ev_iload (i := 4) d_Mo_matches_83 rfl rfl ?_
        refine ev_iadd (z := ((3 * x + k : Nat) : Int)) d_Mo_matches_85 rfl (by rw [g_w_id (by unfold g_rg; omega)]; omega) ?_
        refine ev_iaload (z := (y : Int)) d_Mo_matches_86 rfl lx_69 (by omega) (by omega) (by rw [Int.toNat_natCast, e69]; exact hy) ?_
        refine ev_istore (i := 6) d_Mo_matches_87 rfl (by decide) rfl ?_
        refine ev_aload_n (i := 0) d_Mo_matches_89 rfl rfl rfl ?_
        refine ev_getR d_Mo_matches_90 rfl lk_Mo_28 lx_45 rfl ?_
        refine ev_iload (i := 5) d_Mo_matches_93 rfl rfl ?_
        refine ev_iaload (z := M 52 q) d_Mo_matches_95 rfl lx_52 (by omega) (by omega) (e52 q) ?_
        refine ev_bipush d_Mo_matches_96 rfl (by decide +kernel) ⟨by decide, by decide⟩ ?_
        refine ev_icmp_ge (tgt := 123) d_Mo_matches_98 (by decide) rfl (fun h8q => ?_) (fun h8q => ?_)
        · refine ev_aload_n (i := 0) d_Mo_matches_123 rfl rfl rfl ?_
          refine ev_getR d_Mo_matches_124 rfl lk_Mo_28 lx_45 rfl ?_
          refine ev_iload (i := 5) d_Mo_matches_127 rfl rfl ?_
          refine ev_iaload (z := M 52 q) d_Mo_matches_129 rfl lx_52 (by omega) (by omega) (e52 q) ?_
          refine ev_bipush d_Mo_matches_130 rfl (by decide +kernel) ⟨by decide, by decide⟩ ?_
          refine ev_isub (z := M 52 q - 8) d_Mo_matches_132 rfl (g_w_id (by unfold g_rg; omega)) ?_
          refine ev_aload_n (i := 0) d_Mo_matches_133 rfl rfl rfl ?_
          refine ev_getR d_Mo_matches_134 rfl lk_Mo_77 lx_45 rfl ?_
          refine ev_iload (i := 6) d_Mo_matches_137 rfl rfl ?_
          refine ev_iaload (z := (c' : Int)) d_Mo_matches_139 rfl lx_68 (by omega) (by omega) ((e68 y).trans hmk') ?_
          refine ev_icmp_eq (tgt := 145) d_Mo_matches_140 (by decide) rfl (fun hcq => ?_) (fun hcq => ?_)
          · obtain ⟨w2, hw2⟩ : ∃ w2 : Nat, q_w M q = w2 := ⟨(q_w M q).toNat, by omega⟩
            have hw47q : M1 47 c' = w2 := by rw [← hw2, q_w_c (by omega) hq16b, hf 47 _ (by decide) (by omega)]; congr 1; omega
            refine ev_iconst d_Mo_matches_145 rfl ⟨by decide, by decide⟩ ?_
            refine ev_istore (i := 7) d_Mo_matches_146 rfl (by decide) rfl ?_
            refine ev_wh (fun n ls1 M3 => ∃ (j : Nat) (bj : Nat → u_F), j ≤ w2 ∧ n = w2 - j ∧ ls1 = [some (g_r 45), some (g_i (p : Int)), some (g_i (x : Int)), some (g_i (fr : Int)), some (g_i (k : Int)), some (g_i (q : Int)), some (g_i (y : Int)), some (g_i (j : Int))] ∧ g74 fr M1 M3 ∧ u_fd (fun j b => u_m M (M 53 (3 * q + j)).toNat (u_ch l' j) b) j bk = (true, bj) ∧ u_b1 M3 fr bj) ?_ (n := w2) (⟨0, bk, Nat.zero_le _, rfl, rfl, hg2, rfl, hb2⟩)
            intro n ls1 M3 hP3 ih2
            obtain ⟨j, bj, hj, hn3, rfl, hg3, hfj, hb3⟩ := hP3
            have hf3 := hf.tr hg3.f
            refine ev_iload (i := 7) d_Mo_matches_148 rfl rfl ?_
            refine ev_aload_n (i := 0) d_Mo_matches_150 rfl rfl rfl ?_
            refine ev_iload (i := 5) d_Mo_matches_151 rfl rfl ?_
            refine ev_callV (As := [g_i (q : Int)]) d_Mo_matches_153 rfl cl_Mo_144 ((c_Mo_places_w (d + 0) M3 q w2 (by omega) (by rw [hf3 52 _ (by decide) (by omega)]; omega) (by rw [hf3 52 _ (by decide) (by omega)]; omega) ((q_w_f0 hf3.f0 q).trans hw2))) (g_hR (by decide)) g_h0 lx_45 rfl rfl (Nat.le_of_ble_eq_true rfl) rfl rfl ?_
            refine ev_icmp_ge (tgt := 204) d_Mo_matches_156 (by decide) rfl (fun hz2 => ?_) (fun hz2 => ?_)
            · refine ev_iinc (z := ((k + 1 : Nat) : Int)) d_Mo_matches_204 rfl rfl (by decide) (by rw [g_w_id (by unfold g_rg; omega)]; omega) rfl ?_
              refine ev_goto (tgt := 53) d_Mo_matches_207 (by decide) ?_
              have ej : j = w2 := by omega
              exact ev_le (ih (w - (k + 1)) [some (g_r 45), some (g_i (p : Int)), some (g_i (x : Int)), some (g_i (fr : Int)), some (g_i (((k + 1 : Nat) : Int) : Int)), none, none, none] _ (by omega) ⟨k + 1, bj, by omega, rfl, rfl, hg3, by rw [u_fd_y hfd]; show u_m M (M 53 (3 * p + k)).toNat (u_ch l k) bk = _; rw [hq, Int.toNat_natCast, e', u_m_c hT hqn (by omega), if_pos hcq, hw2, Int.toNat_natCast, ← ej]; exact hfj, hb3⟩) rfl ⟨rfl, rfl, rfl, rfl, rfl, trivial⟩
            · have h6 := s5 j (by omega)
              obtain ⟨r, hr⟩ : ∃ r : Nat, M 53 (3 * q + j) = r := ⟨(M 53 (3 * q + j)).toNat, by omega⟩
              rw [hr] at h6
              have hrn : (r : Int) < M 45 8 := by omega
              have h8r : M 52 r < 8 := by
                have h1 := (hrt q hqn).2.2.1 j (by omega)
                rw [hr, Int.toNat_natCast] at h1
                have h2 := (hrt r hrn).1
                omega
              have h0r := (hT.2.2 r hrn).1
              obtain ⟨v, hv⟩ : ∃ v : Nat, M 52 r = v := ⟨(M 52 r).toNat, by omega⟩
              have hv8 : v < 8 := by omega
              obtain ⟨z, hz3, htz⟩ := u_rp_ch j l' y 0 hrow' (by show ((0 + j : Nat) : Int) < M1 47 (M1 68 y).toNat; rw [hmk', Int.toNat_natCast, hw47q]; omega)
              rw [Nat.zero_add] at hz3
              refine ev_aload_n (i := 0) d_Mo_matches_159 rfl rfl rfl ?_
              refine ev_getR d_Mo_matches_160 rfl lk_Mo_95 lx_45 rfl ?_
              refine ev_bipush d_Mo_matches_163 rfl (by decide +kernel) ⟨by decide, by decide⟩ ?_
              refine ev_iload_n (i := 3) d_Mo_matches_165 rfl rfl rfl ?_
              refine ev_imul (z := 8 * (fr : Int)) d_Mo_matches_166 rfl (g_w_id (by unfold g_rg; omega)) ?_
              refine ev_aload_n (i := 0) d_Mo_matches_167 rfl rfl rfl ?_
              refine ev_getR d_Mo_matches_168 rfl lk_Mo_28 lx_45 rfl ?_
              refine ev_aload_n (i := 0) d_Mo_matches_171 rfl rfl rfl ?_
              refine ev_getR d_Mo_matches_172 rfl lk_Mo_31 lx_45 rfl ?_
              refine ev_iconst d_Mo_matches_175 rfl ⟨by decide, by decide⟩ ?_
              refine ev_iload (i := 5) d_Mo_matches_176 rfl rfl ?_
              refine ev_imul (z := 3 * (q : Int)) d_Mo_matches_178 rfl (g_w_id (by unfold g_rg; omega)) ?_
              refine ev_iload (i := 7) d_Mo_matches_179 rfl rfl ?_
              refine ev_iadd (z := ((3 * q + j : Nat) : Int)) d_Mo_matches_181 rfl (by rw [g_w_id (by unfold g_rg; omega)]; omega) ?_
              refine ev_iaload (z := (r : Int)) d_Mo_matches_182 rfl lx_53 (by omega) (by omega) (by rw [Int.toNat_natCast, hf3 53 _ (by decide) (by omega)]; exact hr) ?_
              refine ev_iaload (z := (v : Int)) d_Mo_matches_183 rfl lx_52 (by omega) (by omega) (by rw [Int.toNat_natCast, hf3 52 _ (by decide) (by omega)]; exact hv) ?_
              refine ev_iadd (z := ((8 * fr + v : Nat) : Int)) d_Mo_matches_184 rfl (by rw [g_w_id (by unfold g_rg; omega)]; omega) ?_
              refine ev_aload_n (i := 0) d_Mo_matches_185 rfl rfl rfl ?_
              refine ev_getR d_Mo_matches_186 rfl lk_Mo_80 lx_45 rfl ?_
              refine ev_iconst d_Mo_matches_189 rfl ⟨by decide, by decide⟩ ?_
              refine ev_iload (i := 6) d_Mo_matches_190 rfl rfl ?_
              refine ev_imul (z := 3 * (y : Int)) d_Mo_matches_192 rfl (g_w_id (by unfold g_rg; omega)) ?_
              refine ev_iload (i := 7) d_Mo_matches_193 rfl rfl ?_
              refine ev_iadd (z := ((3 * y + j : Nat) : Int)) d_Mo_matches_195 rfl (by rw [g_w_id (by unfold g_rg; omega)]; omega) ?_
              refine ev_iaload (z := (z : Int)) d_Mo_matches_196 rfl lx_69 (by omega) (by omega) (by rw [Int.toNat_natCast, hg3 69 _ (by omega)]; exact hz3) ?_
              refine ev_iastore d_Mo_matches_197 rfl lx_74 (by omega) (by omega) ?_
              rw [show Int.toNat ((((8 * fr + v : Nat) : Int))) = 8 * fr + v by exact Int.toNat_natCast _]
              refine ev_iinc (z := ((j + 1 : Nat) : Int)) d_Mo_matches_198 rfl rfl (by decide) (by rw [g_w_id (by unfold g_rg; omega)]; omega) rfl ?_
              refine ev_goto (tgt := 148) d_Mo_matches_201 (by decide) ?_
              exact ev_le (ih2 (w2 - (j + 1)) [some (g_r 45), some (g_i (p : Int)), some (g_i (x : Int)), some (g_i (fr : Int)), some (g_i (k : Int)), some (g_i (q : Int)), some (g_i (y : Int)), some (g_i ((j + 1 : Nat) : Int))] _ (by omega) ⟨j + 1, _, by omega, rfl, rfl, hg3.tr (g74.up fr M3 hv8 _), by rw [u_fd_y hfj]; show u_m M (M 53 (3 * q + j)).toNat (u_ch l' j) bj = _; rw [hr, Int.toNat_natCast]; exact u_m_v h8r _ _, by rw [hv, Int.toNat_natCast]; exact u_b1_up hb3 hv8 (hg3.rm htz)⟩) rfl ⟨rfl, rfl, rfl, rfl, rfl, rfl, rfl, rfl, trivial⟩
          · have hEnd : u_m M p (Std.Format.tag c l) b = (false, bk) := by
              rw [u_m_c hT hp h8, if_pos hc, hw, Int.toNat_natCast, show w = k + 1 + (w - (k + 1)) by omega]
              refine u_fd_n ?_ _
              rw [u_fd_y hfd]
              show u_m M (M 53 (3 * p + k)).toNat (u_ch l k) bk = _
              rw [hq, Int.toNat_natCast, e', u_m_c hT hqn (by omega), if_neg hcq]
            refine ev_iconst d_Mo_matches_143 rfl ⟨by decide, by decide⟩ ?_
            exact ev_retIR d_Mo_matches_144 (⟨by rw [hEnd]; rfl, hg2, by rw [hEnd]; exact hb2⟩) (Or.inr ⟨rfl, by omega⟩)
        · have h8v : M 52 q < 8 := by omega
          obtain ⟨v, hv⟩ : ∃ v : Nat, M 52 q = v := ⟨(M 52 q).toNat, by omega⟩
          have hv8 : v < 8 := by omega
          refine ev_aload_n (i := 0) d_Mo_matches_101 rfl rfl rfl ?_
          refine ev_getR d_Mo_matches_102 rfl lk_Mo_95 lx_45 rfl ?_
          refine ev_bipush d_Mo_matches_105 rfl (by decide +kernel) ⟨by decide, by decide⟩ ?_
          refine ev_iload_n (i := 3) d_Mo_matches_107 rfl rfl rfl ?_
          refine ev_imul (z := 8 * (fr : Int)) d_Mo_matches_108 rfl (g_w_id (by unfold g_rg; omega)) ?_
          refine ev_aload_n (i := 0) d_Mo_matches_109 rfl rfl rfl ?_
          refine ev_getR d_Mo_matches_110 rfl lk_Mo_28 lx_45 rfl ?_
          refine ev_iload (i := 5) d_Mo_matches_113 rfl rfl ?_
          refine ev_iaload (z := (v : Int)) d_Mo_matches_115 rfl lx_52 (by omega) (by omega) ((e52 q).trans hv) ?_
          refine ev_iadd (z := ((8 * fr + v : Nat) : Int)) d_Mo_matches_116 rfl (by rw [g_w_id (by unfold g_rg; omega)]; omega) ?_
          refine ev_iload (i := 6) d_Mo_matches_117 rfl rfl ?_
          refine ev_iastore d_Mo_matches_119 rfl lx_74 (by omega) (by omega) ?_
          rw [show Int.toNat ((((8 * fr + v : Nat) : Int))) = 8 * fr + v by exact Int.toNat_natCast _]
          refine ev_goto (tgt := 145) d_Mo_matches_120 (by decide) ?_
          refine ev_iconst d_Mo_matches_145 rfl ⟨by decide, by decide⟩ ?_
          refine ev_istore (i := 7) d_Mo_matches_146 rfl (by decide) rfl ?_
          refine ev_iload (i := 7) d_Mo_matches_148 rfl rfl ?_
          refine ev_aload_n (i := 0) d_Mo_matches_150 rfl rfl rfl ?_
          refine ev_iload (i := 5) d_Mo_matches_151 rfl rfl ?_
          refine ev_callV (As := [g_i ((q : Int))]) d_Mo_matches_153 rfl cl_Mo_144 ((c_Mo_places_w (d + 0) (g_up M2 74 (8 * fr + v) (((y : Int)))) q 0 (by omega) (by rw [g_up_ne (by decide), e52]; omega) (by rw [g_up_ne (by decide), e52]; omega) ((q_w_f0 (hf2.tr (g74.up fr M2 hv8 _).f).f0 q).trans (q_w_v h8v)))) (g_hR (by decide)) g_h0 lx_45 rfl rfl (Nat.le_of_ble_eq_true rfl) rfl rfl ?_
          refine ev_icmp_ge_t (tgt := 204) d_Mo_matches_156 (by decide) (by decide) ?_
          refine ev_iinc (z := ((k + 1 : Nat) : Int)) d_Mo_matches_204 rfl rfl (by decide) (by rw [g_w_id (by unfold g_rg; omega)]; omega) rfl ?_
          refine ev_goto (tgt := 53) d_Mo_matches_207 (by decide) ?_
          exact ev_le (ih (w - (k + 1)) [some (g_r 45), some (g_i (p : Int)), some (g_i (x : Int)), some (g_i (fr : Int)), some (g_i (((k + 1 : Nat) : Int) : Int)), none, none, none] _ (by omega) ⟨k + 1, _, by omega, rfl, rfl, hg2.tr (g74.up fr M2 hv8 _), by rw [u_fd_y hfd]; show u_m M (M 53 (3 * p + k)).toNat (u_ch l k) bk = _; rw [hq, Int.toNat_natCast]; exact u_m_v h8v _ _, by rw [hv, Int.toNat_natCast]; exact u_b1_up hb2 hv8 (hg2.rm hty)⟩) rfl ⟨rfl, rfl, rfl, rfl, rfl, trivial⟩
    · refine ev_iconst d_Mo_matches_48 rfl ⟨by decide, by decide⟩ ?_
      exact ev_retIR d_Mo_matches_49 (⟨by rw [u_m_c hT hp h8, if_neg hc]; rfl, g74.rf _ _, by rw [u_m_c hT hp h8, if_neg hc]; exact hb⟩) (Or.inr ⟨rfl, by omega⟩)
  · have h8v : M 52 p < 8 := by omega
    obtain ⟨v, hv⟩ : ∃ v : Nat, M 52 p = v := ⟨(M 52 p).toNat, by omega⟩
    have hv8 : v < 8 := by omega
    refine ev_aload_n (i := 0) d_Mo_matches_11 rfl rfl rfl ?_
    refine ev_getR d_Mo_matches_12 rfl lk_Mo_95 lx_45 rfl ?_
    refine ev_bipush d_Mo_matches_15 rfl (by decide +kernel) ⟨by decide, by decide⟩ ?_
    refine ev_iload_n (i := 3) d_Mo_matches_17 rfl rfl rfl ?_
    refine ev_imul (z := 8 * (fr : Int)) d_Mo_matches_18 rfl (g_w_id (by unfold g_rg; omega)) ?_
    refine ev_aload_n (i := 0) d_Mo_matches_19 rfl rfl rfl ?_
    refine ev_getR d_Mo_matches_20 rfl lk_Mo_28 lx_45 rfl ?_
    refine ev_iload_n (i := 1) d_Mo_matches_23 rfl rfl rfl ?_
    refine ev_iaload (z := (v : Int)) d_Mo_matches_24 rfl lx_52 (by omega) (by omega) ((h52 p).trans hv) ?_
    refine ev_iadd (z := ((8 * fr + v : Nat) : Int)) d_Mo_matches_25 rfl (by rw [g_w_id (by unfold g_rg; omega)]; omega) ?_
    refine ev_iload_n (i := 2) d_Mo_matches_26 rfl rfl rfl ?_
    refine ev_iastore d_Mo_matches_27 rfl lx_74 (by omega) (by omega) ?_
    rw [show Int.toNat ((((8 * fr + v : Nat) : Int))) = 8 * fr + v by exact Int.toNat_natCast _]
    refine ev_iconst d_Mo_matches_28 rfl ⟨by decide, by decide⟩ ?_
    exact ev_retIR d_Mo_matches_29 (⟨by rw [u_m_v h8v]; rfl, g74.up fr M1 hv8 _, by rw [u_m_v h8v, hv, Int.toNat_natCast]; exact u_b1_up hb hv8 ht⟩) (Or.inr ⟨rfl, by omega⟩)
