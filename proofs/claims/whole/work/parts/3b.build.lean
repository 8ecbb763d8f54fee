theorem c_Mo_build (d : Nat) (M : g_M) (w n : Nat) (h x y z : Int) (hw : w ≤ 3) (hB : j_B (M 45 8) (M 54) (M 55)) (hf : j_fit (M 45 8) (M 54) (M 55) x y z w) (hn : M 45 8 = n) (hl : n < 100) : Con y_Mo_build w_Mo_build (g_rm (d + 1)) LX M [g_r 45, g_i h, g_i (w : Int), g_i x, g_i y, g_i z] LX (g_up (g_up (g_up (g_up (g_up (g_up (g_up (g_up M 45 44 0) 52 n h) 53 (3 * n) x) 53 (3 * n + 1) y) 53 (3 * n + 2) z) 54 n (j_h (M 54) x y z w + 1)) 55 n (j_s (M 55) x y z w)) 45 8 ((n : Int) + 1)) (some (g_i (n : Int))) := by
  refine con_of (av := [g_r 45, g_i h, g_i (w : Int), g_i x, g_i y, g_i z]) (ls0 := [some (g_r 45), some (g_i h), some (g_i (w : Int)), some (g_i x), some (g_i y), some (g_i z), none, none, none, none, none]) (by decide) rfl (Nat.le_of_ble_eq_true rfl) (g_hls (av := [g_r 45, g_i h, g_i (w : Int), g_i x, g_i y, g_i z]) (k := 5)) (fun _ h9 => List.mem_cons_of_mem _ h9) ?_
  have hb1 := hB.1
  have ho : j_ok (M 45 8) x y z w := hf.1
  have hf2 : j_h (M 54) x y z w < 6 := hf.2.1
  have hf3 : j_s (M 55) x y z w ≤ 40 := hf.2.2
  refine ev_jn 48 (fun v9 => [some (g_r 45), some (g_i h), some (g_i (w : Int)), some (g_i x), some (g_i y), some (g_i z), some (g_i v9), none, none, none, none]) (fun v9 => []) M (fun v9 => v9 = if j_ok (M 45 8) x y z w then 1 else 0) ?_ (fun K48 => ?_)
  · intro v9 hv9; subst hv9
    refine ev_iconst d_Mo_build_48 rfl ⟨by decide, by decide⟩ ?_
    refine ev_istore (i := 7) d_Mo_build_49 rfl (by decide) rfl ?_
    refine ev_iconst d_Mo_build_51 rfl ⟨by decide, by decide⟩ ?_
    refine ev_istore (i := 8) d_Mo_build_52 rfl (by decide) rfl ?_
    refine ev_iconst d_Mo_build_54 rfl ⟨by decide, by decide⟩ ?_
    refine ev_istore (i := 9) d_Mo_build_55 rfl (by decide) rfl ?_
    refine ev_lp (fun i : Nat => [some (g_r 45), some (g_i h), some (g_i (w : Int)), some (g_i x), some (g_i y), some (g_i z), some (g_i (if j_ok (M 45 8) x y z w then 1 else 0)), some (g_i (j_h (M 54) x y z i)), some (g_i (j_s (M 55) x y z i)), some (g_i (i : Int)), none]) (fun i : Nat => M) w ?_ ?_ (rfl) (rfl)
    · intro i hi K57
      have hp := j_pk_in ho hw hi
      have hs1 := j_s_rg hB ho hw i (by omega)
      have hs2 := j_at hB hp
      refine ev_iload (i := 9) d_Mo_build_57 rfl rfl ?_
      refine ev_iload_n (i := 2) d_Mo_build_59 rfl rfl rfl ?_
      refine ev_icmp_ge_f (tgt := 136) d_Mo_build_60 (by decide) rfl (by omega) ?_
      refine ev_iload (i := 6) d_Mo_build_63 rfl rfl ?_
      refine ev_if_eq_f (tgt := 136) d_Mo_build_65 (by decide) rfl (by rw [if_pos ho]; decide) ?_
      refine ev_jn 90 (fun v9 => [some (g_r 45), some (g_i h), some (g_i (w : Int)), some (g_i x), some (g_i y), some (g_i z), some (g_i (if j_ok (M 45 8) x y z w then 1 else 0)), some (g_i (j_h (M 54) x y z i)), some (g_i (j_s (M 55) x y z i)), some (g_i (i : Int)), none]) (fun v9 => [g_i v9]) M (fun v9 => v9 = j_pk x y z i) ?_ (fun K90 => ?_)
      · intro v9 hv9; subst hv9
        refine ev_istore (i := 10) d_Mo_build_90 rfl (by decide) rfl ?_
        refine ev_jn 116 (fun v9 => [some (g_r 45), some (g_i h), some (g_i (w : Int)), some (g_i x), some (g_i y), some (g_i z), some (g_i (if j_ok (M 45 8) x y z w then 1 else 0)), some (g_i (j_h (M 54) x y z i)), some (g_i (j_s (M 55) x y z i)), some (g_i (i : Int)), some (g_i (j_pk x y z i))]) (fun v9 => [g_i v9]) M (fun v9 => v9 = j_h (M 54) x y z (i + 1)) ?_ (fun K116 => ?_)
        · intro v9 hv9; subst hv9
          refine ev_istore (i := 7) d_Mo_build_116 rfl (by decide) rfl ?_
          refine ev_iload (i := 8) d_Mo_build_118 rfl rfl ?_
          refine ev_aload_n (i := 0) d_Mo_build_120 rfl rfl rfl ?_
          refine ev_getR d_Mo_build_121 rfl lk_Mo_37 lx_45 rfl ?_
          refine ev_iload (i := 10) d_Mo_build_124 rfl rfl ?_
          refine ev_iaload (z := M 55 (j_pk x y z i).toNat) d_Mo_build_126 rfl lx_55 (by omega) (by omega) (rfl) ?_
          refine ev_iadd (z := j_s (M 55) x y z (i + 1)) d_Mo_build_127 rfl (g_w_id (by unfold g_rg; omega)) ?_
          refine ev_istore (i := 8) d_Mo_build_128 rfl (by decide) rfl ?_
          refine ev_iinc (z := (i : Int) + 1) d_Mo_build_130 rfl rfl (by decide) (g_w_id (by unfold g_rg; omega)) rfl ?_
          refine ev_goto (tgt := 57) d_Mo_build_133 (by decide) ?_
          exact ev_le K57 (rfl) ⟨rfl, rfl, rfl, rfl, rfl, rfl, rfl, rfl, rfl, rfl, trivial⟩
        · refine ev_aload_n (i := 0) d_Mo_build_92 rfl rfl rfl ?_
          refine ev_getR d_Mo_build_93 rfl lk_Mo_34 lx_45 rfl ?_
          refine ev_iload (i := 10) d_Mo_build_96 rfl rfl ?_
          refine ev_iaload (z := M 54 (j_pk x y z i).toNat) d_Mo_build_98 rfl lx_54 (by omega) (by omega) (rfl) ?_
          refine ev_iload (i := 7) d_Mo_build_99 rfl rfl ?_
          refine ev_icmp_le (tgt := 114) d_Mo_build_101 (by decide) rfl (fun h1 => ?_) (fun h1 => ?_)
          · refine ev_iload (i := 7) d_Mo_build_114 rfl rfl ?_
            exact K116 _ (by rw [show j_h (M 54) x y z (i + 1) = if j_h (M 54) x y z i < M 54 (j_pk x y z i).toNat then M 54 (j_pk x y z i).toNat else j_h (M 54) x y z i from rfl]; omega)
          · refine ev_aload_n (i := 0) d_Mo_build_104 rfl rfl rfl ?_
            refine ev_getR d_Mo_build_105 rfl lk_Mo_34 lx_45 rfl ?_
            refine ev_iload (i := 10) d_Mo_build_108 rfl rfl ?_
            refine ev_iaload (z := M 54 (j_pk x y z i).toNat) d_Mo_build_110 rfl lx_54 (by omega) (by omega) (rfl) ?_
            refine ev_goto (tgt := 116) d_Mo_build_111 (by decide) ?_
            exact K116 _ (by rw [show j_h (M 54) x y z (i + 1) = if j_h (M 54) x y z i < M 54 (j_pk x y z i).toNat then M 54 (j_pk x y z i).toNat else j_h (M 54) x y z i from rfl]; omega)
      · refine ev_iload (i := 9) d_Mo_build_68 rfl rfl ?_
        refine ev_if_ne (tgt := 77) d_Mo_build_70 (by decide) rfl (fun h2 => ?_) (fun h2 => ?_)
        · refine ev_iload (i := 9) d_Mo_build_77 rfl rfl ?_
          refine ev_iconst d_Mo_build_79 rfl ⟨by decide, by decide⟩ ?_
          refine ev_icmp_ne (tgt := 88) d_Mo_build_80 (by decide) rfl (fun h3 => ?_) (fun h3 => ?_)
          · refine ev_iload (i := 5) d_Mo_build_88 rfl rfl ?_
            exact K90 _ (by simp only [j_pk]; omega)
          · refine ev_iload (i := 4) d_Mo_build_83 rfl rfl ?_
            refine ev_goto (tgt := 90) d_Mo_build_85 (by decide) ?_
            exact K90 _ (by simp only [j_pk]; omega)
        · refine ev_iload_n (i := 3) d_Mo_build_73 rfl rfl rfl ?_
          refine ev_goto (tgt := 90) d_Mo_build_74 (by decide) ?_
          exact K90 _ (by simp only [j_pk]; omega)
    · have hs1 := j_s_rg hB ho hw w (Nat.le_refl _)
      have hh1 := j_h_rg hB ho hw w (Nat.le_refl _)
      refine ev_iload (i := 9) d_Mo_build_57 rfl rfl ?_
      refine ev_iload_n (i := 2) d_Mo_build_59 rfl rfl rfl ?_
      refine ev_icmp_ge_t (tgt := 136) d_Mo_build_60 (by decide) (by omega) ?_
      refine ev_aload_n (i := 0) d_Mo_build_136 rfl rfl rfl ?_
      refine ev_iload (i := 6) d_Mo_build_137 rfl rfl ?_
      refine ev_if_eq_f (tgt := 158) d_Mo_build_139 (by decide) rfl (by rw [if_pos ho]; decide) ?_
      refine ev_iload (i := 7) d_Mo_build_142 rfl rfl ?_
      refine ev_iconst d_Mo_build_144 rfl ⟨by decide, by decide⟩ ?_
      refine ev_iadd (z := (j_h (M 54) x y z w) + 1) d_Mo_build_145 rfl (g_w_id (by unfold g_rg; omega)) ?_
      refine ev_bipush d_Mo_build_146 rfl (by decide +kernel) ⟨by decide, by decide⟩ ?_
      refine ev_icmp_gt_f (tgt := 158) d_Mo_build_148 (by decide) rfl (by omega) ?_
      refine ev_iload (i := 8) d_Mo_build_151 rfl rfl ?_
      refine ev_bipush d_Mo_build_153 rfl (by decide +kernel) ⟨by decide, by decide⟩ ?_
      refine ev_icmp_le_t (tgt := 162) d_Mo_build_155 (by decide) (by omega) ?_
      refine ev_aload_n (i := 0) d_Mo_build_162 rfl rfl rfl ?_
      refine ev_getI (z := M 45 8) d_Mo_build_163 rfl lk_Mo_130 lx_45 rfl (rfl) ?_
      refine ev_bipush d_Mo_build_166 rfl (by decide +kernel) ⟨by decide, by decide⟩ ?_
      refine ev_icmp_ne_t (tgt := 175) d_Mo_build_168 (by decide) (by omega) ?_
      refine ev_iconst d_Mo_build_175 rfl ⟨by decide, by decide⟩ ?_
      refine ev_putI d_Mo_build_176 rfl lk_Mo_104 fp_Mo_44 (Or.inl rfl) lx_45 rfl ?_
      refine ev_aload_n (i := 0) d_Mo_build_179 rfl rfl rfl ?_
      refine ev_getI (z := 0) d_Mo_build_180 rfl lk_Mo_104 lx_45 rfl (by simp [g_up]) ?_
      refine ev_if_eq_t (tgt := 188) d_Mo_build_183 (by decide) (rfl) ?_
      refine ev_aload_n (i := 0) d_Mo_build_188 rfl rfl rfl ?_
      refine ev_getR d_Mo_build_189 rfl lk_Mo_28 lx_45 rfl ?_
      refine ev_aload_n (i := 0) d_Mo_build_192 rfl rfl rfl ?_
      refine ev_getI (z := (n : Int)) d_Mo_build_193 rfl lk_Mo_130 lx_45 rfl (by simp [g_up, hn]) ?_
      refine ev_iload_n (i := 1) d_Mo_build_196 rfl rfl rfl ?_
      refine ev_iastore d_Mo_build_197 rfl lx_52 (by omega) (by omega) ?_
      rw [show Int.toNat (((n : Int))) = n by first | rfl | omega]
      refine ev_aload_n (i := 0) d_Mo_build_198 rfl rfl rfl ?_
      refine ev_getR d_Mo_build_199 rfl lk_Mo_31 lx_45 rfl ?_
      refine ev_iconst d_Mo_build_202 rfl ⟨by decide, by decide⟩ ?_
      refine ev_aload_n (i := 0) d_Mo_build_203 rfl rfl rfl ?_
      refine ev_getI (z := (n : Int)) d_Mo_build_204 rfl lk_Mo_130 lx_45 rfl (by simp [g_up, hn]) ?_
      refine ev_imul (z := 3 * ((n : Int))) d_Mo_build_207 rfl (g_w_id (by unfold g_rg; omega)) ?_
      refine ev_iload_n (i := 3) d_Mo_build_208 rfl rfl rfl ?_
      refine ev_iastore d_Mo_build_209 rfl lx_53 (by omega) (by omega) ?_
      rw [show Int.toNat ((3 * ((n : Int)))) = 3 * n by first | rfl | omega]
      refine ev_aload_n (i := 0) d_Mo_build_210 rfl rfl rfl ?_
      refine ev_getR d_Mo_build_211 rfl lk_Mo_31 lx_45 rfl ?_
      refine ev_iconst d_Mo_build_214 rfl ⟨by decide, by decide⟩ ?_
      refine ev_aload_n (i := 0) d_Mo_build_215 rfl rfl rfl ?_
      refine ev_getI (z := (n : Int)) d_Mo_build_216 rfl lk_Mo_130 lx_45 rfl (by simp [g_up, hn]) ?_
      refine ev_imul (z := 3 * ((n : Int))) d_Mo_build_219 rfl (g_w_id (by unfold g_rg; omega)) ?_
      refine ev_iconst d_Mo_build_220 rfl ⟨by decide, by decide⟩ ?_
      refine ev_iadd (z := (3 * ((n : Int))) + 1) d_Mo_build_221 rfl (g_w_id (by unfold g_rg; omega)) ?_
      refine ev_iload (i := 4) d_Mo_build_222 rfl rfl ?_
      refine ev_iastore d_Mo_build_224 rfl lx_53 (by omega) (by omega) ?_
      rw [show Int.toNat (((3 * ((n : Int))) + 1)) = 3 * n + 1 by first | rfl | omega]
      refine ev_aload_n (i := 0) d_Mo_build_225 rfl rfl rfl ?_
      refine ev_getR d_Mo_build_226 rfl lk_Mo_31 lx_45 rfl ?_
      refine ev_iconst d_Mo_build_229 rfl ⟨by decide, by decide⟩ ?_
      refine ev_aload_n (i := 0) d_Mo_build_230 rfl rfl rfl ?_
      refine ev_getI (z := (n : Int)) d_Mo_build_231 rfl lk_Mo_130 lx_45 rfl (by simp [g_up, hn]) ?_
      refine ev_imul (z := 3 * ((n : Int))) d_Mo_build_234 rfl (g_w_id (by unfold g_rg; omega)) ?_
      refine ev_iconst d_Mo_build_235 rfl ⟨by decide, by decide⟩ ?_
      refine ev_iadd (z := (3 * ((n : Int))) + 2) d_Mo_build_236 rfl (g_w_id (by unfold g_rg; omega)) ?_
      refine ev_iload (i := 5) d_Mo_build_237 rfl rfl ?_
      refine ev_iastore d_Mo_build_239 rfl lx_53 (by omega) (by omega) ?_
      rw [show Int.toNat (((3 * ((n : Int))) + 2)) = 3 * n + 2 by first | rfl | omega]
      refine ev_aload_n (i := 0) d_Mo_build_240 rfl rfl rfl ?_
      refine ev_getR d_Mo_build_241 rfl lk_Mo_34 lx_45 rfl ?_
      refine ev_aload_n (i := 0) d_Mo_build_244 rfl rfl rfl ?_
      refine ev_getI (z := (n : Int)) d_Mo_build_245 rfl lk_Mo_130 lx_45 rfl (by simp [g_up, hn]) ?_
      refine ev_iload (i := 7) d_Mo_build_248 rfl rfl ?_
      refine ev_iconst d_Mo_build_250 rfl ⟨by decide, by decide⟩ ?_
      refine ev_iadd (z := (j_h (M 54) x y z w) + 1) d_Mo_build_251 rfl (g_w_id (by unfold g_rg; omega)) ?_
      refine ev_iastore d_Mo_build_252 rfl lx_54 (by omega) (by omega) ?_
      rw [show Int.toNat (((n : Int))) = n by first | rfl | omega]
      refine ev_aload_n (i := 0) d_Mo_build_253 rfl rfl rfl ?_
      refine ev_getR d_Mo_build_254 rfl lk_Mo_37 lx_45 rfl ?_
      refine ev_aload_n (i := 0) d_Mo_build_257 rfl rfl rfl ?_
      refine ev_getI (z := (n : Int)) d_Mo_build_258 rfl lk_Mo_130 lx_45 rfl (by simp [g_up, hn]) ?_
      refine ev_iload (i := 8) d_Mo_build_261 rfl rfl ?_
      refine ev_iastore d_Mo_build_263 rfl lx_55 (by omega) (by omega) ?_
      rw [show Int.toNat (((n : Int))) = n by first | rfl | omega]
      refine ev_aload_n (i := 0) d_Mo_build_264 rfl rfl rfl ?_
      refine ev_dup d_Mo_build_265 rfl rfl ?_
      refine ev_getI (z := (n : Int)) d_Mo_build_266 rfl lk_Mo_130 lx_45 rfl (by simp [g_up, hn]) ?_
      refine ev_iconst d_Mo_build_269 rfl ⟨by decide, by decide⟩ ?_
      refine ev_iadd (z := ((n : Int)) + 1) d_Mo_build_270 rfl (g_w_id (by unfold g_rg; omega)) ?_
      refine ev_putI d_Mo_build_271 rfl lk_Mo_130 fp_Mo_8 (Or.inl rfl) lx_45 rfl ?_
      refine ev_aload_n (i := 0) d_Mo_build_274 rfl rfl rfl ?_
      refine ev_getI (z := (n : Int) + 1) d_Mo_build_275 rfl lk_Mo_130 lx_45 rfl (by simp [g_up]) ?_
      refine ev_iconst d_Mo_build_278 rfl ⟨by decide, by decide⟩ ?_
      refine ev_isub (z := ((n : Int) + 1) - 1) d_Mo_build_279 rfl (g_w_id (by unfold g_rg; omega)) ?_
      exact ev_retI d_Mo_build_280 (by first | rfl | omega | simp_all) rfl (Or.inl rfl)
  · refine ev_iload_n (i := 2) d_Mo_build_0 rfl rfl rfl ?_
    refine ev_iconst d_Mo_build_1 rfl ⟨by decide, by decide⟩ ?_
    refine ev_icmp_lt (tgt := 13) d_Mo_build_2 (by decide) rfl (fun h4 => ?_) (fun h4 => ?_)
    · refine ev_iload_n (i := 2) d_Mo_build_13 rfl rfl rfl ?_
      refine ev_iconst d_Mo_build_14 rfl ⟨by decide, by decide⟩ ?_
      refine ev_icmp_lt (tgt := 27) d_Mo_build_15 (by decide) rfl (fun h5 => ?_) (fun h5 => ?_)
      · refine ev_iload_n (i := 2) d_Mo_build_27 rfl rfl rfl ?_
        refine ev_iconst d_Mo_build_28 rfl ⟨by decide, by decide⟩ ?_
        refine ev_icmp_lt (tgt := 41) d_Mo_build_29 (by decide) rfl (fun h6 => ?_) (fun h6 => ?_)
        · refine ev_iconst d_Mo_build_41 rfl ⟨by decide, by decide⟩ ?_
          refine ev_goto (tgt := 46) d_Mo_build_42 (by decide) ?_
          refine ev_istore (i := 6) d_Mo_build_46 rfl (by decide) rfl ?_
          exact K48 _ (by simp only [j_ok]; omega)
        · refine ev_aload_n (i := 0) d_Mo_build_32 rfl rfl rfl ?_
          refine ev_iload (i := 5) d_Mo_build_33 rfl rfl ?_
          refine ev_callV (As := [g_i z]) d_Mo_build_35 rfl cl_Mo_133 (c_Mo_isTerm (d + 0) M z) (g_hR (by decide)) g_h0 lx_45 rfl rfl (Nat.le_of_ble_eq_true rfl) rfl rfl ?_
          refine ev_beq (tgt := 45) d_Mo_build_38 (by decide) rfl (fun h7 => ?_) (fun h7 => ?_)
          · refine ev_iconst d_Mo_build_45 rfl ⟨by decide, by decide⟩ ?_
            refine ev_istore (i := 6) d_Mo_build_46 rfl (by decide) rfl ?_
            exact K48 _ (by simp only [j_ok]; omega)
          · refine ev_iconst d_Mo_build_41 rfl ⟨by decide, by decide⟩ ?_
            refine ev_goto (tgt := 46) d_Mo_build_42 (by decide) ?_
            refine ev_istore (i := 6) d_Mo_build_46 rfl (by decide) rfl ?_
            exact K48 _ (by simp only [j_ok]; omega)
      · refine ev_aload_n (i := 0) d_Mo_build_18 rfl rfl rfl ?_
        refine ev_iload (i := 4) d_Mo_build_19 rfl rfl ?_
        refine ev_callV (As := [g_i y]) d_Mo_build_21 rfl cl_Mo_133 (c_Mo_isTerm (d + 0) M y) (g_hR (by decide)) g_h0 lx_45 rfl rfl (Nat.le_of_ble_eq_true rfl) rfl rfl ?_
        refine ev_beq (tgt := 45) d_Mo_build_24 (by decide) rfl (fun h8 => ?_) (fun h8 => ?_)
        · refine ev_iconst d_Mo_build_45 rfl ⟨by decide, by decide⟩ ?_
          refine ev_istore (i := 6) d_Mo_build_46 rfl (by decide) rfl ?_
          exact K48 _ (by simp only [j_ok]; omega)
        · refine ev_iload_n (i := 2) d_Mo_build_27 rfl rfl rfl ?_
          refine ev_iconst d_Mo_build_28 rfl ⟨by decide, by decide⟩ ?_
          refine ev_icmp_lt (tgt := 41) d_Mo_build_29 (by decide) rfl (fun h9 => ?_) (fun h9 => ?_)
          · refine ev_iconst d_Mo_build_41 rfl ⟨by decide, by decide⟩ ?_
            refine ev_goto (tgt := 46) d_Mo_build_42 (by decide) ?_
            refine ev_istore (i := 6) d_Mo_build_46 rfl (by decide) rfl ?_
            exact K48 _ (by simp only [j_ok]; omega)
          · refine ev_aload_n (i := 0) d_Mo_build_32 rfl rfl rfl ?_
            refine ev_iload (i := 5) d_Mo_build_33 rfl rfl ?_
            refine ev_callV (As := [g_i z]) d_Mo_build_35 rfl cl_Mo_133 (c_Mo_isTerm (d + 0) M z) (g_hR (by decide)) g_h0 lx_45 rfl rfl (Nat.le_of_ble_eq_true rfl) rfl rfl ?_
            refine ev_beq (tgt := 45) d_Mo_build_38 (by decide) rfl (fun h10 => ?_) (fun h10 => ?_)
            · refine ev_iconst d_Mo_build_45 rfl ⟨by decide, by decide⟩ ?_
              refine ev_istore (i := 6) d_Mo_build_46 rfl (by decide) rfl ?_
              exact K48 _ (by simp only [j_ok]; omega)
            · refine ev_iconst d_Mo_build_41 rfl ⟨by decide, by decide⟩ ?_
              refine ev_goto (tgt := 46) d_Mo_build_42 (by decide) ?_
              refine ev_istore (i := 6) d_Mo_build_46 rfl (by decide) rfl ?_
              exact K48 _ (by simp only [j_ok]; omega)
    · refine ev_aload_n (i := 0) d_Mo_build_5 rfl rfl rfl ?_
      refine ev_iload_n (i := 3) d_Mo_build_6 rfl rfl rfl ?_
      refine ev_callV (As := [g_i x]) d_Mo_build_7 rfl cl_Mo_133 (c_Mo_isTerm (d + 0) M x) (g_hR (by decide)) g_h0 lx_45 rfl rfl (Nat.le_of_ble_eq_true rfl) rfl rfl ?_
      refine ev_beq (tgt := 45) d_Mo_build_10 (by decide) rfl (fun h11 => ?_) (fun h11 => ?_)
      · refine ev_iconst d_Mo_build_45 rfl ⟨by decide, by decide⟩ ?_
        refine ev_istore (i := 6) d_Mo_build_46 rfl (by decide) rfl ?_
        exact K48 _ (by simp only [j_ok]; omega)
      · refine ev_iload_n (i := 2) d_Mo_build_13 rfl rfl rfl ?_
        refine ev_iconst d_Mo_build_14 rfl ⟨by decide, by decide⟩ ?_
        refine ev_icmp_lt (tgt := 27) d_Mo_build_15 (by decide) rfl (fun h12 => ?_) (fun h12 => ?_)
        · refine ev_iload_n (i := 2) d_Mo_build_27 rfl rfl rfl ?_
          refine ev_iconst d_Mo_build_28 rfl ⟨by decide, by decide⟩ ?_
          refine ev_icmp_lt (tgt := 41) d_Mo_build_29 (by decide) rfl (fun h13 => ?_) (fun h13 => ?_)
          · refine ev_iconst d_Mo_build_41 rfl ⟨by decide, by decide⟩ ?_
            refine ev_goto (tgt := 46) d_Mo_build_42 (by decide) ?_
            refine ev_istore (i := 6) d_Mo_build_46 rfl (by decide) rfl ?_
            exact K48 _ (by simp only [j_ok]; omega)
          · refine ev_aload_n (i := 0) d_Mo_build_32 rfl rfl rfl ?_
            refine ev_iload (i := 5) d_Mo_build_33 rfl rfl ?_
            refine ev_callV (As := [g_i z]) d_Mo_build_35 rfl cl_Mo_133 (c_Mo_isTerm (d + 0) M z) (g_hR (by decide)) g_h0 lx_45 rfl rfl (Nat.le_of_ble_eq_true rfl) rfl rfl ?_
            refine ev_beq (tgt := 45) d_Mo_build_38 (by decide) rfl (fun h14 => ?_) (fun h14 => ?_)
            · refine ev_iconst d_Mo_build_45 rfl ⟨by decide, by decide⟩ ?_
              refine ev_istore (i := 6) d_Mo_build_46 rfl (by decide) rfl ?_
              exact K48 _ (by simp only [j_ok]; omega)
            · refine ev_iconst d_Mo_build_41 rfl ⟨by decide, by decide⟩ ?_
              refine ev_goto (tgt := 46) d_Mo_build_42 (by decide) ?_
              refine ev_istore (i := 6) d_Mo_build_46 rfl (by decide) rfl ?_
              exact K48 _ (by simp only [j_ok]; omega)
        · refine ev_aload_n (i := 0) d_Mo_build_18 rfl rfl rfl ?_
          refine ev_iload (i := 4) d_Mo_build_19 rfl rfl ?_
          refine ev_callV (As := [g_i y]) d_Mo_build_21 rfl cl_Mo_133 (c_Mo_isTerm (d + 0) M y) (g_hR (by decide)) g_h0 lx_45 rfl rfl (Nat.le_of_ble_eq_true rfl) rfl rfl ?_
          refine ev_beq (tgt := 45) d_Mo_build_24 (by decide) rfl (fun h15 => ?_) (fun h15 => ?_)
          · refine ev_iconst d_Mo_build_45 rfl ⟨by decide, by decide⟩ ?_
            refine ev_istore (i := 6) d_Mo_build_46 rfl (by decide) rfl ?_
            exact K48 _ (by simp only [j_ok]; omega)
          · refine ev_iload_n (i := 2) d_Mo_build_27 rfl rfl rfl ?_
            refine ev_iconst d_Mo_build_28 rfl ⟨by decide, by decide⟩ ?_
            refine ev_icmp_lt (tgt := 41) d_Mo_build_29 (by decide) rfl (fun h16 => ?_) (fun h16 => ?_)
            · refine ev_iconst d_Mo_build_41 rfl ⟨by decide, by decide⟩ ?_
              refine ev_goto (tgt := 46) d_Mo_build_42 (by decide) ?_
              refine ev_istore (i := 6) d_Mo_build_46 rfl (by decide) rfl ?_
              exact K48 _ (by simp only [j_ok]; omega)
            · refine ev_aload_n (i := 0) d_Mo_build_32 rfl rfl rfl ?_
              refine ev_iload (i := 5) d_Mo_build_33 rfl rfl ?_
              refine ev_callV (As := [g_i z]) d_Mo_build_35 rfl cl_Mo_133 (c_Mo_isTerm (d + 0) M z) (g_hR (by decide)) g_h0 lx_45 rfl rfl (Nat.le_of_ble_eq_true rfl) rfl rfl ?_
              refine ev_beq (tgt := 45) d_Mo_build_38 (by decide) rfl (fun h17 => ?_) (fun h17 => ?_)
              · refine ev_iconst d_Mo_build_45 rfl ⟨by decide, by decide⟩ ?_
                refine ev_istore (i := 6) d_Mo_build_46 rfl (by decide) rfl ?_
                exact K48 _ (by simp only [j_ok]; omega)
              · refine ev_iconst d_Mo_build_41 rfl ⟨by decide, by decide⟩ ?_
                refine ev_goto (tgt := 46) d_Mo_build_42 (by decide) ?_
                refine ev_istore (i := 6) d_Mo_build_46 rfl (by decide) rfl ?_
                exact K48 _ (by simp only [j_ok]; omega)
theorem c_Mo_build_x2 (d : Nat) (M : g_M) (w : Nat) (h x y z : Int) (hw : w ≤ 3) (hB : j_B (M 45 8) (M 54) (M 55)) (hf : j_fit (M 45 8) (M 54) (M 55) x y z w) (hn : M 45 8 = 100) : Con y_Mo_build w_Mo_build (g_rm (d + 1)) LX M [g_r 45, g_i h, g_i (w : Int), g_i x, g_i y, g_i z] LX (g_up M 45 44 2) (some (g_i 0)) := by
  refine con_of (av := [g_r 45, g_i h, g_i (w : Int), g_i x, g_i y, g_i z]) (ls0 := [some (g_r 45), some (g_i h), some (g_i (w : Int)), some (g_i x), some (g_i y), some (g_i z), none, none, none, none, none]) (by decide) rfl (Nat.le_of_ble_eq_true rfl) (g_hls (av := [g_r 45, g_i h, g_i (w : Int), g_i x, g_i y, g_i z]) (k := 5)) (fun _ h9 => List.mem_cons_of_mem _ h9) ?_
  have hb1 := hB.1
  have ho : j_ok (M 45 8) x y z w := hf.1
  have hf2 : j_h (M 54) x y z w < 6 := hf.2.1
  have hf3 : j_s (M 55) x y z w ≤ 40 := hf.2.2
  refine ev_jn 48 (fun v9 => [some (g_r 45), some (g_i h), some (g_i (w : Int)), some (g_i x), some (g_i y), some (g_i z), some (g_i v9), none, none, none, none]) (fun v9 => []) M (fun v9 => v9 = if j_ok (M 45 8) x y z w then 1 else 0) ?_ (fun K48 => ?_)
  · intro v9 hv9; subst hv9
    refine ev_iconst d_Mo_build_48 rfl ⟨by decide, by decide⟩ ?_
    refine ev_istore (i := 7) d_Mo_build_49 rfl (by decide) rfl ?_
    refine ev_iconst d_Mo_build_51 rfl ⟨by decide, by decide⟩ ?_
    refine ev_istore (i := 8) d_Mo_build_52 rfl (by decide) rfl ?_
    refine ev_iconst d_Mo_build_54 rfl ⟨by decide, by decide⟩ ?_
    refine ev_istore (i := 9) d_Mo_build_55 rfl (by decide) rfl ?_
    refine ev_lp (fun i : Nat => [some (g_r 45), some (g_i h), some (g_i (w : Int)), some (g_i x), some (g_i y), some (g_i z), some (g_i (if j_ok (M 45 8) x y z w then 1 else 0)), some (g_i (j_h (M 54) x y z i)), some (g_i (j_s (M 55) x y z i)), some (g_i (i : Int)), none]) (fun i : Nat => M) w ?_ ?_ (rfl) (rfl)
    · intro i hi K57
      have hp := j_pk_in ho hw hi
      have hs1 := j_s_rg hB ho hw i (by omega)
      have hs2 := j_at hB hp
      refine ev_iload (i := 9) d_Mo_build_57 rfl rfl ?_
      refine ev_iload_n (i := 2) d_Mo_build_59 rfl rfl rfl ?_
      refine ev_icmp_ge_f (tgt := 136) d_Mo_build_60 (by decide) rfl (by omega) ?_
      refine ev_iload (i := 6) d_Mo_build_63 rfl rfl ?_
      refine ev_if_eq_f (tgt := 136) d_Mo_build_65 (by decide) rfl (by rw [if_pos ho]; decide) ?_
      refine ev_jn 90 (fun v9 => [some (g_r 45), some (g_i h), some (g_i (w : Int)), some (g_i x), some (g_i y), some (g_i z), some (g_i (if j_ok (M 45 8) x y z w then 1 else 0)), some (g_i (j_h (M 54) x y z i)), some (g_i (j_s (M 55) x y z i)), some (g_i (i : Int)), none]) (fun v9 => [g_i v9]) M (fun v9 => v9 = j_pk x y z i) ?_ (fun K90 => ?_)
      · intro v9 hv9; subst hv9
        refine ev_istore (i := 10) d_Mo_build_90 rfl (by decide) rfl ?_
        refine ev_jn 116 (fun v9 => [some (g_r 45), some (g_i h), some (g_i (w : Int)), some (g_i x), some (g_i y), some (g_i z), some (g_i (if j_ok (M 45 8) x y z w then 1 else 0)), some (g_i (j_h (M 54) x y z i)), some (g_i (j_s (M 55) x y z i)), some (g_i (i : Int)), some (g_i (j_pk x y z i))]) (fun v9 => [g_i v9]) M (fun v9 => v9 = j_h (M 54) x y z (i + 1)) ?_ (fun K116 => ?_)
        · intro v9 hv9; subst hv9
          refine ev_istore (i := 7) d_Mo_build_116 rfl (by decide) rfl ?_
          refine ev_iload (i := 8) d_Mo_build_118 rfl rfl ?_
          refine ev_aload_n (i := 0) d_Mo_build_120 rfl rfl rfl ?_
          refine ev_getR d_Mo_build_121 rfl lk_Mo_37 lx_45 rfl ?_
          refine ev_iload (i := 10) d_Mo_build_124 rfl rfl ?_
          refine ev_iaload (z := M 55 (j_pk x y z i).toNat) d_Mo_build_126 rfl lx_55 (by omega) (by omega) (rfl) ?_
          refine ev_iadd (z := j_s (M 55) x y z (i + 1)) d_Mo_build_127 rfl (g_w_id (by unfold g_rg; omega)) ?_
          refine ev_istore (i := 8) d_Mo_build_128 rfl (by decide) rfl ?_
          refine ev_iinc (z := (i : Int) + 1) d_Mo_build_130 rfl rfl (by decide) (g_w_id (by unfold g_rg; omega)) rfl ?_
          refine ev_goto (tgt := 57) d_Mo_build_133 (by decide) ?_
          exact ev_le K57 (rfl) ⟨rfl, rfl, rfl, rfl, rfl, rfl, rfl, rfl, rfl, rfl, trivial⟩
        · refine ev_aload_n (i := 0) d_Mo_build_92 rfl rfl rfl ?_
          refine ev_getR d_Mo_build_93 rfl lk_Mo_34 lx_45 rfl ?_
          refine ev_iload (i := 10) d_Mo_build_96 rfl rfl ?_
          refine ev_iaload (z := M 54 (j_pk x y z i).toNat) d_Mo_build_98 rfl lx_54 (by omega) (by omega) (rfl) ?_
          refine ev_iload (i := 7) d_Mo_build_99 rfl rfl ?_
          refine ev_icmp_le (tgt := 114) d_Mo_build_101 (by decide) rfl (fun h1 => ?_) (fun h1 => ?_)
          · refine ev_iload (i := 7) d_Mo_build_114 rfl rfl ?_
            exact K116 _ (by rw [show j_h (M 54) x y z (i + 1) = if j_h (M 54) x y z i < M 54 (j_pk x y z i).toNat then M 54 (j_pk x y z i).toNat else j_h (M 54) x y z i from rfl]; omega)
          · refine ev_aload_n (i := 0) d_Mo_build_104 rfl rfl rfl ?_
            refine ev_getR d_Mo_build_105 rfl lk_Mo_34 lx_45 rfl ?_
            refine ev_iload (i := 10) d_Mo_build_108 rfl rfl ?_
            refine ev_iaload (z := M 54 (j_pk x y z i).toNat) d_Mo_build_110 rfl lx_54 (by omega) (by omega) (rfl) ?_
            refine ev_goto (tgt := 116) d_Mo_build_111 (by decide) ?_
            exact K116 _ (by rw [show j_h (M 54) x y z (i + 1) = if j_h (M 54) x y z i < M 54 (j_pk x y z i).toNat then M 54 (j_pk x y z i).toNat else j_h (M 54) x y z i from rfl]; omega)
      · refine ev_iload (i := 9) d_Mo_build_68 rfl rfl ?_
        refine ev_if_ne (tgt := 77) d_Mo_build_70 (by decide) rfl (fun h2 => ?_) (fun h2 => ?_)
        · refine ev_iload (i := 9) d_Mo_build_77 rfl rfl ?_
          refine ev_iconst d_Mo_build_79 rfl ⟨by decide, by decide⟩ ?_
          refine ev_icmp_ne (tgt := 88) d_Mo_build_80 (by decide) rfl (fun h3 => ?_) (fun h3 => ?_)
          · refine ev_iload (i := 5) d_Mo_build_88 rfl rfl ?_
            exact K90 _ (by simp only [j_pk]; omega)
          · refine ev_iload (i := 4) d_Mo_build_83 rfl rfl ?_
            refine ev_goto (tgt := 90) d_Mo_build_85 (by decide) ?_
            exact K90 _ (by simp only [j_pk]; omega)
        · refine ev_iload_n (i := 3) d_Mo_build_73 rfl rfl rfl ?_
          refine ev_goto (tgt := 90) d_Mo_build_74 (by decide) ?_
          exact K90 _ (by simp only [j_pk]; omega)
    · have hs1 := j_s_rg hB ho hw w (Nat.le_refl _)
      have hh1 := j_h_rg hB ho hw w (Nat.le_refl _)
      refine ev_iload (i := 9) d_Mo_build_57 rfl rfl ?_
      refine ev_iload_n (i := 2) d_Mo_build_59 rfl rfl rfl ?_
      refine ev_icmp_ge_t (tgt := 136) d_Mo_build_60 (by decide) (by omega) ?_
      refine ev_aload_n (i := 0) d_Mo_build_136 rfl rfl rfl ?_
      refine ev_iload (i := 6) d_Mo_build_137 rfl rfl ?_
      refine ev_if_eq_f (tgt := 158) d_Mo_build_139 (by decide) rfl (by rw [if_pos ho]; decide) ?_
      refine ev_iload (i := 7) d_Mo_build_142 rfl rfl ?_
      refine ev_iconst d_Mo_build_144 rfl ⟨by decide, by decide⟩ ?_
      refine ev_iadd (z := (j_h (M 54) x y z w) + 1) d_Mo_build_145 rfl (g_w_id (by unfold g_rg; omega)) ?_
      refine ev_bipush d_Mo_build_146 rfl (by decide +kernel) ⟨by decide, by decide⟩ ?_
      refine ev_icmp_gt_f (tgt := 158) d_Mo_build_148 (by decide) rfl (by omega) ?_
      refine ev_iload (i := 8) d_Mo_build_151 rfl rfl ?_
      refine ev_bipush d_Mo_build_153 rfl (by decide +kernel) ⟨by decide, by decide⟩ ?_
      refine ev_icmp_le_t (tgt := 162) d_Mo_build_155 (by decide) (by omega) ?_
      refine ev_aload_n (i := 0) d_Mo_build_162 rfl rfl rfl ?_
      refine ev_getI (z := M 45 8) d_Mo_build_163 rfl lk_Mo_130 lx_45 rfl (rfl) ?_
      refine ev_bipush d_Mo_build_166 rfl (by decide +kernel) ⟨by decide, by decide⟩ ?_
      refine ev_icmp_ne_f (tgt := 175) d_Mo_build_168 (by decide) rfl (by omega) ?_
      refine ev_iconst d_Mo_build_171 rfl ⟨by decide, by decide⟩ ?_
      refine ev_goto (tgt := 176) d_Mo_build_172 (by decide) ?_
      refine ev_putI d_Mo_build_176 rfl lk_Mo_104 fp_Mo_44 (Or.inl rfl) lx_45 rfl ?_
      refine ev_aload_n (i := 0) d_Mo_build_179 rfl rfl rfl ?_
      refine ev_getI (z := 2) d_Mo_build_180 rfl lk_Mo_104 lx_45 rfl (by simp [g_up]) ?_
      refine ev_if_eq_f (tgt := 188) d_Mo_build_183 (by decide) rfl (by decide) ?_
      refine ev_iconst d_Mo_build_186 rfl ⟨by decide, by decide⟩ ?_
      exact ev_retI d_Mo_build_187 (by first | rfl | omega | simp_all) rfl (Or.inl rfl)
  · refine ev_iload_n (i := 2) d_Mo_build_0 rfl rfl rfl ?_
    refine ev_iconst d_Mo_build_1 rfl ⟨by decide, by decide⟩ ?_
    refine ev_icmp_lt (tgt := 13) d_Mo_build_2 (by decide) rfl (fun h4 => ?_) (fun h4 => ?_)
    · refine ev_iload_n (i := 2) d_Mo_build_13 rfl rfl rfl ?_
      refine ev_iconst d_Mo_build_14 rfl ⟨by decide, by decide⟩ ?_
      refine ev_icmp_lt (tgt := 27) d_Mo_build_15 (by decide) rfl (fun h5 => ?_) (fun h5 => ?_)
      · refine ev_iload_n (i := 2) d_Mo_build_27 rfl rfl rfl ?_
        refine ev_iconst d_Mo_build_28 rfl ⟨by decide, by decide⟩ ?_
        refine ev_icmp_lt (tgt := 41) d_Mo_build_29 (by decide) rfl (fun h6 => ?_) (fun h6 => ?_)
        · refine ev_iconst d_Mo_build_41 rfl ⟨by decide, by decide⟩ ?_
          refine ev_goto (tgt := 46) d_Mo_build_42 (by decide) ?_
          refine ev_istore (i := 6) d_Mo_build_46 rfl (by decide) rfl ?_
          exact K48 _ (by simp only [j_ok]; omega)
        · refine ev_aload_n (i := 0) d_Mo_build_32 rfl rfl rfl ?_
          refine ev_iload (i := 5) d_Mo_build_33 rfl rfl ?_
          refine ev_callV (As := [g_i z]) d_Mo_build_35 rfl cl_Mo_133 (c_Mo_isTerm (d + 0) M z) (g_hR (by decide)) g_h0 lx_45 rfl rfl (Nat.le_of_ble_eq_true rfl) rfl rfl ?_
          refine ev_beq (tgt := 45) d_Mo_build_38 (by decide) rfl (fun h7 => ?_) (fun h7 => ?_)
          · refine ev_iconst d_Mo_build_45 rfl ⟨by decide, by decide⟩ ?_
            refine ev_istore (i := 6) d_Mo_build_46 rfl (by decide) rfl ?_
            exact K48 _ (by simp only [j_ok]; omega)
          · refine ev_iconst d_Mo_build_41 rfl ⟨by decide, by decide⟩ ?_
            refine ev_goto (tgt := 46) d_Mo_build_42 (by decide) ?_
            refine ev_istore (i := 6) d_Mo_build_46 rfl (by decide) rfl ?_
            exact K48 _ (by simp only [j_ok]; omega)
      · refine ev_aload_n (i := 0) d_Mo_build_18 rfl rfl rfl ?_
        refine ev_iload (i := 4) d_Mo_build_19 rfl rfl ?_
        refine ev_callV (As := [g_i y]) d_Mo_build_21 rfl cl_Mo_133 (c_Mo_isTerm (d + 0) M y) (g_hR (by decide)) g_h0 lx_45 rfl rfl (Nat.le_of_ble_eq_true rfl) rfl rfl ?_
        refine ev_beq (tgt := 45) d_Mo_build_24 (by decide) rfl (fun h8 => ?_) (fun h8 => ?_)
        · refine ev_iconst d_Mo_build_45 rfl ⟨by decide, by decide⟩ ?_
          refine ev_istore (i := 6) d_Mo_build_46 rfl (by decide) rfl ?_
          exact K48 _ (by simp only [j_ok]; omega)
        · refine ev_iload_n (i := 2) d_Mo_build_27 rfl rfl rfl ?_
          refine ev_iconst d_Mo_build_28 rfl ⟨by decide, by decide⟩ ?_
          refine ev_icmp_lt (tgt := 41) d_Mo_build_29 (by decide) rfl (fun h9 => ?_) (fun h9 => ?_)
          · refine ev_iconst d_Mo_build_41 rfl ⟨by decide, by decide⟩ ?_
            refine ev_goto (tgt := 46) d_Mo_build_42 (by decide) ?_
            refine ev_istore (i := 6) d_Mo_build_46 rfl (by decide) rfl ?_
            exact K48 _ (by simp only [j_ok]; omega)
          · refine ev_aload_n (i := 0) d_Mo_build_32 rfl rfl rfl ?_
            refine ev_iload (i := 5) d_Mo_build_33 rfl rfl ?_
            refine ev_callV (As := [g_i z]) d_Mo_build_35 rfl cl_Mo_133 (c_Mo_isTerm (d + 0) M z) (g_hR (by decide)) g_h0 lx_45 rfl rfl (Nat.le_of_ble_eq_true rfl) rfl rfl ?_
            refine ev_beq (tgt := 45) d_Mo_build_38 (by decide) rfl (fun h10 => ?_) (fun h10 => ?_)
            · refine ev_iconst d_Mo_build_45 rfl ⟨by decide, by decide⟩ ?_
              refine ev_istore (i := 6) d_Mo_build_46 rfl (by decide) rfl ?_
              exact K48 _ (by simp only [j_ok]; omega)
            · refine ev_iconst d_Mo_build_41 rfl ⟨by decide, by decide⟩ ?_
              refine ev_goto (tgt := 46) d_Mo_build_42 (by decide) ?_
              refine ev_istore (i := 6) d_Mo_build_46 rfl (by decide) rfl ?_
              exact K48 _ (by simp only [j_ok]; omega)
    · refine ev_aload_n (i := 0) d_Mo_build_5 rfl rfl rfl ?_
      refine ev_iload_n (i := 3) d_Mo_build_6 rfl rfl rfl ?_
      refine ev_callV (As := [g_i x]) d_Mo_build_7 rfl cl_Mo_133 (c_Mo_isTerm (d + 0) M x) (g_hR (by decide)) g_h0 lx_45 rfl rfl (Nat.le_of_ble_eq_true rfl) rfl rfl ?_
      refine ev_beq (tgt := 45) d_Mo_build_10 (by decide) rfl (fun h11 => ?_) (fun h11 => ?_)
      · refine ev_iconst d_Mo_build_45 rfl ⟨by decide, by decide⟩ ?_
        refine ev_istore (i := 6) d_Mo_build_46 rfl (by decide) rfl ?_
        exact K48 _ (by simp only [j_ok]; omega)
      · refine ev_iload_n (i := 2) d_Mo_build_13 rfl rfl rfl ?_
        refine ev_iconst d_Mo_build_14 rfl ⟨by decide, by decide⟩ ?_
        refine ev_icmp_lt (tgt := 27) d_Mo_build_15 (by decide) rfl (fun h12 => ?_) (fun h12 => ?_)
        · refine ev_iload_n (i := 2) d_Mo_build_27 rfl rfl rfl ?_
          refine ev_iconst d_Mo_build_28 rfl ⟨by decide, by decide⟩ ?_
          refine ev_icmp_lt (tgt := 41) d_Mo_build_29 (by decide) rfl (fun h13 => ?_) (fun h13 => ?_)
          · refine ev_iconst d_Mo_build_41 rfl ⟨by decide, by decide⟩ ?_
            refine ev_goto (tgt := 46) d_Mo_build_42 (by decide) ?_
            refine ev_istore (i := 6) d_Mo_build_46 rfl (by decide) rfl ?_
            exact K48 _ (by simp only [j_ok]; omega)
          · refine ev_aload_n (i := 0) d_Mo_build_32 rfl rfl rfl ?_
            refine ev_iload (i := 5) d_Mo_build_33 rfl rfl ?_
            refine ev_callV (As := [g_i z]) d_Mo_build_35 rfl cl_Mo_133 (c_Mo_isTerm (d + 0) M z) (g_hR (by decide)) g_h0 lx_45 rfl rfl (Nat.le_of_ble_eq_true rfl) rfl rfl ?_
            refine ev_beq (tgt := 45) d_Mo_build_38 (by decide) rfl (fun h14 => ?_) (fun h14 => ?_)
            · refine ev_iconst d_Mo_build_45 rfl ⟨by decide, by decide⟩ ?_
              refine ev_istore (i := 6) d_Mo_build_46 rfl (by decide) rfl ?_
              exact K48 _ (by simp only [j_ok]; omega)
            · refine ev_iconst d_Mo_build_41 rfl ⟨by decide, by decide⟩ ?_
              refine ev_goto (tgt := 46) d_Mo_build_42 (by decide) ?_
              refine ev_istore (i := 6) d_Mo_build_46 rfl (by decide) rfl ?_
              exact K48 _ (by simp only [j_ok]; omega)
        · refine ev_aload_n (i := 0) d_Mo_build_18 rfl rfl rfl ?_
          refine ev_iload (i := 4) d_Mo_build_19 rfl rfl ?_
          refine ev_callV (As := [g_i y]) d_Mo_build_21 rfl cl_Mo_133 (c_Mo_isTerm (d + 0) M y) (g_hR (by decide)) g_h0 lx_45 rfl rfl (Nat.le_of_ble_eq_true rfl) rfl rfl ?_
          refine ev_beq (tgt := 45) d_Mo_build_24 (by decide) rfl (fun h15 => ?_) (fun h15 => ?_)
          · refine ev_iconst d_Mo_build_45 rfl ⟨by decide, by decide⟩ ?_
            refine ev_istore (i := 6) d_Mo_build_46 rfl (by decide) rfl ?_
            exact K48 _ (by simp only [j_ok]; omega)
          · refine ev_iload_n (i := 2) d_Mo_build_27 rfl rfl rfl ?_
            refine ev_iconst d_Mo_build_28 rfl ⟨by decide, by decide⟩ ?_
            refine ev_icmp_lt (tgt := 41) d_Mo_build_29 (by decide) rfl (fun h16 => ?_) (fun h16 => ?_)
            · refine ev_iconst d_Mo_build_41 rfl ⟨by decide, by decide⟩ ?_
              refine ev_goto (tgt := 46) d_Mo_build_42 (by decide) ?_
              refine ev_istore (i := 6) d_Mo_build_46 rfl (by decide) rfl ?_
              exact K48 _ (by simp only [j_ok]; omega)
            · refine ev_aload_n (i := 0) d_Mo_build_32 rfl rfl rfl ?_
              refine ev_iload (i := 5) d_Mo_build_33 rfl rfl ?_
              refine ev_callV (As := [g_i z]) d_Mo_build_35 rfl cl_Mo_133 (c_Mo_isTerm (d + 0) M z) (g_hR (by decide)) g_h0 lx_45 rfl rfl (Nat.le_of_ble_eq_true rfl) rfl rfl ?_
              refine ev_beq (tgt := 45) d_Mo_build_38 (by decide) rfl (fun h17 => ?_) (fun h17 => ?_)
              · refine ev_iconst d_Mo_build_45 rfl ⟨by decide, by decide⟩ ?_
                refine ev_istore (i := 6) d_Mo_build_46 rfl (by decide) rfl ?_
                exact K48 _ (by simp only [j_ok]; omega)
              · refine ev_iconst d_Mo_build_41 rfl ⟨by decide, by decide⟩ ?_
                refine ev_goto (tgt := 46) d_Mo_build_42 (by decide) ?_
                refine ev_istore (i := 6) d_Mo_build_46 rfl (by decide) rfl ?_
                exact K48 _ (by simp only [j_ok]; omega)
theorem c_Mo_build_x1b (d : Nat) (M : g_M) (w : Nat) (h x y z : Int) (hw : w ≤ 3) (hB : j_B (M 45 8) (M 54) (M 55)) (ho : j_ok (M 45 8) x y z w) (hf : ¬ j_fit (M 45 8) (M 54) (M 55) x y z w) : Con y_Mo_build w_Mo_build (g_rm (d + 1)) LX M [g_r 45, g_i h, g_i (w : Int), g_i x, g_i y, g_i z] LX (g_up M 45 44 1) (some (g_i 0)) := by
  refine con_of (av := [g_r 45, g_i h, g_i (w : Int), g_i x, g_i y, g_i z]) (ls0 := [some (g_r 45), some (g_i h), some (g_i (w : Int)), some (g_i x), some (g_i y), some (g_i z), none, none, none, none, none]) (by decide) rfl (Nat.le_of_ble_eq_true rfl) (g_hls (av := [g_r 45, g_i h, g_i (w : Int), g_i x, g_i y, g_i z]) (k := 5)) (fun _ h9 => List.mem_cons_of_mem _ h9) ?_
  have hb1 := hB.1
  refine ev_jn 48 (fun v9 => [some (g_r 45), some (g_i h), some (g_i (w : Int)), some (g_i x), some (g_i y), some (g_i z), some (g_i v9), none, none, none, none]) (fun v9 => []) M (fun v9 => v9 = if j_ok (M 45 8) x y z w then 1 else 0) ?_ (fun K48 => ?_)
  · intro v9 hv9; subst hv9
    refine ev_iconst d_Mo_build_48 rfl ⟨by decide, by decide⟩ ?_
    refine ev_istore (i := 7) d_Mo_build_49 rfl (by decide) rfl ?_
    refine ev_iconst d_Mo_build_51 rfl ⟨by decide, by decide⟩ ?_
    refine ev_istore (i := 8) d_Mo_build_52 rfl (by decide) rfl ?_
    refine ev_iconst d_Mo_build_54 rfl ⟨by decide, by decide⟩ ?_
    refine ev_istore (i := 9) d_Mo_build_55 rfl (by decide) rfl ?_
    refine ev_lp (fun i : Nat => [some (g_r 45), some (g_i h), some (g_i (w : Int)), some (g_i x), some (g_i y), some (g_i z), some (g_i (if j_ok (M 45 8) x y z w then 1 else 0)), some (g_i (j_h (M 54) x y z i)), some (g_i (j_s (M 55) x y z i)), some (g_i (i : Int)), none]) (fun i : Nat => M) w ?_ ?_ (rfl) (rfl)
    · intro i hi K57
      have hp := j_pk_in ho hw hi
      have hs1 := j_s_rg hB ho hw i (by omega)
      have hs2 := j_at hB hp
      refine ev_iload (i := 9) d_Mo_build_57 rfl rfl ?_
      refine ev_iload_n (i := 2) d_Mo_build_59 rfl rfl rfl ?_
      refine ev_icmp_ge_f (tgt := 136) d_Mo_build_60 (by decide) rfl (by omega) ?_
      refine ev_iload (i := 6) d_Mo_build_63 rfl rfl ?_
      refine ev_if_eq_f (tgt := 136) d_Mo_build_65 (by decide) rfl (by rw [if_pos ho]; decide) ?_
      refine ev_jn 90 (fun v9 => [some (g_r 45), some (g_i h), some (g_i (w : Int)), some (g_i x), some (g_i y), some (g_i z), some (g_i (if j_ok (M 45 8) x y z w then 1 else 0)), some (g_i (j_h (M 54) x y z i)), some (g_i (j_s (M 55) x y z i)), some (g_i (i : Int)), none]) (fun v9 => [g_i v9]) M (fun v9 => v9 = j_pk x y z i) ?_ (fun K90 => ?_)
      · intro v9 hv9; subst hv9
        refine ev_istore (i := 10) d_Mo_build_90 rfl (by decide) rfl ?_
        refine ev_jn 116 (fun v9 => [some (g_r 45), some (g_i h), some (g_i (w : Int)), some (g_i x), some (g_i y), some (g_i z), some (g_i (if j_ok (M 45 8) x y z w then 1 else 0)), some (g_i (j_h (M 54) x y z i)), some (g_i (j_s (M 55) x y z i)), some (g_i (i : Int)), some (g_i (j_pk x y z i))]) (fun v9 => [g_i v9]) M (fun v9 => v9 = j_h (M 54) x y z (i + 1)) ?_ (fun K116 => ?_)
        · intro v9 hv9; subst hv9
          refine ev_istore (i := 7) d_Mo_build_116 rfl (by decide) rfl ?_
          refine ev_iload (i := 8) d_Mo_build_118 rfl rfl ?_
          refine ev_aload_n (i := 0) d_Mo_build_120 rfl rfl rfl ?_
          refine ev_getR d_Mo_build_121 rfl lk_Mo_37 lx_45 rfl ?_
          refine ev_iload (i := 10) d_Mo_build_124 rfl rfl ?_
          refine ev_iaload (z := M 55 (j_pk x y z i).toNat) d_Mo_build_126 rfl lx_55 (by omega) (by omega) (rfl) ?_
          refine ev_iadd (z := j_s (M 55) x y z (i + 1)) d_Mo_build_127 rfl (g_w_id (by unfold g_rg; omega)) ?_
          refine ev_istore (i := 8) d_Mo_build_128 rfl (by decide) rfl ?_
          refine ev_iinc (z := (i : Int) + 1) d_Mo_build_130 rfl rfl (by decide) (g_w_id (by unfold g_rg; omega)) rfl ?_
          refine ev_goto (tgt := 57) d_Mo_build_133 (by decide) ?_
          exact ev_le K57 (rfl) ⟨rfl, rfl, rfl, rfl, rfl, rfl, rfl, rfl, rfl, rfl, trivial⟩
        · refine ev_aload_n (i := 0) d_Mo_build_92 rfl rfl rfl ?_
          refine ev_getR d_Mo_build_93 rfl lk_Mo_34 lx_45 rfl ?_
          refine ev_iload (i := 10) d_Mo_build_96 rfl rfl ?_
          refine ev_iaload (z := M 54 (j_pk x y z i).toNat) d_Mo_build_98 rfl lx_54 (by omega) (by omega) (rfl) ?_
          refine ev_iload (i := 7) d_Mo_build_99 rfl rfl ?_
          refine ev_icmp_le (tgt := 114) d_Mo_build_101 (by decide) rfl (fun h1 => ?_) (fun h1 => ?_)
          · refine ev_iload (i := 7) d_Mo_build_114 rfl rfl ?_
            exact K116 _ (by rw [show j_h (M 54) x y z (i + 1) = if j_h (M 54) x y z i < M 54 (j_pk x y z i).toNat then M 54 (j_pk x y z i).toNat else j_h (M 54) x y z i from rfl]; omega)
          · refine ev_aload_n (i := 0) d_Mo_build_104 rfl rfl rfl ?_
            refine ev_getR d_Mo_build_105 rfl lk_Mo_34 lx_45 rfl ?_
            refine ev_iload (i := 10) d_Mo_build_108 rfl rfl ?_
            refine ev_iaload (z := M 54 (j_pk x y z i).toNat) d_Mo_build_110 rfl lx_54 (by omega) (by omega) (rfl) ?_
            refine ev_goto (tgt := 116) d_Mo_build_111 (by decide) ?_
            exact K116 _ (by rw [show j_h (M 54) x y z (i + 1) = if j_h (M 54) x y z i < M 54 (j_pk x y z i).toNat then M 54 (j_pk x y z i).toNat else j_h (M 54) x y z i from rfl]; omega)
      · refine ev_iload (i := 9) d_Mo_build_68 rfl rfl ?_
        refine ev_if_ne (tgt := 77) d_Mo_build_70 (by decide) rfl (fun h2 => ?_) (fun h2 => ?_)
        · refine ev_iload (i := 9) d_Mo_build_77 rfl rfl ?_
          refine ev_iconst d_Mo_build_79 rfl ⟨by decide, by decide⟩ ?_
          refine ev_icmp_ne (tgt := 88) d_Mo_build_80 (by decide) rfl (fun h3 => ?_) (fun h3 => ?_)
          · refine ev_iload (i := 5) d_Mo_build_88 rfl rfl ?_
            exact K90 _ (by simp only [j_pk]; omega)
          · refine ev_iload (i := 4) d_Mo_build_83 rfl rfl ?_
            refine ev_goto (tgt := 90) d_Mo_build_85 (by decide) ?_
            exact K90 _ (by simp only [j_pk]; omega)
        · refine ev_iload_n (i := 3) d_Mo_build_73 rfl rfl rfl ?_
          refine ev_goto (tgt := 90) d_Mo_build_74 (by decide) ?_
          exact K90 _ (by simp only [j_pk]; omega)
    · have hs1 := j_s_rg hB ho hw w (Nat.le_refl _)
      have hh1 := j_h_rg hB ho hw w (Nat.le_refl _)
      refine ev_iload (i := 9) d_Mo_build_57 rfl rfl ?_
      refine ev_iload_n (i := 2) d_Mo_build_59 rfl rfl rfl ?_
      refine ev_icmp_ge_t (tgt := 136) d_Mo_build_60 (by decide) (by omega) ?_
      refine ev_aload_n (i := 0) d_Mo_build_136 rfl rfl rfl ?_
      refine ev_iload (i := 6) d_Mo_build_137 rfl rfl ?_
      refine ev_if_eq_f (tgt := 158) d_Mo_build_139 (by decide) rfl (by rw [if_pos ho]; decide) ?_
      refine ev_iload (i := 7) d_Mo_build_142 rfl rfl ?_
      refine ev_iconst d_Mo_build_144 rfl ⟨by decide, by decide⟩ ?_
      refine ev_iadd (z := (j_h (M 54) x y z w) + 1) d_Mo_build_145 rfl (g_w_id (by unfold g_rg; omega)) ?_
      refine ev_bipush d_Mo_build_146 rfl (by decide +kernel) ⟨by decide, by decide⟩ ?_
      refine ev_icmp_gt (tgt := 158) d_Mo_build_148 (by decide) rfl (fun h4 => ?_) (fun h4 => ?_)
      · refine ev_iconst d_Mo_build_158 rfl ⟨by decide, by decide⟩ ?_
        refine ev_goto (tgt := 176) d_Mo_build_159 (by decide) ?_
        refine ev_putI d_Mo_build_176 rfl lk_Mo_104 fp_Mo_44 (Or.inl rfl) lx_45 rfl ?_
        refine ev_aload_n (i := 0) d_Mo_build_179 rfl rfl rfl ?_
        refine ev_getI (z := 1) d_Mo_build_180 rfl lk_Mo_104 lx_45 rfl (by simp [g_up]) ?_
        refine ev_if_eq_f (tgt := 188) d_Mo_build_183 (by decide) rfl (by decide) ?_
        refine ev_iconst d_Mo_build_186 rfl ⟨by decide, by decide⟩ ?_
        exact ev_retI d_Mo_build_187 (by first | rfl | omega | simp_all) rfl (Or.inl rfl)
      · refine ev_iload (i := 8) d_Mo_build_151 rfl rfl ?_
        refine ev_bipush d_Mo_build_153 rfl (by decide +kernel) ⟨by decide, by decide⟩ ?_
        refine ev_icmp_le_f (tgt := 162) d_Mo_build_155 (by decide) rfl (fun h9 => hf ⟨ho, by omega, h9⟩) ?_
        refine ev_iconst d_Mo_build_158 rfl ⟨by decide, by decide⟩ ?_
        refine ev_goto (tgt := 176) d_Mo_build_159 (by decide) ?_
        refine ev_putI d_Mo_build_176 rfl lk_Mo_104 fp_Mo_44 (Or.inl rfl) lx_45 rfl ?_
        refine ev_aload_n (i := 0) d_Mo_build_179 rfl rfl rfl ?_
        refine ev_getI (z := 1) d_Mo_build_180 rfl lk_Mo_104 lx_45 rfl (by simp [g_up]) ?_
        refine ev_if_eq_f (tgt := 188) d_Mo_build_183 (by decide) rfl (by decide) ?_
        refine ev_iconst d_Mo_build_186 rfl ⟨by decide, by decide⟩ ?_
        exact ev_retI d_Mo_build_187 (by first | rfl | omega | simp_all) rfl (Or.inl rfl)
  · refine ev_iload_n (i := 2) d_Mo_build_0 rfl rfl rfl ?_
    refine ev_iconst d_Mo_build_1 rfl ⟨by decide, by decide⟩ ?_
    refine ev_icmp_lt (tgt := 13) d_Mo_build_2 (by decide) rfl (fun h5 => ?_) (fun h5 => ?_)
    · refine ev_iload_n (i := 2) d_Mo_build_13 rfl rfl rfl ?_
      refine ev_iconst d_Mo_build_14 rfl ⟨by decide, by decide⟩ ?_
      refine ev_icmp_lt (tgt := 27) d_Mo_build_15 (by decide) rfl (fun h6 => ?_) (fun h6 => ?_)
      · refine ev_iload_n (i := 2) d_Mo_build_27 rfl rfl rfl ?_
        refine ev_iconst d_Mo_build_28 rfl ⟨by decide, by decide⟩ ?_
        refine ev_icmp_lt (tgt := 41) d_Mo_build_29 (by decide) rfl (fun h7 => ?_) (fun h7 => ?_)
        · refine ev_iconst d_Mo_build_41 rfl ⟨by decide, by decide⟩ ?_
          refine ev_goto (tgt := 46) d_Mo_build_42 (by decide) ?_
          refine ev_istore (i := 6) d_Mo_build_46 rfl (by decide) rfl ?_
          exact K48 _ (by simp only [j_ok]; omega)
        · refine ev_aload_n (i := 0) d_Mo_build_32 rfl rfl rfl ?_
          refine ev_iload (i := 5) d_Mo_build_33 rfl rfl ?_
          refine ev_callV (As := [g_i z]) d_Mo_build_35 rfl cl_Mo_133 (c_Mo_isTerm (d + 0) M z) (g_hR (by decide)) g_h0 lx_45 rfl rfl (Nat.le_of_ble_eq_true rfl) rfl rfl ?_
          refine ev_beq (tgt := 45) d_Mo_build_38 (by decide) rfl (fun h8 => ?_) (fun h8 => ?_)
          · refine ev_iconst d_Mo_build_45 rfl ⟨by decide, by decide⟩ ?_
            refine ev_istore (i := 6) d_Mo_build_46 rfl (by decide) rfl ?_
            exact K48 _ (by simp only [j_ok]; omega)
          · refine ev_iconst d_Mo_build_41 rfl ⟨by decide, by decide⟩ ?_
            refine ev_goto (tgt := 46) d_Mo_build_42 (by decide) ?_
            refine ev_istore (i := 6) d_Mo_build_46 rfl (by decide) rfl ?_
            exact K48 _ (by simp only [j_ok]; omega)
      · refine ev_aload_n (i := 0) d_Mo_build_18 rfl rfl rfl ?_
        refine ev_iload (i := 4) d_Mo_build_19 rfl rfl ?_
        refine ev_callV (As := [g_i y]) d_Mo_build_21 rfl cl_Mo_133 (c_Mo_isTerm (d + 0) M y) (g_hR (by decide)) g_h0 lx_45 rfl rfl (Nat.le_of_ble_eq_true rfl) rfl rfl ?_
        refine ev_beq (tgt := 45) d_Mo_build_24 (by decide) rfl (fun h9 => ?_) (fun h9 => ?_)
        · refine ev_iconst d_Mo_build_45 rfl ⟨by decide, by decide⟩ ?_
          refine ev_istore (i := 6) d_Mo_build_46 rfl (by decide) rfl ?_
          exact K48 _ (by simp only [j_ok]; omega)
        · refine ev_iload_n (i := 2) d_Mo_build_27 rfl rfl rfl ?_
          refine ev_iconst d_Mo_build_28 rfl ⟨by decide, by decide⟩ ?_
          refine ev_icmp_lt (tgt := 41) d_Mo_build_29 (by decide) rfl (fun h10 => ?_) (fun h10 => ?_)
          · refine ev_iconst d_Mo_build_41 rfl ⟨by decide, by decide⟩ ?_
            refine ev_goto (tgt := 46) d_Mo_build_42 (by decide) ?_
            refine ev_istore (i := 6) d_Mo_build_46 rfl (by decide) rfl ?_
            exact K48 _ (by simp only [j_ok]; omega)
          · refine ev_aload_n (i := 0) d_Mo_build_32 rfl rfl rfl ?_
            refine ev_iload (i := 5) d_Mo_build_33 rfl rfl ?_
            refine ev_callV (As := [g_i z]) d_Mo_build_35 rfl cl_Mo_133 (c_Mo_isTerm (d + 0) M z) (g_hR (by decide)) g_h0 lx_45 rfl rfl (Nat.le_of_ble_eq_true rfl) rfl rfl ?_
            refine ev_beq (tgt := 45) d_Mo_build_38 (by decide) rfl (fun h11 => ?_) (fun h11 => ?_)
            · refine ev_iconst d_Mo_build_45 rfl ⟨by decide, by decide⟩ ?_
              refine ev_istore (i := 6) d_Mo_build_46 rfl (by decide) rfl ?_
              exact K48 _ (by simp only [j_ok]; omega)
            · refine ev_iconst d_Mo_build_41 rfl ⟨by decide, by decide⟩ ?_
              refine ev_goto (tgt := 46) d_Mo_build_42 (by decide) ?_
              refine ev_istore (i := 6) d_Mo_build_46 rfl (by decide) rfl ?_
              exact K48 _ (by simp only [j_ok]; omega)
    · refine ev_aload_n (i := 0) d_Mo_build_5 rfl rfl rfl ?_
      refine ev_iload_n (i := 3) d_Mo_build_6 rfl rfl rfl ?_
      refine ev_callV (As := [g_i x]) d_Mo_build_7 rfl cl_Mo_133 (c_Mo_isTerm (d + 0) M x) (g_hR (by decide)) g_h0 lx_45 rfl rfl (Nat.le_of_ble_eq_true rfl) rfl rfl ?_
      refine ev_beq (tgt := 45) d_Mo_build_10 (by decide) rfl (fun h12 => ?_) (fun h12 => ?_)
      · refine ev_iconst d_Mo_build_45 rfl ⟨by decide, by decide⟩ ?_
        refine ev_istore (i := 6) d_Mo_build_46 rfl (by decide) rfl ?_
        exact K48 _ (by simp only [j_ok]; omega)
      · refine ev_iload_n (i := 2) d_Mo_build_13 rfl rfl rfl ?_
        refine ev_iconst d_Mo_build_14 rfl ⟨by decide, by decide⟩ ?_
        refine ev_icmp_lt (tgt := 27) d_Mo_build_15 (by decide) rfl (fun h13 => ?_) (fun h13 => ?_)
        · refine ev_iload_n (i := 2) d_Mo_build_27 rfl rfl rfl ?_
          refine ev_iconst d_Mo_build_28 rfl ⟨by decide, by decide⟩ ?_
          refine ev_icmp_lt (tgt := 41) d_Mo_build_29 (by decide) rfl (fun h14 => ?_) (fun h14 => ?_)
          · refine ev_iconst d_Mo_build_41 rfl ⟨by decide, by decide⟩ ?_
            refine ev_goto (tgt := 46) d_Mo_build_42 (by decide) ?_
            refine ev_istore (i := 6) d_Mo_build_46 rfl (by decide) rfl ?_
            exact K48 _ (by simp only [j_ok]; omega)
          · refine ev_aload_n (i := 0) d_Mo_build_32 rfl rfl rfl ?_
            refine ev_iload (i := 5) d_Mo_build_33 rfl rfl ?_
            refine ev_callV (As := [g_i z]) d_Mo_build_35 rfl cl_Mo_133 (c_Mo_isTerm (d + 0) M z) (g_hR (by decide)) g_h0 lx_45 rfl rfl (Nat.le_of_ble_eq_true rfl) rfl rfl ?_
            refine ev_beq (tgt := 45) d_Mo_build_38 (by decide) rfl (fun h15 => ?_) (fun h15 => ?_)
            · refine ev_iconst d_Mo_build_45 rfl ⟨by decide, by decide⟩ ?_
              refine ev_istore (i := 6) d_Mo_build_46 rfl (by decide) rfl ?_
              exact K48 _ (by simp only [j_ok]; omega)
            · refine ev_iconst d_Mo_build_41 rfl ⟨by decide, by decide⟩ ?_
              refine ev_goto (tgt := 46) d_Mo_build_42 (by decide) ?_
              refine ev_istore (i := 6) d_Mo_build_46 rfl (by decide) rfl ?_
              exact K48 _ (by simp only [j_ok]; omega)
        · refine ev_aload_n (i := 0) d_Mo_build_18 rfl rfl rfl ?_
          refine ev_iload (i := 4) d_Mo_build_19 rfl rfl ?_
          refine ev_callV (As := [g_i y]) d_Mo_build_21 rfl cl_Mo_133 (c_Mo_isTerm (d + 0) M y) (g_hR (by decide)) g_h0 lx_45 rfl rfl (Nat.le_of_ble_eq_true rfl) rfl rfl ?_
          refine ev_beq (tgt := 45) d_Mo_build_24 (by decide) rfl (fun h16 => ?_) (fun h16 => ?_)
          · refine ev_iconst d_Mo_build_45 rfl ⟨by decide, by decide⟩ ?_
            refine ev_istore (i := 6) d_Mo_build_46 rfl (by decide) rfl ?_
            exact K48 _ (by simp only [j_ok]; omega)
          · refine ev_iload_n (i := 2) d_Mo_build_27 rfl rfl rfl ?_
            refine ev_iconst d_Mo_build_28 rfl ⟨by decide, by decide⟩ ?_
            refine ev_icmp_lt (tgt := 41) d_Mo_build_29 (by decide) rfl (fun h17 => ?_) (fun h17 => ?_)
            · refine ev_iconst d_Mo_build_41 rfl ⟨by decide, by decide⟩ ?_
              refine ev_goto (tgt := 46) d_Mo_build_42 (by decide) ?_
              refine ev_istore (i := 6) d_Mo_build_46 rfl (by decide) rfl ?_
              exact K48 _ (by simp only [j_ok]; omega)
            · refine ev_aload_n (i := 0) d_Mo_build_32 rfl rfl rfl ?_
              refine ev_iload (i := 5) d_Mo_build_33 rfl rfl ?_
              refine ev_callV (As := [g_i z]) d_Mo_build_35 rfl cl_Mo_133 (c_Mo_isTerm (d + 0) M z) (g_hR (by decide)) g_h0 lx_45 rfl rfl (Nat.le_of_ble_eq_true rfl) rfl rfl ?_
              refine ev_beq (tgt := 45) d_Mo_build_38 (by decide) rfl (fun h18 => ?_) (fun h18 => ?_)
              · refine ev_iconst d_Mo_build_45 rfl ⟨by decide, by decide⟩ ?_
                refine ev_istore (i := 6) d_Mo_build_46 rfl (by decide) rfl ?_
                exact K48 _ (by simp only [j_ok]; omega)
              · refine ev_iconst d_Mo_build_41 rfl ⟨by decide, by decide⟩ ?_
                refine ev_goto (tgt := 46) d_Mo_build_42 (by decide) ?_
                refine ev_istore (i := 6) d_Mo_build_46 rfl (by decide) rfl ?_
                exact K48 _ (by simp only [j_ok]; omega)
theorem c_Mo_build_x1a (d : Nat) (M : g_M) (w : Nat) (h x y z : Int) (hw : w ≤ 3) (hB : j_B (M 45 8) (M 54) (M 55)) (ho : ¬ j_ok (M 45 8) x y z w) : Con y_Mo_build w_Mo_build (g_rm (d + 1)) LX M [g_r 45, g_i h, g_i (w : Int), g_i x, g_i y, g_i z] LX (g_up M 45 44 1) (some (g_i 0)) := by
  refine con_of (av := [g_r 45, g_i h, g_i (w : Int), g_i x, g_i y, g_i z]) (ls0 := [some (g_r 45), some (g_i h), some (g_i (w : Int)), some (g_i x), some (g_i y), some (g_i z), none, none, none, none, none]) (by decide) rfl (Nat.le_of_ble_eq_true rfl) (g_hls (av := [g_r 45, g_i h, g_i (w : Int), g_i x, g_i y, g_i z]) (k := 5)) (fun _ h9 => List.mem_cons_of_mem _ h9) ?_
  have hb1 := hB.1
  refine ev_jn 48 (fun v9 => [some (g_r 45), some (g_i h), some (g_i (w : Int)), some (g_i x), some (g_i y), some (g_i z), some (g_i v9), none, none, none, none]) (fun v9 => []) M (fun v9 => v9 = if j_ok (M 45 8) x y z w then 1 else 0) ?_ (fun K48 => ?_)
  · intro v9 hv9; subst hv9
    refine ev_iconst d_Mo_build_48 rfl ⟨by decide, by decide⟩ ?_
    refine ev_istore (i := 7) d_Mo_build_49 rfl (by decide) rfl ?_
    refine ev_iconst d_Mo_build_51 rfl ⟨by decide, by decide⟩ ?_
    refine ev_istore (i := 8) d_Mo_build_52 rfl (by decide) rfl ?_
    refine ev_iconst d_Mo_build_54 rfl ⟨by decide, by decide⟩ ?_
    refine ev_istore (i := 9) d_Mo_build_55 rfl (by decide) rfl ?_
    refine ev_iload (i := 9) d_Mo_build_57 rfl rfl ?_
    refine ev_iload_n (i := 2) d_Mo_build_59 rfl rfl rfl ?_
    refine ev_icmp_ge (tgt := 136) d_Mo_build_60 (by decide) rfl (fun h1 => ?_) (fun h1 => ?_)
    · refine ev_aload_n (i := 0) d_Mo_build_136 rfl rfl rfl ?_
      refine ev_iload (i := 6) d_Mo_build_137 rfl rfl ?_
      refine ev_if_eq_t (tgt := 158) d_Mo_build_139 (by decide) (by rw [if_neg ho]) ?_
      refine ev_iconst d_Mo_build_158 rfl ⟨by decide, by decide⟩ ?_
      refine ev_goto (tgt := 176) d_Mo_build_159 (by decide) ?_
      refine ev_putI d_Mo_build_176 rfl lk_Mo_104 fp_Mo_44 (Or.inl rfl) lx_45 rfl ?_
      refine ev_aload_n (i := 0) d_Mo_build_179 rfl rfl rfl ?_
      refine ev_getI (z := 1) d_Mo_build_180 rfl lk_Mo_104 lx_45 rfl (by simp [g_up]) ?_
      refine ev_if_eq_f (tgt := 188) d_Mo_build_183 (by decide) rfl (by decide) ?_
      refine ev_iconst d_Mo_build_186 rfl ⟨by decide, by decide⟩ ?_
      exact ev_retI d_Mo_build_187 (by first | rfl | omega | simp_all) rfl (Or.inl rfl)
    · refine ev_iload (i := 6) d_Mo_build_63 rfl rfl ?_
      refine ev_if_eq_t (tgt := 136) d_Mo_build_65 (by decide) (by rw [if_neg ho]) ?_
      refine ev_aload_n (i := 0) d_Mo_build_136 rfl rfl rfl ?_
      refine ev_iload (i := 6) d_Mo_build_137 rfl rfl ?_
      refine ev_if_eq_t (tgt := 158) d_Mo_build_139 (by decide) (by rw [if_neg ho]) ?_
      refine ev_iconst d_Mo_build_158 rfl ⟨by decide, by decide⟩ ?_
      refine ev_goto (tgt := 176) d_Mo_build_159 (by decide) ?_
      refine ev_putI d_Mo_build_176 rfl lk_Mo_104 fp_Mo_44 (Or.inl rfl) lx_45 rfl ?_
      refine ev_aload_n (i := 0) d_Mo_build_179 rfl rfl rfl ?_
      refine ev_getI (z := 1) d_Mo_build_180 rfl lk_Mo_104 lx_45 rfl (by simp [g_up]) ?_
      refine ev_if_eq_f (tgt := 188) d_Mo_build_183 (by decide) rfl (by decide) ?_
      refine ev_iconst d_Mo_build_186 rfl ⟨by decide, by decide⟩ ?_
      exact ev_retI d_Mo_build_187 (by first | rfl | omega | simp_all) rfl (Or.inl rfl)
  · refine ev_iload_n (i := 2) d_Mo_build_0 rfl rfl rfl ?_
    refine ev_iconst d_Mo_build_1 rfl ⟨by decide, by decide⟩ ?_
    refine ev_icmp_lt (tgt := 13) d_Mo_build_2 (by decide) rfl (fun h2 => ?_) (fun h2 => ?_)
    · refine ev_iload_n (i := 2) d_Mo_build_13 rfl rfl rfl ?_
      refine ev_iconst d_Mo_build_14 rfl ⟨by decide, by decide⟩ ?_
      refine ev_icmp_lt (tgt := 27) d_Mo_build_15 (by decide) rfl (fun h3 => ?_) (fun h3 => ?_)
      · refine ev_iload_n (i := 2) d_Mo_build_27 rfl rfl rfl ?_
        refine ev_iconst d_Mo_build_28 rfl ⟨by decide, by decide⟩ ?_
        refine ev_icmp_lt (tgt := 41) d_Mo_build_29 (by decide) rfl (fun h4 => ?_) (fun h4 => ?_)
        · refine ev_iconst d_Mo_build_41 rfl ⟨by decide, by decide⟩ ?_
          refine ev_goto (tgt := 46) d_Mo_build_42 (by decide) ?_
          refine ev_istore (i := 6) d_Mo_build_46 rfl (by decide) rfl ?_
          exact K48 _ (by simp only [j_ok]; omega)
        · refine ev_aload_n (i := 0) d_Mo_build_32 rfl rfl rfl ?_
          refine ev_iload (i := 5) d_Mo_build_33 rfl rfl ?_
          refine ev_callV (As := [g_i z]) d_Mo_build_35 rfl cl_Mo_133 (c_Mo_isTerm (d + 0) M z) (g_hR (by decide)) g_h0 lx_45 rfl rfl (Nat.le_of_ble_eq_true rfl) rfl rfl ?_
          refine ev_beq (tgt := 45) d_Mo_build_38 (by decide) rfl (fun h5 => ?_) (fun h5 => ?_)
          · refine ev_iconst d_Mo_build_45 rfl ⟨by decide, by decide⟩ ?_
            refine ev_istore (i := 6) d_Mo_build_46 rfl (by decide) rfl ?_
            exact K48 _ (by simp only [j_ok]; omega)
          · refine ev_iconst d_Mo_build_41 rfl ⟨by decide, by decide⟩ ?_
            refine ev_goto (tgt := 46) d_Mo_build_42 (by decide) ?_
            refine ev_istore (i := 6) d_Mo_build_46 rfl (by decide) rfl ?_
            exact K48 _ (by simp only [j_ok]; omega)
      · refine ev_aload_n (i := 0) d_Mo_build_18 rfl rfl rfl ?_
        refine ev_iload (i := 4) d_Mo_build_19 rfl rfl ?_
        refine ev_callV (As := [g_i y]) d_Mo_build_21 rfl cl_Mo_133 (c_Mo_isTerm (d + 0) M y) (g_hR (by decide)) g_h0 lx_45 rfl rfl (Nat.le_of_ble_eq_true rfl) rfl rfl ?_
        refine ev_beq (tgt := 45) d_Mo_build_24 (by decide) rfl (fun h6 => ?_) (fun h6 => ?_)
        · refine ev_iconst d_Mo_build_45 rfl ⟨by decide, by decide⟩ ?_
          refine ev_istore (i := 6) d_Mo_build_46 rfl (by decide) rfl ?_
          exact K48 _ (by simp only [j_ok]; omega)
        · refine ev_iload_n (i := 2) d_Mo_build_27 rfl rfl rfl ?_
          refine ev_iconst d_Mo_build_28 rfl ⟨by decide, by decide⟩ ?_
          refine ev_icmp_lt (tgt := 41) d_Mo_build_29 (by decide) rfl (fun h7 => ?_) (fun h7 => ?_)
          · refine ev_iconst d_Mo_build_41 rfl ⟨by decide, by decide⟩ ?_
            refine ev_goto (tgt := 46) d_Mo_build_42 (by decide) ?_
            refine ev_istore (i := 6) d_Mo_build_46 rfl (by decide) rfl ?_
            exact K48 _ (by simp only [j_ok]; omega)
          · refine ev_aload_n (i := 0) d_Mo_build_32 rfl rfl rfl ?_
            refine ev_iload (i := 5) d_Mo_build_33 rfl rfl ?_
            refine ev_callV (As := [g_i z]) d_Mo_build_35 rfl cl_Mo_133 (c_Mo_isTerm (d + 0) M z) (g_hR (by decide)) g_h0 lx_45 rfl rfl (Nat.le_of_ble_eq_true rfl) rfl rfl ?_
            refine ev_beq (tgt := 45) d_Mo_build_38 (by decide) rfl (fun h8 => ?_) (fun h8 => ?_)
            · refine ev_iconst d_Mo_build_45 rfl ⟨by decide, by decide⟩ ?_
              refine ev_istore (i := 6) d_Mo_build_46 rfl (by decide) rfl ?_
              exact K48 _ (by simp only [j_ok]; omega)
            · refine ev_iconst d_Mo_build_41 rfl ⟨by decide, by decide⟩ ?_
              refine ev_goto (tgt := 46) d_Mo_build_42 (by decide) ?_
              refine ev_istore (i := 6) d_Mo_build_46 rfl (by decide) rfl ?_
              exact K48 _ (by simp only [j_ok]; omega)
    · refine ev_aload_n (i := 0) d_Mo_build_5 rfl rfl rfl ?_
      refine ev_iload_n (i := 3) d_Mo_build_6 rfl rfl rfl ?_
      refine ev_callV (As := [g_i x]) d_Mo_build_7 rfl cl_Mo_133 (c_Mo_isTerm (d + 0) M x) (g_hR (by decide)) g_h0 lx_45 rfl rfl (Nat.le_of_ble_eq_true rfl) rfl rfl ?_
      refine ev_beq (tgt := 45) d_Mo_build_10 (by decide) rfl (fun h9 => ?_) (fun h9 => ?_)
      · refine ev_iconst d_Mo_build_45 rfl ⟨by decide, by decide⟩ ?_
        refine ev_istore (i := 6) d_Mo_build_46 rfl (by decide) rfl ?_
        exact K48 _ (by simp only [j_ok]; omega)
      · refine ev_iload_n (i := 2) d_Mo_build_13 rfl rfl rfl ?_
        refine ev_iconst d_Mo_build_14 rfl ⟨by decide, by decide⟩ ?_
        refine ev_icmp_lt (tgt := 27) d_Mo_build_15 (by decide) rfl (fun h10 => ?_) (fun h10 => ?_)
        · refine ev_iload_n (i := 2) d_Mo_build_27 rfl rfl rfl ?_
          refine ev_iconst d_Mo_build_28 rfl ⟨by decide, by decide⟩ ?_
          refine ev_icmp_lt (tgt := 41) d_Mo_build_29 (by decide) rfl (fun h11 => ?_) (fun h11 => ?_)
          · refine ev_iconst d_Mo_build_41 rfl ⟨by decide, by decide⟩ ?_
            refine ev_goto (tgt := 46) d_Mo_build_42 (by decide) ?_
            refine ev_istore (i := 6) d_Mo_build_46 rfl (by decide) rfl ?_
            exact K48 _ (by simp only [j_ok]; omega)
          · refine ev_aload_n (i := 0) d_Mo_build_32 rfl rfl rfl ?_
            refine ev_iload (i := 5) d_Mo_build_33 rfl rfl ?_
            refine ev_callV (As := [g_i z]) d_Mo_build_35 rfl cl_Mo_133 (c_Mo_isTerm (d + 0) M z) (g_hR (by decide)) g_h0 lx_45 rfl rfl (Nat.le_of_ble_eq_true rfl) rfl rfl ?_
            refine ev_beq (tgt := 45) d_Mo_build_38 (by decide) rfl (fun h12 => ?_) (fun h12 => ?_)
            · refine ev_iconst d_Mo_build_45 rfl ⟨by decide, by decide⟩ ?_
              refine ev_istore (i := 6) d_Mo_build_46 rfl (by decide) rfl ?_
              exact K48 _ (by simp only [j_ok]; omega)
            · refine ev_iconst d_Mo_build_41 rfl ⟨by decide, by decide⟩ ?_
              refine ev_goto (tgt := 46) d_Mo_build_42 (by decide) ?_
              refine ev_istore (i := 6) d_Mo_build_46 rfl (by decide) rfl ?_
              exact K48 _ (by simp only [j_ok]; omega)
        · refine ev_aload_n (i := 0) d_Mo_build_18 rfl rfl rfl ?_
          refine ev_iload (i := 4) d_Mo_build_19 rfl rfl ?_
          refine ev_callV (As := [g_i y]) d_Mo_build_21 rfl cl_Mo_133 (c_Mo_isTerm (d + 0) M y) (g_hR (by decide)) g_h0 lx_45 rfl rfl (Nat.le_of_ble_eq_true rfl) rfl rfl ?_
          refine ev_beq (tgt := 45) d_Mo_build_24 (by decide) rfl (fun h13 => ?_) (fun h13 => ?_)
          · refine ev_iconst d_Mo_build_45 rfl ⟨by decide, by decide⟩ ?_
            refine ev_istore (i := 6) d_Mo_build_46 rfl (by decide) rfl ?_
            exact K48 _ (by simp only [j_ok]; omega)
          · refine ev_iload_n (i := 2) d_Mo_build_27 rfl rfl rfl ?_
            refine ev_iconst d_Mo_build_28 rfl ⟨by decide, by decide⟩ ?_
            refine ev_icmp_lt (tgt := 41) d_Mo_build_29 (by decide) rfl (fun h14 => ?_) (fun h14 => ?_)
            · refine ev_iconst d_Mo_build_41 rfl ⟨by decide, by decide⟩ ?_
              refine ev_goto (tgt := 46) d_Mo_build_42 (by decide) ?_
              refine ev_istore (i := 6) d_Mo_build_46 rfl (by decide) rfl ?_
              exact K48 _ (by simp only [j_ok]; omega)
            · refine ev_aload_n (i := 0) d_Mo_build_32 rfl rfl rfl ?_
              refine ev_iload (i := 5) d_Mo_build_33 rfl rfl ?_
              refine ev_callV (As := [g_i z]) d_Mo_build_35 rfl cl_Mo_133 (c_Mo_isTerm (d + 0) M z) (g_hR (by decide)) g_h0 lx_45 rfl rfl (Nat.le_of_ble_eq_true rfl) rfl rfl ?_
              refine ev_beq (tgt := 45) d_Mo_build_38 (by decide) rfl (fun h15 => ?_) (fun h15 => ?_)
              · refine ev_iconst d_Mo_build_45 rfl ⟨by decide, by decide⟩ ?_
                refine ev_istore (i := 6) d_Mo_build_46 rfl (by decide) rfl ?_
                exact K48 _ (by simp only [j_ok]; omega)
              · refine ev_iconst d_Mo_build_41 rfl ⟨by decide, by decide⟩ ?_
                refine ev_goto (tgt := 46) d_Mo_build_42 (by decide) ?_
                refine ev_istore (i := 6) d_Mo_build_46 rfl (by decide) rfl ?_
                exact K48 _ (by simp only [j_ok]; omega)
theorem c_Mo_build_x1 (d : Nat) (M : g_M) (w : Nat) (h x y z : Int) (hw : w ≤ 3) (hB : j_B (M 45 8) (M 54) (M 55)) (hf : ¬ j_fit (M 45 8) (M 54) (M 55) x y z w) : Con y_Mo_build w_Mo_build (g_rm (d + 1)) LX M [g_r 45, g_i h, g_i (w : Int), g_i x, g_i y, g_i z] LX (g_up M 45 44 1) (some (g_i 0)) := by
  by_cases ho : j_ok (M 45 8) x y z w
  · exact c_Mo_build_x1b d M w h x y z hw hB ho hf
  · exact c_Mo_build_x1a d M w h x y z hw hB ho
