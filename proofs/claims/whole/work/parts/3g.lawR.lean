/-! the law's turns and loop, with relations -/
theorem met_mono {l : Launch} {y : MethodName} {ws : List Cond} {rm : Room} {Pc : Array Value → State → Prop} {Q Q' : Array Value → State → Outcome → State → Prop} {mc ms : Nat} {free : Addr → Prop} (h : Met l y ws rm Pc Q mc ms free) (hq : ∀ a s o t, Q a s o t → Q' a s o t) : Met l y ws rm Pc Q' mc ms free :=
  MetFree.mono h (fun _ _ h => h) (fun _ _ _ _ _ h => h) (fun a s o t _ h => ⟨hq a s o t h.1, h.2⟩)
theorem conR_of {y : MethodName} {ws : List Cond} {rm : Room} {L : g_L} {M : g_M} {av : List g_v} {L' : g_L} {M' : g_M} {r : Option g_v} (h : Con y ws rm L M av L' M' r) : ConR y ws rm L M av L' (fun M2 r2 => M2 = M' ∧ r2 = r) :=
  fun h1 h2 h3 l D cs ad sz => met_mono (h h1 h2 h3 l D cs ad sz) (fun _ _ _ _ h9 => ⟨M', r, ⟨rfl, rfl⟩, h9⟩)
theorem conLR_of {y : MethodName} {ws : List Cond} {rm : Room} {L : g_L} {M : g_M} {av : List g_v} {L' : g_L} {M' : g_M} {r : Option g_v} (h : ConL y ws rm L M av L' M' r) : ConLR y ws rm L M av L' (fun M2 r2 => M2 = M' ∧ r2 = r) :=
  fun h1 h2 h3 l hl D cs ad sz => met_mono (h h1 h2 h3 l hl D cs ad sz) (fun _ _ _ _ h9 => ⟨M', r, ⟨rfl, rfl⟩, h9⟩)
theorem ConR.mono {y : MethodName} {ws : List Cond} {rm : Room} {L : g_L} {M : g_M} {av : List g_v} {L' : g_L} {G G' : g_M → Option g_v → Prop} (h : ConR y ws rm L M av L' G) (hg : ∀ M r, G M r → G' M r) : ConR y ws rm L M av L' G' :=
  fun h1 h2 h3 l D cs ad sz => met_mono (h h1 h2 h3 l D cs ad sz) (fun _ _ _ _ h9 => by obtain ⟨M', r, h5, h6⟩ := h9; exact ⟨M', r, hg _ _ h5, h6⟩)
theorem l_caseR0 {b N : Nat} {xs : Nat → Int32} {Fi : g_Fin} {nc ns : Nat} (i : Nat) (hi : i + 6 ≤ N) (hN : N ≤ 3072) (M : g_M) (Z : g_M → Prop) (c1 s1 : Nat) (G1 : g_M → Option g_v → Prop) (h1 : ConLR y_La_constructor ww_La_constructor (g_ra 2047 c1 s1) LX M [g_r 0, g_i (xs (i + 1)).toInt, g_i (xs (i + 2)).toInt, g_i (xs (i + 3)).toInt, g_i (xs (i + 4)).toInt, g_r 77] LX G1) (h2 : ∀ (M1 : g_M) (v1 : Option g_v), G1 M1 v1 → ∃ k : Int, v1 = some (g_i k) ∧ ∃ G2 : g_M → Option g_v → Prop, (ConR y_Mo_constructor w_Mo_constructor (g_rm 2047) LX M1 [g_r 45, g_i (xs (i + 1)).toInt, g_i (xs (i + 2)).toInt, g_i (xs (i + 3)).toInt, g_i (xs (i + 4)).toInt] LX G2) ∧ ∀ (M2 : g_M) (v2 : Option g_v), G2 M2 v2 → ∃ r : Int, v2 = some (g_i r) ∧ M2 45 44 = k ∧ (k = 0 → M2 77 0 = r) ∧ Z M2) (hnc : nc + c1 ≤ 601024) (hns : ns + s1 ≤ 7293033) (kk : ∀ M2 : g_M, Z M2 → Ev (e_law b N xs) room_1 Fi 964 (l_ls b i) [] LX M2 (nc + c1) (ns + s1)) : Ev (e_law b N xs) room_1 Fi 108 (l_ls b i) [] LX M nc ns := by
  refine ev_aload_n (i := 1) d_law_108 rfl rfl rfl ?_
  refine ev_aload_nO (i := 0) d_law_109 rfl rfl rfl ?_
  refine ev_iload (i := 4) d_law_110 rfl rfl ?_
  refine ev_iconst d_law_112 rfl ⟨by decide, by decide⟩ ?_
  refine ev_iadd (z := (i : Int) + 1) d_law_113 rfl (g_w_id (by unfold g_rg; omega)) ?_
  refine ev_sldN (i + 1) x_lawS d_law_114 rfl (by omega) (by omega) ?_
  refine ev_aload_nO (i := 0) d_law_115 rfl rfl rfl ?_
  refine ev_iload (i := 4) d_law_116 rfl rfl ?_
  refine ev_iconst d_law_118 rfl ⟨by decide, by decide⟩ ?_
  refine ev_iadd (z := (i : Int) + 2) d_law_119 rfl (g_w_id (by unfold g_rg; omega)) ?_
  refine ev_sldN (i + 2) x_lawS d_law_120 rfl (by omega) (by omega) ?_
  refine ev_aload_nO (i := 0) d_law_121 rfl rfl rfl ?_
  refine ev_iload (i := 4) d_law_122 rfl rfl ?_
  refine ev_iconst d_law_124 rfl ⟨by decide, by decide⟩ ?_
  refine ev_iadd (z := (i : Int) + 3) d_law_125 rfl (g_w_id (by unfold g_rg; omega)) ?_
  refine ev_sldN (i + 3) x_lawS d_law_126 rfl (by omega) (by omega) ?_
  refine ev_aload_nO (i := 0) d_law_127 rfl rfl rfl ?_
  refine ev_iload (i := 4) d_law_128 rfl rfl ?_
  refine ev_iconst d_law_130 rfl ⟨by decide, by decide⟩ ?_
  refine ev_iadd (z := (i : Int) + 4) d_law_131 rfl (g_w_id (by unfold g_rg; omega)) ?_
  refine ev_sldN (i + 4) x_lawS d_law_132 rfl (by omega) (by omega) ?_
  refine ev_aload_n (i := 3) d_law_133 rfl rfl rfl ?_
  refine ev_callWR (As := [g_r 0, g_i (xs (i + 1)).toInt, g_i (xs (i + 2)).toInt, g_i (xs (i + 3)).toInt, g_i (xs (i + 4)).toInt, g_r 77]) x_lawT d_law_134 rfl cl_La_49 h1 (x_roomR (Nat.le_refl _) (by decide)) ⟨by show nc + c1 ≤ 601024; omega, by show ns + s1 ≤ 7293033; omega⟩ rfl rfl (Nat.le_of_ble_eq_true rfl) rfl rfl (fun M1 v1 g1 => ?_)
  obtain ⟨k, rfl, G2, hc2, hk⟩ := h2 M1 v1 g1
  change Ev _ _ _ _ _ _ _ _ (nc + c1) (ns + s1)
  refine ev_istore (i := 5) d_law_137 rfl (Nat.le_of_ble_eq_true rfl) rfl ?_
  refine ev_aload_n (i := 2) d_law_139 rfl rfl rfl ?_
  refine ev_aload_nO (i := 0) d_law_140 rfl rfl rfl ?_
  refine ev_iload (i := 4) d_law_141 rfl rfl ?_
  refine ev_iconst d_law_143 rfl ⟨by decide, by decide⟩ ?_
  refine ev_iadd (z := (i : Int) + 1) d_law_144 rfl (g_w_id (by unfold g_rg; omega)) ?_
  refine ev_sldN (i + 1) x_lawS d_law_145 rfl (by omega) (by omega) ?_
  refine ev_aload_nO (i := 0) d_law_146 rfl rfl rfl ?_
  refine ev_iload (i := 4) d_law_147 rfl rfl ?_
  refine ev_iconst d_law_149 rfl ⟨by decide, by decide⟩ ?_
  refine ev_iadd (z := (i : Int) + 2) d_law_150 rfl (g_w_id (by unfold g_rg; omega)) ?_
  refine ev_sldN (i + 2) x_lawS d_law_151 rfl (by omega) (by omega) ?_
  refine ev_aload_nO (i := 0) d_law_152 rfl rfl rfl ?_
  refine ev_iload (i := 4) d_law_153 rfl rfl ?_
  refine ev_iconst d_law_155 rfl ⟨by decide, by decide⟩ ?_
  refine ev_iadd (z := (i : Int) + 3) d_law_156 rfl (g_w_id (by unfold g_rg; omega)) ?_
  refine ev_sldN (i + 3) x_lawS d_law_157 rfl (by omega) (by omega) ?_
  refine ev_aload_nO (i := 0) d_law_158 rfl rfl rfl ?_
  refine ev_iload (i := 4) d_law_159 rfl rfl ?_
  refine ev_iconst d_law_161 rfl ⟨by decide, by decide⟩ ?_
  refine ev_iadd (z := (i : Int) + 4) d_law_162 rfl (g_w_id (by unfold g_rg; omega)) ?_
  refine ev_sldN (i + 4) x_lawS d_law_163 rfl (by omega) (by omega) ?_
  refine ev_callVR (As := [g_i (xs (i + 1)).toInt, g_i (xs (i + 2)).toInt, g_i (xs (i + 3)).toInt, g_i (xs (i + 4)).toInt]) d_law_164 rfl cl_La_54 (hc2) (x_roomR (Nat.le_refl _) (by decide)) ⟨by show (nc + c1) + 0 ≤ 601024; omega, by show (ns + s1) + 0 ≤ 7293033; omega⟩ lx_45 rfl rfl (Nat.le_of_ble_eq_true rfl) rfl rfl (fun M2 v2 g2 => ?_)
  obtain ⟨r, rfl, h3, h4, hZ⟩ := hk M2 v2 g2
  change Ev _ _ _ _ _ _ _ _ (nc + c1) (ns + s1)
  refine ev_istore (i := 6) d_law_167 rfl (Nat.le_of_ble_eq_true rfl) rfl ?_
  refine ev_aload_n (i := 2) d_law_169 rfl rfl rfl ?_
  refine ev_callV (As := []) d_law_170 rfl cl_La_55 (c_Mo_thrown 2047 M2) (x_roomR (Nat.le_refl _) (by decide)) ⟨by show (nc + c1) + 0 ≤ 601024; omega, by show (ns + s1) + 0 ≤ 7293033; omega⟩ lx_45 rfl rfl (Nat.le_of_ble_eq_true rfl) rfl rfl ?_
  change Ev _ _ _ _ _ _ _ _ (nc + c1) (ns + s1)
  refine ev_iload (i := 5) d_law_173 rfl rfl ?_
  refine ev_icmp_eq_t (tgt := 180) d_law_175 (by decide) h3 ?_
  refine ev_iload (i := 5) d_law_180 rfl rfl ?_
  refine ev_if_ne (tgt := 197) d_law_182 (by decide) rfl (fun h5 => ?_) (fun h5 => ?_)
  · refine ev_goto (tgt := 964) d_law_197 (by decide) ?_
    refine ev_less ?_ (kk M2 hZ)
    exact l_less
  · refine ev_aload_n (i := 3) d_law_185 rfl rfl rfl ?_
    refine ev_iconst d_law_186 rfl ⟨by decide, by decide⟩ ?_
    refine ev_laload (z := M2 77 0) d_law_187 rfl lx_77 (by decide) (by decide) rfl ?_
    refine ev_iload (i := 6) d_law_188 rfl rfl ?_
    refine ev_i2l d_law_190 rfl ?_
    refine ev_lcmp (z := 0) d_law_191 rfl (by rw [h4 h5]; simp) ?_
    refine ev_if_eq_t (tgt := 197) d_law_192 (by decide) rfl ?_
    refine ev_goto (tgt := 964) d_law_197 (by decide) ?_
    refine ev_less ?_ (kk M2 hZ)
    exact l_less
theorem l_caseR1 {b N : Nat} {xs : Nat → Int32} {Fi : g_Fin} {nc ns : Nat} (i : Nat) (hi : i + 6 ≤ N) (hN : N ≤ 3072) (M : g_M) (Z : g_M → Prop) (c1 s1 : Nat) (G1 : g_M → Option g_v → Prop) (h1 : ConLR y_La_function ww_La_function (g_ra 2047 c1 s1) LX M [g_r 0, g_i (xs (i + 1)).toInt, g_i (xs (i + 2)).toInt, g_i (xs (i + 3)).toInt, g_i (xs (i + 4)).toInt, g_r 77] LX G1) (h2 : ∀ (M1 : g_M) (v1 : Option g_v), G1 M1 v1 → ∃ k : Int, v1 = some (g_i k) ∧ ∃ G2 : g_M → Option g_v → Prop, (ConR y_Mo_function w_Mo_function (g_rm 2047) LX M1 [g_r 45, g_i (xs (i + 1)).toInt, g_i (xs (i + 2)).toInt, g_i (xs (i + 3)).toInt, g_i (xs (i + 4)).toInt] LX G2) ∧ ∀ (M2 : g_M) (v2 : Option g_v), G2 M2 v2 → ∃ r : Int, v2 = some (g_i r) ∧ M2 45 44 = k ∧ (k = 0 → M2 77 0 = r) ∧ Z M2) (hnc : nc + c1 ≤ 601024) (hns : ns + s1 ≤ 7293033) (kk : ∀ M2 : g_M, Z M2 → Ev (e_law b N xs) room_1 Fi 964 (l_ls b i) [] LX M2 (nc + c1) (ns + s1)) : Ev (e_law b N xs) room_1 Fi 200 (l_ls b i) [] LX M nc ns := by
  refine ev_aload_n (i := 1) d_law_200 rfl rfl rfl ?_
  refine ev_aload_nO (i := 0) d_law_201 rfl rfl rfl ?_
  refine ev_iload (i := 4) d_law_202 rfl rfl ?_
  refine ev_iconst d_law_204 rfl ⟨by decide, by decide⟩ ?_
  refine ev_iadd (z := (i : Int) + 1) d_law_205 rfl (g_w_id (by unfold g_rg; omega)) ?_
  refine ev_sldN (i + 1) x_lawS d_law_206 rfl (by omega) (by omega) ?_
  refine ev_aload_nO (i := 0) d_law_207 rfl rfl rfl ?_
  refine ev_iload (i := 4) d_law_208 rfl rfl ?_
  refine ev_iconst d_law_210 rfl ⟨by decide, by decide⟩ ?_
  refine ev_iadd (z := (i : Int) + 2) d_law_211 rfl (g_w_id (by unfold g_rg; omega)) ?_
  refine ev_sldN (i + 2) x_lawS d_law_212 rfl (by omega) (by omega) ?_
  refine ev_aload_nO (i := 0) d_law_213 rfl rfl rfl ?_
  refine ev_iload (i := 4) d_law_214 rfl rfl ?_
  refine ev_iconst d_law_216 rfl ⟨by decide, by decide⟩ ?_
  refine ev_iadd (z := (i : Int) + 3) d_law_217 rfl (g_w_id (by unfold g_rg; omega)) ?_
  refine ev_sldN (i + 3) x_lawS d_law_218 rfl (by omega) (by omega) ?_
  refine ev_aload_nO (i := 0) d_law_219 rfl rfl rfl ?_
  refine ev_iload (i := 4) d_law_220 rfl rfl ?_
  refine ev_iconst d_law_222 rfl ⟨by decide, by decide⟩ ?_
  refine ev_iadd (z := (i : Int) + 4) d_law_223 rfl (g_w_id (by unfold g_rg; omega)) ?_
  refine ev_sldN (i + 4) x_lawS d_law_224 rfl (by omega) (by omega) ?_
  refine ev_aload_n (i := 3) d_law_225 rfl rfl rfl ?_
  refine ev_callWR (As := [g_r 0, g_i (xs (i + 1)).toInt, g_i (xs (i + 2)).toInt, g_i (xs (i + 3)).toInt, g_i (xs (i + 4)).toInt, g_r 77]) x_lawT d_law_226 rfl cl_La_59 h1 (x_roomR (Nat.le_refl _) (by decide)) ⟨by show nc + c1 ≤ 601024; omega, by show ns + s1 ≤ 7293033; omega⟩ rfl rfl (Nat.le_of_ble_eq_true rfl) rfl rfl (fun M1 v1 g1 => ?_)
  obtain ⟨k, rfl, G2, hc2, hk⟩ := h2 M1 v1 g1
  change Ev _ _ _ _ _ _ _ _ (nc + c1) (ns + s1)
  refine ev_istore (i := 5) d_law_229 rfl (Nat.le_of_ble_eq_true rfl) rfl ?_
  refine ev_aload_n (i := 2) d_law_231 rfl rfl rfl ?_
  refine ev_aload_nO (i := 0) d_law_232 rfl rfl rfl ?_
  refine ev_iload (i := 4) d_law_233 rfl rfl ?_
  refine ev_iconst d_law_235 rfl ⟨by decide, by decide⟩ ?_
  refine ev_iadd (z := (i : Int) + 1) d_law_236 rfl (g_w_id (by unfold g_rg; omega)) ?_
  refine ev_sldN (i + 1) x_lawS d_law_237 rfl (by omega) (by omega) ?_
  refine ev_aload_nO (i := 0) d_law_238 rfl rfl rfl ?_
  refine ev_iload (i := 4) d_law_239 rfl rfl ?_
  refine ev_iconst d_law_241 rfl ⟨by decide, by decide⟩ ?_
  refine ev_iadd (z := (i : Int) + 2) d_law_242 rfl (g_w_id (by unfold g_rg; omega)) ?_
  refine ev_sldN (i + 2) x_lawS d_law_243 rfl (by omega) (by omega) ?_
  refine ev_aload_nO (i := 0) d_law_244 rfl rfl rfl ?_
  refine ev_iload (i := 4) d_law_245 rfl rfl ?_
  refine ev_iconst d_law_247 rfl ⟨by decide, by decide⟩ ?_
  refine ev_iadd (z := (i : Int) + 3) d_law_248 rfl (g_w_id (by unfold g_rg; omega)) ?_
  refine ev_sldN (i + 3) x_lawS d_law_249 rfl (by omega) (by omega) ?_
  refine ev_aload_nO (i := 0) d_law_250 rfl rfl rfl ?_
  refine ev_iload (i := 4) d_law_251 rfl rfl ?_
  refine ev_iconst d_law_253 rfl ⟨by decide, by decide⟩ ?_
  refine ev_iadd (z := (i : Int) + 4) d_law_254 rfl (g_w_id (by unfold g_rg; omega)) ?_
  refine ev_sldN (i + 4) x_lawS d_law_255 rfl (by omega) (by omega) ?_
  refine ev_callVR (As := [g_i (xs (i + 1)).toInt, g_i (xs (i + 2)).toInt, g_i (xs (i + 3)).toInt, g_i (xs (i + 4)).toInt]) d_law_256 rfl cl_La_61 (hc2) (x_roomR (Nat.le_refl _) (by decide)) ⟨by show (nc + c1) + 0 ≤ 601024; omega, by show (ns + s1) + 0 ≤ 7293033; omega⟩ lx_45 rfl rfl (Nat.le_of_ble_eq_true rfl) rfl rfl (fun M2 v2 g2 => ?_)
  obtain ⟨r, rfl, h3, h4, hZ⟩ := hk M2 v2 g2
  change Ev _ _ _ _ _ _ _ _ (nc + c1) (ns + s1)
  refine ev_istore (i := 6) d_law_259 rfl (Nat.le_of_ble_eq_true rfl) rfl ?_
  refine ev_aload_n (i := 2) d_law_261 rfl rfl rfl ?_
  refine ev_callV (As := []) d_law_262 rfl cl_La_55 (c_Mo_thrown 2047 M2) (x_roomR (Nat.le_refl _) (by decide)) ⟨by show (nc + c1) + 0 ≤ 601024; omega, by show (ns + s1) + 0 ≤ 7293033; omega⟩ lx_45 rfl rfl (Nat.le_of_ble_eq_true rfl) rfl rfl ?_
  change Ev _ _ _ _ _ _ _ _ (nc + c1) (ns + s1)
  refine ev_iload (i := 5) d_law_265 rfl rfl ?_
  refine ev_icmp_eq_t (tgt := 272) d_law_267 (by decide) h3 ?_
  refine ev_iload (i := 5) d_law_272 rfl rfl ?_
  refine ev_if_ne (tgt := 289) d_law_274 (by decide) rfl (fun h5 => ?_) (fun h5 => ?_)
  · refine ev_goto (tgt := 964) d_law_289 (by decide) ?_
    refine ev_less ?_ (kk M2 hZ)
    exact l_less
  · refine ev_aload_n (i := 3) d_law_277 rfl rfl rfl ?_
    refine ev_iconst d_law_278 rfl ⟨by decide, by decide⟩ ?_
    refine ev_laload (z := M2 77 0) d_law_279 rfl lx_77 (by decide) (by decide) rfl ?_
    refine ev_iload (i := 6) d_law_280 rfl rfl ?_
    refine ev_i2l d_law_282 rfl ?_
    refine ev_lcmp (z := 0) d_law_283 rfl (by rw [h4 h5]; simp) ?_
    refine ev_if_eq_t (tgt := 289) d_law_284 (by decide) rfl ?_
    refine ev_goto (tgt := 964) d_law_289 (by decide) ?_
    refine ev_less ?_ (kk M2 hZ)
    exact l_less
theorem l_caseR2 {b N : Nat} {xs : Nat → Int32} {Fi : g_Fin} {nc ns : Nat} (i : Nat) (hi : i + 6 ≤ N) (hN : N ≤ 3072) (M : g_M) (Z : g_M → Prop) (c1 s1 : Nat) (G1 : g_M → Option g_v → Prop) (h1 : ConLR y_La_variable ww_La_variable (g_ra 2047 c1 s1) LX M [g_r 0, g_i (xs (i + 1)).toInt, g_r 77] LX G1) (h2 : ∀ (M1 : g_M) (v1 : Option g_v), G1 M1 v1 → ∃ k : Int, v1 = some (g_i k) ∧ ∃ G2 : g_M → Option g_v → Prop, (ConR y_Mo_variable w_Mo_variable (g_rm 2047) LX M1 [g_r 45, g_i (xs (i + 1)).toInt] LX G2) ∧ ∀ (M2 : g_M) (v2 : Option g_v), G2 M2 v2 → ∃ r : Int, v2 = some (g_i r) ∧ M2 45 44 = k ∧ (k = 0 → M2 77 0 = r) ∧ Z M2) (hnc : nc + c1 ≤ 601024) (hns : ns + s1 ≤ 7293033) (kk : ∀ M2 : g_M, Z M2 → Ev (e_law b N xs) room_1 Fi 964 (l_ls b i) [] LX M2 (nc + c1) (ns + s1)) : Ev (e_law b N xs) room_1 Fi 292 (l_ls b i) [] LX M nc ns := by
  refine ev_aload_n (i := 1) d_law_292 rfl rfl rfl ?_
  refine ev_aload_nO (i := 0) d_law_293 rfl rfl rfl ?_
  refine ev_iload (i := 4) d_law_294 rfl rfl ?_
  refine ev_iconst d_law_296 rfl ⟨by decide, by decide⟩ ?_
  refine ev_iadd (z := (i : Int) + 1) d_law_297 rfl (g_w_id (by unfold g_rg; omega)) ?_
  refine ev_sldN (i + 1) x_lawS d_law_298 rfl (by omega) (by omega) ?_
  refine ev_aload_n (i := 3) d_law_299 rfl rfl rfl ?_
  refine ev_callWR (As := [g_r 0, g_i (xs (i + 1)).toInt, g_r 77]) x_lawT d_law_300 rfl cl_La_62 h1 (x_roomR (Nat.le_refl _) (by decide)) ⟨by show nc + c1 ≤ 601024; omega, by show ns + s1 ≤ 7293033; omega⟩ rfl rfl (Nat.le_of_ble_eq_true rfl) rfl rfl (fun M1 v1 g1 => ?_)
  obtain ⟨k, rfl, G2, hc2, hk⟩ := h2 M1 v1 g1
  change Ev _ _ _ _ _ _ _ _ (nc + c1) (ns + s1)
  refine ev_istore (i := 5) d_law_303 rfl (Nat.le_of_ble_eq_true rfl) rfl ?_
  refine ev_aload_n (i := 2) d_law_305 rfl rfl rfl ?_
  refine ev_aload_nO (i := 0) d_law_306 rfl rfl rfl ?_
  refine ev_iload (i := 4) d_law_307 rfl rfl ?_
  refine ev_iconst d_law_309 rfl ⟨by decide, by decide⟩ ?_
  refine ev_iadd (z := (i : Int) + 1) d_law_310 rfl (g_w_id (by unfold g_rg; omega)) ?_
  refine ev_sldN (i + 1) x_lawS d_law_311 rfl (by omega) (by omega) ?_
  refine ev_callVR (As := [g_i (xs (i + 1)).toInt]) d_law_312 rfl cl_La_65 (hc2) (x_roomR (Nat.le_refl _) (by decide)) ⟨by show (nc + c1) + 0 ≤ 601024; omega, by show (ns + s1) + 0 ≤ 7293033; omega⟩ lx_45 rfl rfl (Nat.le_of_ble_eq_true rfl) rfl rfl (fun M2 v2 g2 => ?_)
  obtain ⟨r, rfl, h3, h4, hZ⟩ := hk M2 v2 g2
  change Ev _ _ _ _ _ _ _ _ (nc + c1) (ns + s1)
  refine ev_istore (i := 6) d_law_315 rfl (Nat.le_of_ble_eq_true rfl) rfl ?_
  refine ev_aload_n (i := 2) d_law_317 rfl rfl rfl ?_
  refine ev_callV (As := []) d_law_318 rfl cl_La_55 (c_Mo_thrown 2047 M2) (x_roomR (Nat.le_refl _) (by decide)) ⟨by show (nc + c1) + 0 ≤ 601024; omega, by show (ns + s1) + 0 ≤ 7293033; omega⟩ lx_45 rfl rfl (Nat.le_of_ble_eq_true rfl) rfl rfl ?_
  change Ev _ _ _ _ _ _ _ _ (nc + c1) (ns + s1)
  refine ev_iload (i := 5) d_law_321 rfl rfl ?_
  refine ev_icmp_eq_t (tgt := 328) d_law_323 (by decide) h3 ?_
  refine ev_iload (i := 5) d_law_328 rfl rfl ?_
  refine ev_if_ne (tgt := 345) d_law_330 (by decide) rfl (fun h5 => ?_) (fun h5 => ?_)
  · refine ev_goto (tgt := 964) d_law_345 (by decide) ?_
    refine ev_less ?_ (kk M2 hZ)
    exact l_less
  · refine ev_aload_n (i := 3) d_law_333 rfl rfl rfl ?_
    refine ev_iconst d_law_334 rfl ⟨by decide, by decide⟩ ?_
    refine ev_laload (z := M2 77 0) d_law_335 rfl lx_77 (by decide) (by decide) rfl ?_
    refine ev_iload (i := 6) d_law_336 rfl rfl ?_
    refine ev_i2l d_law_338 rfl ?_
    refine ev_lcmp (z := 0) d_law_339 rfl (by rw [h4 h5]; simp) ?_
    refine ev_if_eq_t (tgt := 345) d_law_340 (by decide) rfl ?_
    refine ev_goto (tgt := 964) d_law_345 (by decide) ?_
    refine ev_less ?_ (kk M2 hZ)
    exact l_less
theorem l_caseR3 {b N : Nat} {xs : Nat → Int32} {Fi : g_Fin} {nc ns : Nat} (i : Nat) (hi : i + 6 ≤ N) (hN : N ≤ 3072) (M : g_M) (Z : g_M → Prop) (c1 s1 : Nat) (G1 : g_M → Option g_v → Prop) (h1 : ConLR y_La_make ww_La_make (g_ra 2047 c1 s1) LX M [g_r 0, g_i (xs (i + 1)).toInt, g_i (xs (i + 2)).toInt, g_i (xs (i + 3)).toInt, g_i (xs (i + 4)).toInt, g_r 77] LX G1) (h2 : ∀ (M1 : g_M) (v1 : Option g_v), G1 M1 v1 → ∃ k : Int, v1 = some (g_i k) ∧ ∃ G2 : g_M → Option g_v → Prop, (ConR y_Mo_make w_Mo_make (g_rm 2047) LX M1 [g_r 45, g_i (xs (i + 1)).toInt, g_i (xs (i + 2)).toInt, g_i (xs (i + 3)).toInt, g_i (xs (i + 4)).toInt] LX G2) ∧ ∀ (M2 : g_M) (v2 : Option g_v), G2 M2 v2 → ∃ r : Int, v2 = some (g_i r) ∧ M2 45 44 = k ∧ (k = 0 → M2 77 0 = r) ∧ Z M2) (hnc : nc + c1 ≤ 601024) (hns : ns + s1 ≤ 7293033) (kk : ∀ M2 : g_M, Z M2 → Ev (e_law b N xs) room_1 Fi 964 (l_ls b i) [] LX M2 (nc + c1) (ns + s1)) : Ev (e_law b N xs) room_1 Fi 348 (l_ls b i) [] LX M nc ns := by
  refine ev_aload_n (i := 1) d_law_348 rfl rfl rfl ?_
  refine ev_aload_nO (i := 0) d_law_349 rfl rfl rfl ?_
  refine ev_iload (i := 4) d_law_350 rfl rfl ?_
  refine ev_iconst d_law_352 rfl ⟨by decide, by decide⟩ ?_
  refine ev_iadd (z := (i : Int) + 1) d_law_353 rfl (g_w_id (by unfold g_rg; omega)) ?_
  refine ev_sldN (i + 1) x_lawS d_law_354 rfl (by omega) (by omega) ?_
  refine ev_aload_nO (i := 0) d_law_355 rfl rfl rfl ?_
  refine ev_iload (i := 4) d_law_356 rfl rfl ?_
  refine ev_iconst d_law_358 rfl ⟨by decide, by decide⟩ ?_
  refine ev_iadd (z := (i : Int) + 2) d_law_359 rfl (g_w_id (by unfold g_rg; omega)) ?_
  refine ev_sldN (i + 2) x_lawS d_law_360 rfl (by omega) (by omega) ?_
  refine ev_aload_nO (i := 0) d_law_361 rfl rfl rfl ?_
  refine ev_iload (i := 4) d_law_362 rfl rfl ?_
  refine ev_iconst d_law_364 rfl ⟨by decide, by decide⟩ ?_
  refine ev_iadd (z := (i : Int) + 3) d_law_365 rfl (g_w_id (by unfold g_rg; omega)) ?_
  refine ev_sldN (i + 3) x_lawS d_law_366 rfl (by omega) (by omega) ?_
  refine ev_aload_nO (i := 0) d_law_367 rfl rfl rfl ?_
  refine ev_iload (i := 4) d_law_368 rfl rfl ?_
  refine ev_iconst d_law_370 rfl ⟨by decide, by decide⟩ ?_
  refine ev_iadd (z := (i : Int) + 4) d_law_371 rfl (g_w_id (by unfold g_rg; omega)) ?_
  refine ev_sldN (i + 4) x_lawS d_law_372 rfl (by omega) (by omega) ?_
  refine ev_aload_n (i := 3) d_law_373 rfl rfl rfl ?_
  refine ev_callWR (As := [g_r 0, g_i (xs (i + 1)).toInt, g_i (xs (i + 2)).toInt, g_i (xs (i + 3)).toInt, g_i (xs (i + 4)).toInt, g_r 77]) x_lawT d_law_374 rfl cl_La_66 h1 (x_roomR (Nat.le_refl _) (by decide)) ⟨by show nc + c1 ≤ 601024; omega, by show ns + s1 ≤ 7293033; omega⟩ rfl rfl (Nat.le_of_ble_eq_true rfl) rfl rfl (fun M1 v1 g1 => ?_)
  obtain ⟨k, rfl, G2, hc2, hk⟩ := h2 M1 v1 g1
  change Ev _ _ _ _ _ _ _ _ (nc + c1) (ns + s1)
  refine ev_istore (i := 5) d_law_377 rfl (Nat.le_of_ble_eq_true rfl) rfl ?_
  refine ev_aload_n (i := 2) d_law_379 rfl rfl rfl ?_
  refine ev_aload_nO (i := 0) d_law_380 rfl rfl rfl ?_
  refine ev_iload (i := 4) d_law_381 rfl rfl ?_
  refine ev_iconst d_law_383 rfl ⟨by decide, by decide⟩ ?_
  refine ev_iadd (z := (i : Int) + 1) d_law_384 rfl (g_w_id (by unfold g_rg; omega)) ?_
  refine ev_sldN (i + 1) x_lawS d_law_385 rfl (by omega) (by omega) ?_
  refine ev_aload_nO (i := 0) d_law_386 rfl rfl rfl ?_
  refine ev_iload (i := 4) d_law_387 rfl rfl ?_
  refine ev_iconst d_law_389 rfl ⟨by decide, by decide⟩ ?_
  refine ev_iadd (z := (i : Int) + 2) d_law_390 rfl (g_w_id (by unfold g_rg; omega)) ?_
  refine ev_sldN (i + 2) x_lawS d_law_391 rfl (by omega) (by omega) ?_
  refine ev_aload_nO (i := 0) d_law_392 rfl rfl rfl ?_
  refine ev_iload (i := 4) d_law_393 rfl rfl ?_
  refine ev_iconst d_law_395 rfl ⟨by decide, by decide⟩ ?_
  refine ev_iadd (z := (i : Int) + 3) d_law_396 rfl (g_w_id (by unfold g_rg; omega)) ?_
  refine ev_sldN (i + 3) x_lawS d_law_397 rfl (by omega) (by omega) ?_
  refine ev_aload_nO (i := 0) d_law_398 rfl rfl rfl ?_
  refine ev_iload (i := 4) d_law_399 rfl rfl ?_
  refine ev_iconst d_law_401 rfl ⟨by decide, by decide⟩ ?_
  refine ev_iadd (z := (i : Int) + 4) d_law_402 rfl (g_w_id (by unfold g_rg; omega)) ?_
  refine ev_sldN (i + 4) x_lawS d_law_403 rfl (by omega) (by omega) ?_
  refine ev_callVR (As := [g_i (xs (i + 1)).toInt, g_i (xs (i + 2)).toInt, g_i (xs (i + 3)).toInt, g_i (xs (i + 4)).toInt]) d_law_404 rfl cl_La_68 (hc2) (x_roomR (Nat.le_refl _) (by decide)) ⟨by show (nc + c1) + 0 ≤ 601024; omega, by show (ns + s1) + 0 ≤ 7293033; omega⟩ lx_45 rfl rfl (Nat.le_of_ble_eq_true rfl) rfl rfl (fun M2 v2 g2 => ?_)
  obtain ⟨r, rfl, h3, h4, hZ⟩ := hk M2 v2 g2
  change Ev _ _ _ _ _ _ _ _ (nc + c1) (ns + s1)
  refine ev_istore (i := 6) d_law_407 rfl (Nat.le_of_ble_eq_true rfl) rfl ?_
  refine ev_aload_n (i := 2) d_law_409 rfl rfl rfl ?_
  refine ev_callV (As := []) d_law_410 rfl cl_La_55 (c_Mo_thrown 2047 M2) (x_roomR (Nat.le_refl _) (by decide)) ⟨by show (nc + c1) + 0 ≤ 601024; omega, by show (ns + s1) + 0 ≤ 7293033; omega⟩ lx_45 rfl rfl (Nat.le_of_ble_eq_true rfl) rfl rfl ?_
  change Ev _ _ _ _ _ _ _ _ (nc + c1) (ns + s1)
  refine ev_iload (i := 5) d_law_413 rfl rfl ?_
  refine ev_icmp_eq_t (tgt := 420) d_law_415 (by decide) h3 ?_
  refine ev_iload (i := 5) d_law_420 rfl rfl ?_
  refine ev_if_ne (tgt := 437) d_law_422 (by decide) rfl (fun h5 => ?_) (fun h5 => ?_)
  · refine ev_goto (tgt := 964) d_law_437 (by decide) ?_
    refine ev_less ?_ (kk M2 hZ)
    exact l_less
  · refine ev_aload_n (i := 3) d_law_425 rfl rfl rfl ?_
    refine ev_iconst d_law_426 rfl ⟨by decide, by decide⟩ ?_
    refine ev_laload (z := M2 77 0) d_law_427 rfl lx_77 (by decide) (by decide) rfl ?_
    refine ev_iload (i := 6) d_law_428 rfl rfl ?_
    refine ev_i2l d_law_430 rfl ?_
    refine ev_lcmp (z := 0) d_law_431 rfl (by rw [h4 h5]; simp) ?_
    refine ev_if_eq_t (tgt := 437) d_law_432 (by decide) rfl ?_
    refine ev_goto (tgt := 964) d_law_437 (by decide) ?_
    refine ev_less ?_ (kk M2 hZ)
    exact l_less
theorem l_caseR4 {b N : Nat} {xs : Nat → Int32} {Fi : g_Fin} {nc ns : Nat} (i : Nat) (hi : i + 6 ≤ N) (hN : N ≤ 3072) (M : g_M) (Z : g_M → Prop) (c1 s1 : Nat) (G1 : g_M → Option g_v → Prop) (h1 : ConLR y_La_call ww_La_call (g_ra 2047 c1 s1) LX M [g_r 0, g_i (xs (i + 1)).toInt, g_i (xs (i + 2)).toInt, g_i (xs (i + 3)).toInt, g_i (xs (i + 4)).toInt, g_r 77] LX G1) (h2 : ∀ (M1 : g_M) (v1 : Option g_v), G1 M1 v1 → ∃ k : Int, v1 = some (g_i k) ∧ ∃ G2 : g_M → Option g_v → Prop, (ConR y_Mo_call w_Mo_call (g_rm 2047) LX M1 [g_r 45, g_i (xs (i + 1)).toInt, g_i (xs (i + 2)).toInt, g_i (xs (i + 3)).toInt, g_i (xs (i + 4)).toInt] LX G2) ∧ ∀ (M2 : g_M) (v2 : Option g_v), G2 M2 v2 → ∃ r : Int, v2 = some (g_i r) ∧ M2 45 44 = k ∧ (k = 0 → M2 77 0 = r) ∧ Z M2) (hnc : nc + c1 ≤ 601024) (hns : ns + s1 ≤ 7293033) (kk : ∀ M2 : g_M, Z M2 → Ev (e_law b N xs) room_1 Fi 964 (l_ls b i) [] LX M2 (nc + c1) (ns + s1)) : Ev (e_law b N xs) room_1 Fi 440 (l_ls b i) [] LX M nc ns := by
  refine ev_aload_n (i := 1) d_law_440 rfl rfl rfl ?_
  refine ev_aload_nO (i := 0) d_law_441 rfl rfl rfl ?_
  refine ev_iload (i := 4) d_law_442 rfl rfl ?_
  refine ev_iconst d_law_444 rfl ⟨by decide, by decide⟩ ?_
  refine ev_iadd (z := (i : Int) + 1) d_law_445 rfl (g_w_id (by unfold g_rg; omega)) ?_
  refine ev_sldN (i + 1) x_lawS d_law_446 rfl (by omega) (by omega) ?_
  refine ev_aload_nO (i := 0) d_law_447 rfl rfl rfl ?_
  refine ev_iload (i := 4) d_law_448 rfl rfl ?_
  refine ev_iconst d_law_450 rfl ⟨by decide, by decide⟩ ?_
  refine ev_iadd (z := (i : Int) + 2) d_law_451 rfl (g_w_id (by unfold g_rg; omega)) ?_
  refine ev_sldN (i + 2) x_lawS d_law_452 rfl (by omega) (by omega) ?_
  refine ev_aload_nO (i := 0) d_law_453 rfl rfl rfl ?_
  refine ev_iload (i := 4) d_law_454 rfl rfl ?_
  refine ev_iconst d_law_456 rfl ⟨by decide, by decide⟩ ?_
  refine ev_iadd (z := (i : Int) + 3) d_law_457 rfl (g_w_id (by unfold g_rg; omega)) ?_
  refine ev_sldN (i + 3) x_lawS d_law_458 rfl (by omega) (by omega) ?_
  refine ev_aload_nO (i := 0) d_law_459 rfl rfl rfl ?_
  refine ev_iload (i := 4) d_law_460 rfl rfl ?_
  refine ev_iconst d_law_462 rfl ⟨by decide, by decide⟩ ?_
  refine ev_iadd (z := (i : Int) + 4) d_law_463 rfl (g_w_id (by unfold g_rg; omega)) ?_
  refine ev_sldN (i + 4) x_lawS d_law_464 rfl (by omega) (by omega) ?_
  refine ev_aload_n (i := 3) d_law_465 rfl rfl rfl ?_
  refine ev_callWR (As := [g_r 0, g_i (xs (i + 1)).toInt, g_i (xs (i + 2)).toInt, g_i (xs (i + 3)).toInt, g_i (xs (i + 4)).toInt, g_r 77]) x_lawT d_law_466 rfl cl_La_69 h1 (x_roomR (Nat.le_refl _) (by decide)) ⟨by show nc + c1 ≤ 601024; omega, by show ns + s1 ≤ 7293033; omega⟩ rfl rfl (Nat.le_of_ble_eq_true rfl) rfl rfl (fun M1 v1 g1 => ?_)
  obtain ⟨k, rfl, G2, hc2, hk⟩ := h2 M1 v1 g1
  change Ev _ _ _ _ _ _ _ _ (nc + c1) (ns + s1)
  refine ev_istore (i := 5) d_law_469 rfl (Nat.le_of_ble_eq_true rfl) rfl ?_
  refine ev_aload_n (i := 2) d_law_471 rfl rfl rfl ?_
  refine ev_aload_nO (i := 0) d_law_472 rfl rfl rfl ?_
  refine ev_iload (i := 4) d_law_473 rfl rfl ?_
  refine ev_iconst d_law_475 rfl ⟨by decide, by decide⟩ ?_
  refine ev_iadd (z := (i : Int) + 1) d_law_476 rfl (g_w_id (by unfold g_rg; omega)) ?_
  refine ev_sldN (i + 1) x_lawS d_law_477 rfl (by omega) (by omega) ?_
  refine ev_aload_nO (i := 0) d_law_478 rfl rfl rfl ?_
  refine ev_iload (i := 4) d_law_479 rfl rfl ?_
  refine ev_iconst d_law_481 rfl ⟨by decide, by decide⟩ ?_
  refine ev_iadd (z := (i : Int) + 2) d_law_482 rfl (g_w_id (by unfold g_rg; omega)) ?_
  refine ev_sldN (i + 2) x_lawS d_law_483 rfl (by omega) (by omega) ?_
  refine ev_aload_nO (i := 0) d_law_484 rfl rfl rfl ?_
  refine ev_iload (i := 4) d_law_485 rfl rfl ?_
  refine ev_iconst d_law_487 rfl ⟨by decide, by decide⟩ ?_
  refine ev_iadd (z := (i : Int) + 3) d_law_488 rfl (g_w_id (by unfold g_rg; omega)) ?_
  refine ev_sldN (i + 3) x_lawS d_law_489 rfl (by omega) (by omega) ?_
  refine ev_aload_nO (i := 0) d_law_490 rfl rfl rfl ?_
  refine ev_iload (i := 4) d_law_491 rfl rfl ?_
  refine ev_iconst d_law_493 rfl ⟨by decide, by decide⟩ ?_
  refine ev_iadd (z := (i : Int) + 4) d_law_494 rfl (g_w_id (by unfold g_rg; omega)) ?_
  refine ev_sldN (i + 4) x_lawS d_law_495 rfl (by omega) (by omega) ?_
  refine ev_callVR (As := [g_i (xs (i + 1)).toInt, g_i (xs (i + 2)).toInt, g_i (xs (i + 3)).toInt, g_i (xs (i + 4)).toInt]) d_law_496 rfl cl_La_71 (hc2) (x_roomR (Nat.le_refl _) (by decide)) ⟨by show (nc + c1) + 0 ≤ 601024; omega, by show (ns + s1) + 0 ≤ 7293033; omega⟩ lx_45 rfl rfl (Nat.le_of_ble_eq_true rfl) rfl rfl (fun M2 v2 g2 => ?_)
  obtain ⟨r, rfl, h3, h4, hZ⟩ := hk M2 v2 g2
  change Ev _ _ _ _ _ _ _ _ (nc + c1) (ns + s1)
  refine ev_istore (i := 6) d_law_499 rfl (Nat.le_of_ble_eq_true rfl) rfl ?_
  refine ev_aload_n (i := 2) d_law_501 rfl rfl rfl ?_
  refine ev_callV (As := []) d_law_502 rfl cl_La_55 (c_Mo_thrown 2047 M2) (x_roomR (Nat.le_refl _) (by decide)) ⟨by show (nc + c1) + 0 ≤ 601024; omega, by show (ns + s1) + 0 ≤ 7293033; omega⟩ lx_45 rfl rfl (Nat.le_of_ble_eq_true rfl) rfl rfl ?_
  change Ev _ _ _ _ _ _ _ _ (nc + c1) (ns + s1)
  refine ev_iload (i := 5) d_law_505 rfl rfl ?_
  refine ev_icmp_eq_t (tgt := 512) d_law_507 (by decide) h3 ?_
  refine ev_iload (i := 5) d_law_512 rfl rfl ?_
  refine ev_if_ne (tgt := 529) d_law_514 (by decide) rfl (fun h5 => ?_) (fun h5 => ?_)
  · refine ev_goto (tgt := 964) d_law_529 (by decide) ?_
    refine ev_less ?_ (kk M2 hZ)
    exact l_less
  · refine ev_aload_n (i := 3) d_law_517 rfl rfl rfl ?_
    refine ev_iconst d_law_518 rfl ⟨by decide, by decide⟩ ?_
    refine ev_laload (z := M2 77 0) d_law_519 rfl lx_77 (by decide) (by decide) rfl ?_
    refine ev_iload (i := 6) d_law_520 rfl rfl ?_
    refine ev_i2l d_law_522 rfl ?_
    refine ev_lcmp (z := 0) d_law_523 rfl (by rw [h4 h5]; simp) ?_
    refine ev_if_eq_t (tgt := 529) d_law_524 (by decide) rfl ?_
    refine ev_goto (tgt := 964) d_law_529 (by decide) ?_
    refine ev_less ?_ (kk M2 hZ)
    exact l_less
theorem l_caseR5 {b N : Nat} {xs : Nat → Int32} {Fi : g_Fin} {nc ns : Nat} (i : Nat) (hi : i + 6 ≤ N) (hN : N ≤ 3072) (M : g_M) (Z : g_M → Prop) (c1 s1 : Nat) (G1 : g_M → Option g_v → Prop) (h1 : ConLR y_La_clause ww_La_clause (g_ra 2047 c1 s1) LX M [g_r 0, g_i (xs (i + 1)).toInt, g_i (xs (i + 2)).toInt, g_i (xs (i + 3)).toInt, g_i (xs (i + 4)).toInt, g_i (xs (i + 5)).toInt, g_r 77] LX G1) (h2 : ∀ (M1 : g_M) (v1 : Option g_v), G1 M1 v1 → ∃ k : Int, v1 = some (g_i k) ∧ ∃ G2 : g_M → Option g_v → Prop, (ConR y_Mo_clause w_Mo_clause (g_rm 2047) LX M1 [g_r 45, g_i (xs (i + 1)).toInt, g_i (xs (i + 2)).toInt, g_i (xs (i + 3)).toInt, g_i (xs (i + 4)).toInt, g_i (xs (i + 5)).toInt] LX G2) ∧ ∀ (M2 : g_M) (v2 : Option g_v), G2 M2 v2 → ∃ r : Int, v2 = some (g_i r) ∧ M2 45 44 = k ∧ (k = 0 → M2 77 0 = r) ∧ Z M2) (hnc : nc + c1 ≤ 601024) (hns : ns + s1 ≤ 7293033) (kk : ∀ M2 : g_M, Z M2 → Ev (e_law b N xs) room_1 Fi 964 (l_ls b i) [] LX M2 (nc + c1) (ns + s1)) : Ev (e_law b N xs) room_1 Fi 532 (l_ls b i) [] LX M nc ns := by
  refine ev_aload_n (i := 1) d_law_532 rfl rfl rfl ?_
  refine ev_aload_nO (i := 0) d_law_533 rfl rfl rfl ?_
  refine ev_iload (i := 4) d_law_534 rfl rfl ?_
  refine ev_iconst d_law_536 rfl ⟨by decide, by decide⟩ ?_
  refine ev_iadd (z := (i : Int) + 1) d_law_537 rfl (g_w_id (by unfold g_rg; omega)) ?_
  refine ev_sldN (i + 1) x_lawS d_law_538 rfl (by omega) (by omega) ?_
  refine ev_aload_nO (i := 0) d_law_539 rfl rfl rfl ?_
  refine ev_iload (i := 4) d_law_540 rfl rfl ?_
  refine ev_iconst d_law_542 rfl ⟨by decide, by decide⟩ ?_
  refine ev_iadd (z := (i : Int) + 2) d_law_543 rfl (g_w_id (by unfold g_rg; omega)) ?_
  refine ev_sldN (i + 2) x_lawS d_law_544 rfl (by omega) (by omega) ?_
  refine ev_aload_nO (i := 0) d_law_545 rfl rfl rfl ?_
  refine ev_iload (i := 4) d_law_546 rfl rfl ?_
  refine ev_iconst d_law_548 rfl ⟨by decide, by decide⟩ ?_
  refine ev_iadd (z := (i : Int) + 3) d_law_549 rfl (g_w_id (by unfold g_rg; omega)) ?_
  refine ev_sldN (i + 3) x_lawS d_law_550 rfl (by omega) (by omega) ?_
  refine ev_aload_nO (i := 0) d_law_551 rfl rfl rfl ?_
  refine ev_iload (i := 4) d_law_552 rfl rfl ?_
  refine ev_iconst d_law_554 rfl ⟨by decide, by decide⟩ ?_
  refine ev_iadd (z := (i : Int) + 4) d_law_555 rfl (g_w_id (by unfold g_rg; omega)) ?_
  refine ev_sldN (i + 4) x_lawS d_law_556 rfl (by omega) (by omega) ?_
  refine ev_aload_nO (i := 0) d_law_557 rfl rfl rfl ?_
  refine ev_iload (i := 4) d_law_558 rfl rfl ?_
  refine ev_iconst d_law_560 rfl ⟨by decide, by decide⟩ ?_
  refine ev_iadd (z := (i : Int) + 5) d_law_561 rfl (g_w_id (by unfold g_rg; omega)) ?_
  refine ev_sldN (i + 5) x_lawS d_law_562 rfl (by omega) (by omega) ?_
  refine ev_aload_n (i := 3) d_law_563 rfl rfl rfl ?_
  refine ev_callWR (As := [g_r 0, g_i (xs (i + 1)).toInt, g_i (xs (i + 2)).toInt, g_i (xs (i + 3)).toInt, g_i (xs (i + 4)).toInt, g_i (xs (i + 5)).toInt, g_r 77]) x_lawT d_law_564 rfl cl_La_72 h1 (x_roomR (Nat.le_refl _) (by decide)) ⟨by show nc + c1 ≤ 601024; omega, by show ns + s1 ≤ 7293033; omega⟩ rfl rfl (Nat.le_of_ble_eq_true rfl) rfl rfl (fun M1 v1 g1 => ?_)
  obtain ⟨k, rfl, G2, hc2, hk⟩ := h2 M1 v1 g1
  change Ev _ _ _ _ _ _ _ _ (nc + c1) (ns + s1)
  refine ev_istore (i := 5) d_law_567 rfl (Nat.le_of_ble_eq_true rfl) rfl ?_
  refine ev_aload_n (i := 2) d_law_569 rfl rfl rfl ?_
  refine ev_aload_nO (i := 0) d_law_570 rfl rfl rfl ?_
  refine ev_iload (i := 4) d_law_571 rfl rfl ?_
  refine ev_iconst d_law_573 rfl ⟨by decide, by decide⟩ ?_
  refine ev_iadd (z := (i : Int) + 1) d_law_574 rfl (g_w_id (by unfold g_rg; omega)) ?_
  refine ev_sldN (i + 1) x_lawS d_law_575 rfl (by omega) (by omega) ?_
  refine ev_aload_nO (i := 0) d_law_576 rfl rfl rfl ?_
  refine ev_iload (i := 4) d_law_577 rfl rfl ?_
  refine ev_iconst d_law_579 rfl ⟨by decide, by decide⟩ ?_
  refine ev_iadd (z := (i : Int) + 2) d_law_580 rfl (g_w_id (by unfold g_rg; omega)) ?_
  refine ev_sldN (i + 2) x_lawS d_law_581 rfl (by omega) (by omega) ?_
  refine ev_aload_nO (i := 0) d_law_582 rfl rfl rfl ?_
  refine ev_iload (i := 4) d_law_583 rfl rfl ?_
  refine ev_iconst d_law_585 rfl ⟨by decide, by decide⟩ ?_
  refine ev_iadd (z := (i : Int) + 3) d_law_586 rfl (g_w_id (by unfold g_rg; omega)) ?_
  refine ev_sldN (i + 3) x_lawS d_law_587 rfl (by omega) (by omega) ?_
  refine ev_aload_nO (i := 0) d_law_588 rfl rfl rfl ?_
  refine ev_iload (i := 4) d_law_589 rfl rfl ?_
  refine ev_iconst d_law_591 rfl ⟨by decide, by decide⟩ ?_
  refine ev_iadd (z := (i : Int) + 4) d_law_592 rfl (g_w_id (by unfold g_rg; omega)) ?_
  refine ev_sldN (i + 4) x_lawS d_law_593 rfl (by omega) (by omega) ?_
  refine ev_aload_nO (i := 0) d_law_594 rfl rfl rfl ?_
  refine ev_iload (i := 4) d_law_595 rfl rfl ?_
  refine ev_iconst d_law_597 rfl ⟨by decide, by decide⟩ ?_
  refine ev_iadd (z := (i : Int) + 5) d_law_598 rfl (g_w_id (by unfold g_rg; omega)) ?_
  refine ev_sldN (i + 5) x_lawS d_law_599 rfl (by omega) (by omega) ?_
  refine ev_callVR (As := [g_i (xs (i + 1)).toInt, g_i (xs (i + 2)).toInt, g_i (xs (i + 3)).toInt, g_i (xs (i + 4)).toInt, g_i (xs (i + 5)).toInt]) d_law_600 rfl cl_La_75 (hc2) (x_roomR (Nat.le_refl _) (by decide)) ⟨by show (nc + c1) + 0 ≤ 601024; omega, by show (ns + s1) + 0 ≤ 7293033; omega⟩ lx_45 rfl rfl (Nat.le_of_ble_eq_true rfl) rfl rfl (fun M2 v2 g2 => ?_)
  obtain ⟨r, rfl, h3, h4, hZ⟩ := hk M2 v2 g2
  change Ev _ _ _ _ _ _ _ _ (nc + c1) (ns + s1)
  refine ev_istore (i := 6) d_law_603 rfl (Nat.le_of_ble_eq_true rfl) rfl ?_
  refine ev_aload_n (i := 2) d_law_605 rfl rfl rfl ?_
  refine ev_callV (As := []) d_law_606 rfl cl_La_55 (c_Mo_thrown 2047 M2) (x_roomR (Nat.le_refl _) (by decide)) ⟨by show (nc + c1) + 0 ≤ 601024; omega, by show (ns + s1) + 0 ≤ 7293033; omega⟩ lx_45 rfl rfl (Nat.le_of_ble_eq_true rfl) rfl rfl ?_
  change Ev _ _ _ _ _ _ _ _ (nc + c1) (ns + s1)
  refine ev_iload (i := 5) d_law_609 rfl rfl ?_
  refine ev_icmp_eq_t (tgt := 616) d_law_611 (by decide) h3 ?_
  refine ev_iload (i := 5) d_law_616 rfl rfl ?_
  refine ev_if_ne (tgt := 633) d_law_618 (by decide) rfl (fun h5 => ?_) (fun h5 => ?_)
  · refine ev_goto (tgt := 964) d_law_633 (by decide) ?_
    refine ev_less ?_ (kk M2 hZ)
    exact l_less
  · refine ev_aload_n (i := 3) d_law_621 rfl rfl rfl ?_
    refine ev_iconst d_law_622 rfl ⟨by decide, by decide⟩ ?_
    refine ev_laload (z := M2 77 0) d_law_623 rfl lx_77 (by decide) (by decide) rfl ?_
    refine ev_iload (i := 6) d_law_624 rfl rfl ?_
    refine ev_i2l d_law_626 rfl ?_
    refine ev_lcmp (z := 0) d_law_627 rfl (by rw [h4 h5]; simp) ?_
    refine ev_if_eq_t (tgt := 633) d_law_628 (by decide) rfl ?_
    refine ev_goto (tgt := 964) d_law_633 (by decide) ?_
    refine ev_less ?_ (kk M2 hZ)
    exact l_less
theorem l_caseR6 {b N : Nat} {xs : Nat → Int32} {Fi : g_Fin} {nc ns : Nat} (i : Nat) (hi : i + 6 ≤ N) (hN : N ≤ 3072) (M : g_M) (Z : g_M → Prop) (G1 : g_M → Option g_v → Prop) (h1 : ConR y_Fu_check w_Fu_check (g_rm 2047) LX M [g_r 0] LX G1) (h2 : ∀ (M1 : g_M) (v1 : Option g_v), G1 M1 v1 → ∃ k : Int, v1 = some (g_i k) ∧ ∃ G2 : g_M → Option g_v → Prop, (ConR y_Mo_check w_Mo_check (g_rm 2047) LX M1 [g_r 45] LX G2) ∧ ∀ (M2 : g_M) (v2 : Option g_v), G2 M2 v2 → ∃ r : Int, v2 = some (g_i r) ∧ k = r ∧ Z M2) (hnc : nc ≤ 601024) (hns : ns ≤ 7293033) (kk : ∀ M2 : g_M, Z M2 → Ev (e_law b N xs) room_1 Fi 964 (l_ls b i) [] LX M2 nc ns) : Ev (e_law b N xs) room_1 Fi 636 (l_ls b i) [] LX M nc ns := by
  refine ev_aload_n (i := 1) d_law_636 rfl rfl rfl ?_
  refine ev_callVR (As := []) d_law_637 rfl cl_La_76 (h1) (x_roomR (Nat.le_refl _) (by decide)) ⟨by show nc + 0 ≤ 601024; omega, by show ns + 0 ≤ 7293033; omega⟩ lx_0 rfl rfl (Nat.le_of_ble_eq_true rfl) rfl rfl (fun M1 v1 g1 => ?_)
  obtain ⟨k, rfl, G2, hc2, hk⟩ := h2 M1 v1 g1
  change Ev _ _ _ _ _ _ _ _ nc ns
  refine ev_aload_n (i := 2) d_law_640 rfl rfl rfl ?_
  refine ev_callVR (As := []) d_law_641 rfl cl_La_79 (hc2) (x_roomR (Nat.le_refl _) (by decide)) ⟨by show nc + 0 ≤ 601024; omega, by show ns + 0 ≤ 7293033; omega⟩ lx_45 rfl rfl (Nat.le_of_ble_eq_true rfl) rfl rfl (fun M2 v2 g2 => ?_)
  obtain ⟨r, rfl, h3, hZ⟩ := hk M2 v2 g2
  change Ev _ _ _ _ _ _ _ _ nc ns
  refine ev_icmp_eq_t (tgt := 964) d_law_644 (by decide) h3 ?_
  exact (kk M2 hZ)
theorem l_caseR7 {b N : Nat} {xs : Nat → Int32} {Fi : g_Fin} {nc ns : Nat} (i : Nat) (hi : i + 6 ≤ N) (hN : N ≤ 3072) (M : g_M) (Z : g_M → Prop) (G1 : g_M → Option g_v → Prop) (h1 : ConR y_Fu_graphs w_Fu_graphs (g_rm 2047) LX M [g_r 0] LX G1) (h2 : ∀ (M1 : g_M) (v1 : Option g_v), G1 M1 v1 → ∃ k : Int, v1 = some (g_i k) ∧ ∃ G2 : g_M → Option g_v → Prop, (ConR y_Mo_graphs w_Mo_graphs (g_rm 2047) LX M1 [g_r 45] LX G2) ∧ ∀ (M2 : g_M) (v2 : Option g_v), G2 M2 v2 → ∃ r : Int, v2 = some (g_i r) ∧ k = r ∧ Z M2) (hnc : nc ≤ 601024) (hns : ns ≤ 7293033) (kk : ∀ M2 : g_M, Z M2 → Ev (e_law b N xs) room_1 Fi 964 (l_ls b i) [] LX M2 nc ns) : Ev (e_law b N xs) room_1 Fi 649 (l_ls b i) [] LX M nc ns := by
  refine ev_aload_n (i := 1) d_law_649 rfl rfl rfl ?_
  refine ev_callVR (As := []) d_law_650 rfl cl_La_80 (h1) (x_roomR (Nat.le_refl _) (by decide)) ⟨by show nc + 0 ≤ 601024; omega, by show ns + 0 ≤ 7293033; omega⟩ lx_0 rfl rfl (Nat.le_of_ble_eq_true rfl) rfl rfl (fun M1 v1 g1 => ?_)
  obtain ⟨k, rfl, G2, hc2, hk⟩ := h2 M1 v1 g1
  change Ev _ _ _ _ _ _ _ _ nc ns
  refine ev_aload_n (i := 2) d_law_653 rfl rfl rfl ?_
  refine ev_callVR (As := []) d_law_654 rfl cl_La_83 (hc2) (x_roomR (Nat.le_refl _) (by decide)) ⟨by show nc + 0 ≤ 601024; omega, by show ns + 0 ≤ 7293033; omega⟩ lx_45 rfl rfl (Nat.le_of_ble_eq_true rfl) rfl rfl (fun M2 v2 g2 => ?_)
  obtain ⟨r, rfl, h3, hZ⟩ := hk M2 v2 g2
  change Ev _ _ _ _ _ _ _ _ nc ns
  refine ev_icmp_eq_t (tgt := 964) d_law_657 (by decide) h3 ?_
  exact (kk M2 hZ)
theorem l_caseR8 {b N : Nat} {xs : Nat → Int32} {Fi : g_Fin} {nc ns : Nat} (i : Nat) (hi : i + 6 ≤ N) (hN : N ≤ 3072) (M : g_M) (Z : g_M → Prop) (c1 s1 : Nat) (G1 : g_M → Option g_v → Prop) (h1 : ConLR y_La_arc ww_La_arc (g_ra 2047 c1 s1) LX M [g_r 0, g_i (xs (i + 1)).toInt, g_i (xs (i + 2)).toInt, g_i (xs (i + 3)).toInt, g_i (xs (i + 4)).toInt, g_r 77] LX G1) (h2 : ∀ (M1 : g_M) (v1 : Option g_v), G1 M1 v1 → ∃ k : Int, v1 = some (g_i k) ∧ ∃ G2 : g_M → Option g_v → Prop, (ConR y_Mo_arc w_Mo_arc (g_rm 2047) LX M1 [g_r 45, g_i (xs (i + 1)).toInt, g_i (xs (i + 2)).toInt, g_i (xs (i + 3)).toInt, g_i (xs (i + 4)).toInt] LX G2) ∧ ∀ (M2 : g_M) (v2 : Option g_v), G2 M2 v2 → ∃ r : Int, v2 = some (g_i r) ∧ M2 45 44 = k ∧ (k = 0 → M2 77 0 = r) ∧ Z M2) (hnc : nc + c1 ≤ 601024) (hns : ns + s1 ≤ 7293033) (kk : ∀ M2 : g_M, Z M2 → Ev (e_law b N xs) room_1 Fi 964 (l_ls b i) [] LX M2 (nc + c1) (ns + s1)) : Ev (e_law b N xs) room_1 Fi 662 (l_ls b i) [] LX M nc ns := by
  refine ev_aload_n (i := 1) d_law_662 rfl rfl rfl ?_
  refine ev_aload_nO (i := 0) d_law_663 rfl rfl rfl ?_
  refine ev_iload (i := 4) d_law_664 rfl rfl ?_
  refine ev_iconst d_law_666 rfl ⟨by decide, by decide⟩ ?_
  refine ev_iadd (z := (i : Int) + 1) d_law_667 rfl (g_w_id (by unfold g_rg; omega)) ?_
  refine ev_sldN (i + 1) x_lawS d_law_668 rfl (by omega) (by omega) ?_
  refine ev_aload_nO (i := 0) d_law_669 rfl rfl rfl ?_
  refine ev_iload (i := 4) d_law_670 rfl rfl ?_
  refine ev_iconst d_law_672 rfl ⟨by decide, by decide⟩ ?_
  refine ev_iadd (z := (i : Int) + 2) d_law_673 rfl (g_w_id (by unfold g_rg; omega)) ?_
  refine ev_sldN (i + 2) x_lawS d_law_674 rfl (by omega) (by omega) ?_
  refine ev_aload_nO (i := 0) d_law_675 rfl rfl rfl ?_
  refine ev_iload (i := 4) d_law_676 rfl rfl ?_
  refine ev_iconst d_law_678 rfl ⟨by decide, by decide⟩ ?_
  refine ev_iadd (z := (i : Int) + 3) d_law_679 rfl (g_w_id (by unfold g_rg; omega)) ?_
  refine ev_sldN (i + 3) x_lawS d_law_680 rfl (by omega) (by omega) ?_
  refine ev_aload_nO (i := 0) d_law_681 rfl rfl rfl ?_
  refine ev_iload (i := 4) d_law_682 rfl rfl ?_
  refine ev_iconst d_law_684 rfl ⟨by decide, by decide⟩ ?_
  refine ev_iadd (z := (i : Int) + 4) d_law_685 rfl (g_w_id (by unfold g_rg; omega)) ?_
  refine ev_sldN (i + 4) x_lawS d_law_686 rfl (by omega) (by omega) ?_
  refine ev_aload_n (i := 3) d_law_687 rfl rfl rfl ?_
  refine ev_callWR (As := [g_r 0, g_i (xs (i + 1)).toInt, g_i (xs (i + 2)).toInt, g_i (xs (i + 3)).toInt, g_i (xs (i + 4)).toInt, g_r 77]) x_lawT d_law_688 rfl cl_La_84 h1 (x_roomR (Nat.le_refl _) (by decide)) ⟨by show nc + c1 ≤ 601024; omega, by show ns + s1 ≤ 7293033; omega⟩ rfl rfl (Nat.le_of_ble_eq_true rfl) rfl rfl (fun M1 v1 g1 => ?_)
  obtain ⟨k, rfl, G2, hc2, hk⟩ := h2 M1 v1 g1
  change Ev _ _ _ _ _ _ _ _ (nc + c1) (ns + s1)
  refine ev_istore (i := 5) d_law_691 rfl (Nat.le_of_ble_eq_true rfl) rfl ?_
  refine ev_aload_n (i := 2) d_law_693 rfl rfl rfl ?_
  refine ev_aload_nO (i := 0) d_law_694 rfl rfl rfl ?_
  refine ev_iload (i := 4) d_law_695 rfl rfl ?_
  refine ev_iconst d_law_697 rfl ⟨by decide, by decide⟩ ?_
  refine ev_iadd (z := (i : Int) + 1) d_law_698 rfl (g_w_id (by unfold g_rg; omega)) ?_
  refine ev_sldN (i + 1) x_lawS d_law_699 rfl (by omega) (by omega) ?_
  refine ev_aload_nO (i := 0) d_law_700 rfl rfl rfl ?_
  refine ev_iload (i := 4) d_law_701 rfl rfl ?_
  refine ev_iconst d_law_703 rfl ⟨by decide, by decide⟩ ?_
  refine ev_iadd (z := (i : Int) + 2) d_law_704 rfl (g_w_id (by unfold g_rg; omega)) ?_
  refine ev_sldN (i + 2) x_lawS d_law_705 rfl (by omega) (by omega) ?_
  refine ev_aload_nO (i := 0) d_law_706 rfl rfl rfl ?_
  refine ev_iload (i := 4) d_law_707 rfl rfl ?_
  refine ev_iconst d_law_709 rfl ⟨by decide, by decide⟩ ?_
  refine ev_iadd (z := (i : Int) + 3) d_law_710 rfl (g_w_id (by unfold g_rg; omega)) ?_
  refine ev_sldN (i + 3) x_lawS d_law_711 rfl (by omega) (by omega) ?_
  refine ev_aload_nO (i := 0) d_law_712 rfl rfl rfl ?_
  refine ev_iload (i := 4) d_law_713 rfl rfl ?_
  refine ev_iconst d_law_715 rfl ⟨by decide, by decide⟩ ?_
  refine ev_iadd (z := (i : Int) + 4) d_law_716 rfl (g_w_id (by unfold g_rg; omega)) ?_
  refine ev_sldN (i + 4) x_lawS d_law_717 rfl (by omega) (by omega) ?_
  refine ev_callVR (As := [g_i (xs (i + 1)).toInt, g_i (xs (i + 2)).toInt, g_i (xs (i + 3)).toInt, g_i (xs (i + 4)).toInt]) d_law_718 rfl cl_La_86 (hc2) (x_roomR (Nat.le_refl _) (by decide)) ⟨by show (nc + c1) + 0 ≤ 601024; omega, by show (ns + s1) + 0 ≤ 7293033; omega⟩ lx_45 rfl rfl (Nat.le_of_ble_eq_true rfl) rfl rfl (fun M2 v2 g2 => ?_)
  obtain ⟨r, rfl, h3, h4, hZ⟩ := hk M2 v2 g2
  change Ev _ _ _ _ _ _ _ _ (nc + c1) (ns + s1)
  refine ev_istore (i := 6) d_law_721 rfl (Nat.le_of_ble_eq_true rfl) rfl ?_
  refine ev_aload_n (i := 2) d_law_723 rfl rfl rfl ?_
  refine ev_callV (As := []) d_law_724 rfl cl_La_55 (c_Mo_thrown 2047 M2) (x_roomR (Nat.le_refl _) (by decide)) ⟨by show (nc + c1) + 0 ≤ 601024; omega, by show (ns + s1) + 0 ≤ 7293033; omega⟩ lx_45 rfl rfl (Nat.le_of_ble_eq_true rfl) rfl rfl ?_
  change Ev _ _ _ _ _ _ _ _ (nc + c1) (ns + s1)
  refine ev_iload (i := 5) d_law_727 rfl rfl ?_
  refine ev_icmp_eq_t (tgt := 734) d_law_729 (by decide) h3 ?_
  refine ev_iload (i := 5) d_law_734 rfl rfl ?_
  refine ev_if_ne (tgt := 751) d_law_736 (by decide) rfl (fun h5 => ?_) (fun h5 => ?_)
  · refine ev_goto (tgt := 964) d_law_751 (by decide) ?_
    refine ev_less ?_ (kk M2 hZ)
    exact l_less
  · refine ev_aload_n (i := 3) d_law_739 rfl rfl rfl ?_
    refine ev_iconst d_law_740 rfl ⟨by decide, by decide⟩ ?_
    refine ev_laload (z := M2 77 0) d_law_741 rfl lx_77 (by decide) (by decide) rfl ?_
    refine ev_iload (i := 6) d_law_742 rfl rfl ?_
    refine ev_i2l d_law_744 rfl ?_
    refine ev_lcmp (z := 0) d_law_745 rfl (by rw [h4 h5]; simp) ?_
    refine ev_if_eq_t (tgt := 751) d_law_746 (by decide) rfl ?_
    refine ev_goto (tgt := 964) d_law_751 (by decide) ?_
    refine ev_less ?_ (kk M2 hZ)
    exact l_less
theorem l_caseR9 {b N : Nat} {xs : Nat → Int32} {Fi : g_Fin} {nc ns : Nat} (i : Nat) (hi : i + 6 ≤ N) (hN : N ≤ 3072) (M : g_M) (Z : g_M → Prop) (G1 : g_M → Option g_v → Prop) (h1 : ConR y_Fu_isValue w_Fu_isValue (g_rm 2047) LX M [g_r 0, g_i (xs (i + 1)).toInt, g_i (xs (i + 2)).toInt] LX G1) (h2 : ∀ (M1 : g_M) (v1 : Option g_v), G1 M1 v1 → ∃ k : Int, v1 = some (g_i k) ∧ ∃ G2 : g_M → Option g_v → Prop, (ConR y_Mo_isValue w_Mo_isValue (g_rm 2047) LX M1 [g_r 45, g_i (xs (i + 1)).toInt, g_i (xs (i + 2)).toInt] LX G2) ∧ ∀ (M2 : g_M) (v2 : Option g_v), G2 M2 v2 → ∃ r : Int, v2 = some (g_i r) ∧ k = r ∧ Z M2) (hnc : nc ≤ 601024) (hns : ns ≤ 7293033) (kk : ∀ M2 : g_M, Z M2 → Ev (e_law b N xs) room_1 Fi 964 (l_ls b i) [] LX M2 nc ns) : Ev (e_law b N xs) room_1 Fi 754 (l_ls b i) [] LX M nc ns := by
  refine ev_aload_n (i := 1) d_law_754 rfl rfl rfl ?_
  refine ev_aload_nO (i := 0) d_law_755 rfl rfl rfl ?_
  refine ev_iload (i := 4) d_law_756 rfl rfl ?_
  refine ev_iconst d_law_758 rfl ⟨by decide, by decide⟩ ?_
  refine ev_iadd (z := (i : Int) + 1) d_law_759 rfl (g_w_id (by unfold g_rg; omega)) ?_
  refine ev_sldN (i + 1) x_lawS d_law_760 rfl (by omega) (by omega) ?_
  refine ev_aload_nO (i := 0) d_law_761 rfl rfl rfl ?_
  refine ev_iload (i := 4) d_law_762 rfl rfl ?_
  refine ev_iconst d_law_764 rfl ⟨by decide, by decide⟩ ?_
  refine ev_iadd (z := (i : Int) + 2) d_law_765 rfl (g_w_id (by unfold g_rg; omega)) ?_
  refine ev_sldN (i + 2) x_lawS d_law_766 rfl (by omega) (by omega) ?_
  refine ev_callVR (As := [g_i (xs (i + 1)).toInt, g_i (xs (i + 2)).toInt]) d_law_767 rfl cl_La_87 (h1) (x_roomR (Nat.le_refl _) (by decide)) ⟨by show nc + 0 ≤ 601024; omega, by show ns + 0 ≤ 7293033; omega⟩ lx_0 rfl rfl (Nat.le_of_ble_eq_true rfl) rfl rfl (fun M1 v1 g1 => ?_)
  obtain ⟨k, rfl, G2, hc2, hk⟩ := h2 M1 v1 g1
  change Ev _ _ _ _ _ _ _ _ nc ns
  refine ev_aload_n (i := 2) d_law_770 rfl rfl rfl ?_
  refine ev_aload_nO (i := 0) d_law_771 rfl rfl rfl ?_
  refine ev_iload (i := 4) d_law_772 rfl rfl ?_
  refine ev_iconst d_law_774 rfl ⟨by decide, by decide⟩ ?_
  refine ev_iadd (z := (i : Int) + 1) d_law_775 rfl (g_w_id (by unfold g_rg; omega)) ?_
  refine ev_sldN (i + 1) x_lawS d_law_776 rfl (by omega) (by omega) ?_
  refine ev_aload_nO (i := 0) d_law_777 rfl rfl rfl ?_
  refine ev_iload (i := 4) d_law_778 rfl rfl ?_
  refine ev_iconst d_law_780 rfl ⟨by decide, by decide⟩ ?_
  refine ev_iadd (z := (i : Int) + 2) d_law_781 rfl (g_w_id (by unfold g_rg; omega)) ?_
  refine ev_sldN (i + 2) x_lawS d_law_782 rfl (by omega) (by omega) ?_
  refine ev_callVR (As := [g_i (xs (i + 1)).toInt, g_i (xs (i + 2)).toInt]) d_law_783 rfl cl_La_91 (hc2) (x_roomR (Nat.le_refl _) (by decide)) ⟨by show nc + 0 ≤ 601024; omega, by show ns + 0 ≤ 7293033; omega⟩ lx_45 rfl rfl (Nat.le_of_ble_eq_true rfl) rfl rfl (fun M2 v2 g2 => ?_)
  obtain ⟨r, rfl, h3, hZ⟩ := hk M2 v2 g2
  change Ev _ _ _ _ _ _ _ _ nc ns
  refine ev_icmp_eq_t (tgt := 964) d_law_786 (by decide) h3 ?_
  exact (kk M2 hZ)
theorem l_caseR10 {b N : Nat} {xs : Nat → Int32} {Fi : g_Fin} {nc ns : Nat} (i : Nat) (hi : i + 6 ≤ N) (hN : N ≤ 3072) (M : g_M) (Z : g_M → Prop) (c1 s1 : Nat) (G1 : g_M → Option g_v → Prop) (h1 : ConLR y_La_run ww_La_run (g_ra 2047 c1 s1) LX M [g_r 0, g_i (xs (i + 1)).toInt, g_i (xs (i + 2)).toInt, g_i (xs (i + 3)).toInt, g_i (xs (i + 4)).toInt, g_r 77] LX G1) (h2 : ∀ (M1 : g_M) (v1 : Option g_v), G1 M1 v1 → ∃ k : Int, v1 = some (g_i k) ∧ ∃ G2 : g_M → Option g_v → Prop, (ConR y_Mo_run w_Mo_run (g_rm 2047) LX M1 [g_r 45, g_i (xs (i + 1)).toInt, g_i (xs (i + 2)).toInt, g_i (xs (i + 3)).toInt, g_i (xs (i + 4)).toInt] LX G2) ∧ ∀ (M2 : g_M) (v2 : Option g_v), G2 M2 v2 → ∃ r : Int, v2 = some (g_i r) ∧ M2 45 44 = k ∧ (k = 0 → M2 77 0 = r) ∧ Z M2) (hnc : nc + c1 ≤ 601024) (hns : ns + s1 ≤ 7293033) (kk : ∀ M2 : g_M, Z M2 → Ev (e_law b N xs) room_1 Fi 964 (l_ls b i) [] LX M2 (nc + c1) (ns + s1)) : Ev (e_law b N xs) room_1 Fi 791 (l_ls b i) [] LX M nc ns := by
  refine ev_aload_n (i := 1) d_law_791 rfl rfl rfl ?_
  refine ev_aload_nO (i := 0) d_law_792 rfl rfl rfl ?_
  refine ev_iload (i := 4) d_law_793 rfl rfl ?_
  refine ev_iconst d_law_795 rfl ⟨by decide, by decide⟩ ?_
  refine ev_iadd (z := (i : Int) + 1) d_law_796 rfl (g_w_id (by unfold g_rg; omega)) ?_
  refine ev_sldN (i + 1) x_lawS d_law_797 rfl (by omega) (by omega) ?_
  refine ev_aload_nO (i := 0) d_law_798 rfl rfl rfl ?_
  refine ev_iload (i := 4) d_law_799 rfl rfl ?_
  refine ev_iconst d_law_801 rfl ⟨by decide, by decide⟩ ?_
  refine ev_iadd (z := (i : Int) + 2) d_law_802 rfl (g_w_id (by unfold g_rg; omega)) ?_
  refine ev_sldN (i + 2) x_lawS d_law_803 rfl (by omega) (by omega) ?_
  refine ev_aload_nO (i := 0) d_law_804 rfl rfl rfl ?_
  refine ev_iload (i := 4) d_law_805 rfl rfl ?_
  refine ev_iconst d_law_807 rfl ⟨by decide, by decide⟩ ?_
  refine ev_iadd (z := (i : Int) + 3) d_law_808 rfl (g_w_id (by unfold g_rg; omega)) ?_
  refine ev_sldN (i + 3) x_lawS d_law_809 rfl (by omega) (by omega) ?_
  refine ev_aload_nO (i := 0) d_law_810 rfl rfl rfl ?_
  refine ev_iload (i := 4) d_law_811 rfl rfl ?_
  refine ev_iconst d_law_813 rfl ⟨by decide, by decide⟩ ?_
  refine ev_iadd (z := (i : Int) + 4) d_law_814 rfl (g_w_id (by unfold g_rg; omega)) ?_
  refine ev_sldN (i + 4) x_lawS d_law_815 rfl (by omega) (by omega) ?_
  refine ev_aload_n (i := 3) d_law_816 rfl rfl rfl ?_
  refine ev_callWR (As := [g_r 0, g_i (xs (i + 1)).toInt, g_i (xs (i + 2)).toInt, g_i (xs (i + 3)).toInt, g_i (xs (i + 4)).toInt, g_r 77]) x_lawT d_law_817 rfl cl_La_92 h1 (x_roomR (Nat.le_refl _) (by decide)) ⟨by show nc + c1 ≤ 601024; omega, by show ns + s1 ≤ 7293033; omega⟩ rfl rfl (Nat.le_of_ble_eq_true rfl) rfl rfl (fun M1 v1 g1 => ?_)
  obtain ⟨k, rfl, G2, hc2, hk⟩ := h2 M1 v1 g1
  change Ev _ _ _ _ _ _ _ _ (nc + c1) (ns + s1)
  refine ev_istore (i := 5) d_law_820 rfl (Nat.le_of_ble_eq_true rfl) rfl ?_
  refine ev_aload_n (i := 2) d_law_822 rfl rfl rfl ?_
  refine ev_aload_nO (i := 0) d_law_823 rfl rfl rfl ?_
  refine ev_iload (i := 4) d_law_824 rfl rfl ?_
  refine ev_iconst d_law_826 rfl ⟨by decide, by decide⟩ ?_
  refine ev_iadd (z := (i : Int) + 1) d_law_827 rfl (g_w_id (by unfold g_rg; omega)) ?_
  refine ev_sldN (i + 1) x_lawS d_law_828 rfl (by omega) (by omega) ?_
  refine ev_aload_nO (i := 0) d_law_829 rfl rfl rfl ?_
  refine ev_iload (i := 4) d_law_830 rfl rfl ?_
  refine ev_iconst d_law_832 rfl ⟨by decide, by decide⟩ ?_
  refine ev_iadd (z := (i : Int) + 2) d_law_833 rfl (g_w_id (by unfold g_rg; omega)) ?_
  refine ev_sldN (i + 2) x_lawS d_law_834 rfl (by omega) (by omega) ?_
  refine ev_aload_nO (i := 0) d_law_835 rfl rfl rfl ?_
  refine ev_iload (i := 4) d_law_836 rfl rfl ?_
  refine ev_iconst d_law_838 rfl ⟨by decide, by decide⟩ ?_
  refine ev_iadd (z := (i : Int) + 3) d_law_839 rfl (g_w_id (by unfold g_rg; omega)) ?_
  refine ev_sldN (i + 3) x_lawS d_law_840 rfl (by omega) (by omega) ?_
  refine ev_aload_nO (i := 0) d_law_841 rfl rfl rfl ?_
  refine ev_iload (i := 4) d_law_842 rfl rfl ?_
  refine ev_iconst d_law_844 rfl ⟨by decide, by decide⟩ ?_
  refine ev_iadd (z := (i : Int) + 4) d_law_845 rfl (g_w_id (by unfold g_rg; omega)) ?_
  refine ev_sldN (i + 4) x_lawS d_law_846 rfl (by omega) (by omega) ?_
  refine ev_callVR (As := [g_i (xs (i + 1)).toInt, g_i (xs (i + 2)).toInt, g_i (xs (i + 3)).toInt, g_i (xs (i + 4)).toInt]) d_law_847 rfl cl_La_94 (hc2) (x_roomR (Nat.le_refl _) (by decide)) ⟨by show (nc + c1) + 0 ≤ 601024; omega, by show (ns + s1) + 0 ≤ 7293033; omega⟩ lx_45 rfl rfl (Nat.le_of_ble_eq_true rfl) rfl rfl (fun M2 v2 g2 => ?_)
  obtain ⟨r, rfl, h3, h4, hZ⟩ := hk M2 v2 g2
  change Ev _ _ _ _ _ _ _ _ (nc + c1) (ns + s1)
  refine ev_istore (i := 6) d_law_850 rfl (Nat.le_of_ble_eq_true rfl) rfl ?_
  refine ev_aload_n (i := 2) d_law_852 rfl rfl rfl ?_
  refine ev_callV (As := []) d_law_853 rfl cl_La_55 (c_Mo_thrown 2047 M2) (x_roomR (Nat.le_refl _) (by decide)) ⟨by show (nc + c1) + 0 ≤ 601024; omega, by show (ns + s1) + 0 ≤ 7293033; omega⟩ lx_45 rfl rfl (Nat.le_of_ble_eq_true rfl) rfl rfl ?_
  change Ev _ _ _ _ _ _ _ _ (nc + c1) (ns + s1)
  refine ev_iload (i := 5) d_law_856 rfl rfl ?_
  refine ev_icmp_eq_t (tgt := 863) d_law_858 (by decide) h3 ?_
  refine ev_iload (i := 5) d_law_863 rfl rfl ?_
  refine ev_if_ne (tgt := 880) d_law_865 (by decide) rfl (fun h5 => ?_) (fun h5 => ?_)
  · refine ev_goto (tgt := 964) d_law_880 (by decide) ?_
    refine ev_less ?_ (kk M2 hZ)
    exact l_less
  · refine ev_aload_n (i := 3) d_law_868 rfl rfl rfl ?_
    refine ev_iconst d_law_869 rfl ⟨by decide, by decide⟩ ?_
    refine ev_laload (z := M2 77 0) d_law_870 rfl lx_77 (by decide) (by decide) rfl ?_
    refine ev_iload (i := 6) d_law_871 rfl rfl ?_
    refine ev_i2l d_law_873 rfl ?_
    refine ev_lcmp (z := 0) d_law_874 rfl (by rw [h4 h5]; simp) ?_
    refine ev_if_eq_t (tgt := 880) d_law_875 (by decide) rfl ?_
    refine ev_goto (tgt := 964) d_law_880 (by decide) ?_
    refine ev_less ?_ (kk M2 hZ)
    exact l_less
theorem l_caseR11 {b N : Nat} {xs : Nat → Int32} {Fi : g_Fin} {nc ns : Nat} (i : Nat) (hi : i + 6 ≤ N) (hN : N ≤ 3072) (M : g_M) (Z : g_M → Prop) (c1 s1 : Nat) (G1 : g_M → Option g_v → Prop) (h1 : ConLR y_La_answer ww_La_answer (g_ra 2047 c1 s1) LX M [g_r 0, g_i (xs (i + 1)).toInt, g_r 77] LX G1) (h2 : ∀ (M1 : g_M) (v1 : Option g_v), G1 M1 v1 → ∃ k : Int, v1 = some (g_i k) ∧ ∃ G2 : g_M → Option g_v → Prop, (ConR y_Mo_answer w_Mo_answer (g_rm 2047) LX M1 [g_r 45, g_i (xs (i + 1)).toInt] LX G2) ∧ ∀ (M2 : g_M) (v2 : Option g_v), G2 M2 v2 → ∃ r : Int, v2 = some (g_i r) ∧ M2 45 44 = k ∧ (k = 0 → M2 77 0 = r) ∧ Z M2) (hnc : nc + c1 ≤ 601024) (hns : ns + s1 ≤ 7293033) (kk : ∀ M2 : g_M, Z M2 → Ev (e_law b N xs) room_1 Fi 964 (l_ls b i) [] LX M2 (nc + c1) (ns + s1)) : Ev (e_law b N xs) room_1 Fi 883 (l_ls b i) [] LX M nc ns := by
  refine ev_aload_n (i := 1) d_law_883 rfl rfl rfl ?_
  refine ev_aload_nO (i := 0) d_law_884 rfl rfl rfl ?_
  refine ev_iload (i := 4) d_law_885 rfl rfl ?_
  refine ev_iconst d_law_887 rfl ⟨by decide, by decide⟩ ?_
  refine ev_iadd (z := (i : Int) + 1) d_law_888 rfl (g_w_id (by unfold g_rg; omega)) ?_
  refine ev_sldN (i + 1) x_lawS d_law_889 rfl (by omega) (by omega) ?_
  refine ev_aload_n (i := 3) d_law_890 rfl rfl rfl ?_
  refine ev_callWR (As := [g_r 0, g_i (xs (i + 1)).toInt, g_r 77]) x_lawT d_law_891 rfl cl_La_95 h1 (x_roomR (Nat.le_refl _) (by decide)) ⟨by show nc + c1 ≤ 601024; omega, by show ns + s1 ≤ 7293033; omega⟩ rfl rfl (Nat.le_of_ble_eq_true rfl) rfl rfl (fun M1 v1 g1 => ?_)
  obtain ⟨k, rfl, G2, hc2, hk⟩ := h2 M1 v1 g1
  change Ev _ _ _ _ _ _ _ _ (nc + c1) (ns + s1)
  refine ev_istore (i := 5) d_law_894 rfl (Nat.le_of_ble_eq_true rfl) rfl ?_
  refine ev_aload_n (i := 2) d_law_896 rfl rfl rfl ?_
  refine ev_aload_nO (i := 0) d_law_897 rfl rfl rfl ?_
  refine ev_iload (i := 4) d_law_898 rfl rfl ?_
  refine ev_iconst d_law_900 rfl ⟨by decide, by decide⟩ ?_
  refine ev_iadd (z := (i : Int) + 1) d_law_901 rfl (g_w_id (by unfold g_rg; omega)) ?_
  refine ev_sldN (i + 1) x_lawS d_law_902 rfl (by omega) (by omega) ?_
  refine ev_callVR (As := [g_i (xs (i + 1)).toInt]) d_law_903 rfl cl_La_97 (hc2) (x_roomR (Nat.le_refl _) (by decide)) ⟨by show (nc + c1) + 0 ≤ 601024; omega, by show (ns + s1) + 0 ≤ 7293033; omega⟩ lx_45 rfl rfl (Nat.le_of_ble_eq_true rfl) rfl rfl (fun M2 v2 g2 => ?_)
  obtain ⟨r, rfl, h3, h4, hZ⟩ := hk M2 v2 g2
  change Ev _ _ _ _ _ _ _ _ (nc + c1) (ns + s1)
  refine ev_istore (i := 6) d_law_906 rfl (Nat.le_of_ble_eq_true rfl) rfl ?_
  refine ev_aload_n (i := 2) d_law_908 rfl rfl rfl ?_
  refine ev_callV (As := []) d_law_909 rfl cl_La_55 (c_Mo_thrown 2047 M2) (x_roomR (Nat.le_refl _) (by decide)) ⟨by show (nc + c1) + 0 ≤ 601024; omega, by show (ns + s1) + 0 ≤ 7293033; omega⟩ lx_45 rfl rfl (Nat.le_of_ble_eq_true rfl) rfl rfl ?_
  change Ev _ _ _ _ _ _ _ _ (nc + c1) (ns + s1)
  refine ev_iload (i := 5) d_law_912 rfl rfl ?_
  refine ev_icmp_eq_t (tgt := 919) d_law_914 (by decide) h3 ?_
  refine ev_iload (i := 5) d_law_919 rfl rfl ?_
  refine ev_if_ne (tgt := 936) d_law_921 (by decide) rfl (fun h5 => ?_) (fun h5 => ?_)
  · refine ev_goto (tgt := 964) d_law_936 (by decide) ?_
    refine ev_less ?_ (kk M2 hZ)
    exact l_less
  · refine ev_aload_n (i := 3) d_law_924 rfl rfl rfl ?_
    refine ev_iconst d_law_925 rfl ⟨by decide, by decide⟩ ?_
    refine ev_laload (z := M2 77 0) d_law_926 rfl lx_77 (by decide) (by decide) rfl ?_
    refine ev_iload (i := 6) d_law_927 rfl rfl ?_
    refine ev_i2l d_law_929 rfl ?_
    refine ev_lcmp (z := 0) d_law_930 rfl (by rw [h4 h5]; simp) ?_
    refine ev_if_eq_t (tgt := 936) d_law_931 (by decide) rfl ?_
    refine ev_goto (tgt := 964) d_law_936 (by decide) ?_
    refine ev_less ?_ (kk M2 hZ)
    exact l_less
theorem l_caseR12 {b N : Nat} {xs : Nat → Int32} {Fi : g_Fin} {nc ns : Nat} (i : Nat) (hi : i + 6 ≤ N) (hN : N ≤ 3072) (M : g_M) (Z : g_M → Prop) (G1 : g_M → Option g_v → Prop) (h1 : ConR y_Fu_count w_Fu_count (g_rm 2047) LX M [g_r 0, g_i (xs (i + 1)).toInt] LX G1) (h2 : ∀ (M1 : g_M) (v1 : Option g_v), G1 M1 v1 → ∃ k : Int, v1 = some (g_i k) ∧ ∃ G2 : g_M → Option g_v → Prop, (ConR y_Mo_count w_Mo_count (g_rm 2047) LX M1 [g_r 45, g_i (xs (i + 1)).toInt] LX G2) ∧ ∀ (M2 : g_M) (v2 : Option g_v), G2 M2 v2 → ∃ r : Int, v2 = some (g_i r) ∧ k = r ∧ Z M2) (hnc : nc ≤ 601024) (hns : ns ≤ 7293033) (kk : ∀ M2 : g_M, Z M2 → Ev (e_law b N xs) room_1 Fi 964 (l_ls b i) [] LX M2 nc ns) : Ev (e_law b N xs) room_1 Fi 939 (l_ls b i) [] LX M nc ns := by
  refine ev_aload_n (i := 1) d_law_939 rfl rfl rfl ?_
  refine ev_aload_nO (i := 0) d_law_940 rfl rfl rfl ?_
  refine ev_iload (i := 4) d_law_941 rfl rfl ?_
  refine ev_iconst d_law_943 rfl ⟨by decide, by decide⟩ ?_
  refine ev_iadd (z := (i : Int) + 1) d_law_944 rfl (g_w_id (by unfold g_rg; omega)) ?_
  refine ev_sldN (i + 1) x_lawS d_law_945 rfl (by omega) (by omega) ?_
  refine ev_callVR (As := [g_i (xs (i + 1)).toInt]) d_law_946 rfl cl_La_98 (h1) (x_roomR (Nat.le_refl _) (by decide)) ⟨by show nc + 0 ≤ 601024; omega, by show ns + 0 ≤ 7293033; omega⟩ lx_0 rfl rfl (Nat.le_of_ble_eq_true rfl) rfl rfl (fun M1 v1 g1 => ?_)
  obtain ⟨k, rfl, G2, hc2, hk⟩ := h2 M1 v1 g1
  change Ev _ _ _ _ _ _ _ _ nc ns
  refine ev_aload_n (i := 2) d_law_949 rfl rfl rfl ?_
  refine ev_aload_nO (i := 0) d_law_950 rfl rfl rfl ?_
  refine ev_iload (i := 4) d_law_951 rfl rfl ?_
  refine ev_iconst d_law_953 rfl ⟨by decide, by decide⟩ ?_
  refine ev_iadd (z := (i : Int) + 1) d_law_954 rfl (g_w_id (by unfold g_rg; omega)) ?_
  refine ev_sldN (i + 1) x_lawS d_law_955 rfl (by omega) (by omega) ?_
  refine ev_callVR (As := [g_i (xs (i + 1)).toInt]) d_law_956 rfl cl_La_101 (hc2) (x_roomR (Nat.le_refl _) (by decide)) ⟨by show nc + 0 ≤ 601024; omega, by show ns + 0 ≤ 7293033; omega⟩ lx_45 rfl rfl (Nat.le_of_ble_eq_true rfl) rfl rfl (fun M2 v2 g2 => ?_)
  obtain ⟨r, rfl, h3, hZ⟩ := hk M2 v2 g2
  change Ev _ _ _ _ _ _ _ _ nc ns
  refine ev_icmp_eq_t (tgt := 964) d_law_959 (by decide) h3 ?_
  exact (kk M2 hZ)

/-- one turn, with relations: the call numbered op leads from M to memories of Z, and the two answers agree -/
def l_SR (op a1 a2 a3 a4 a5 : Int) (M : g_M) (Z : g_M → Prop) (c s : Nat) : Prop := (op = 0 ∧ ∃ G1 : g_M → Option g_v → Prop, (ConLR y_La_constructor ww_La_constructor (g_ra 2047 c s) LX M [g_r 0, g_i a1, g_i a2, g_i a3, g_i a4, g_r 77] LX G1) ∧ ∀ (M1 : g_M) (v1 : Option g_v), G1 M1 v1 → ∃ k : Int, v1 = some (g_i k) ∧ ∃ G2 : g_M → Option g_v → Prop, (ConR y_Mo_constructor w_Mo_constructor (g_rm 2047) LX M1 [g_r 45, g_i a1, g_i a2, g_i a3, g_i a4] LX G2) ∧ ∀ (M2 : g_M) (v2 : Option g_v), G2 M2 v2 → ∃ r : Int, v2 = some (g_i r) ∧ M2 45 44 = k ∧ (k = 0 → M2 77 0 = r) ∧ Z M2) ∨ (op = 1 ∧ ∃ G1 : g_M → Option g_v → Prop, (ConLR y_La_function ww_La_function (g_ra 2047 c s) LX M [g_r 0, g_i a1, g_i a2, g_i a3, g_i a4, g_r 77] LX G1) ∧ ∀ (M1 : g_M) (v1 : Option g_v), G1 M1 v1 → ∃ k : Int, v1 = some (g_i k) ∧ ∃ G2 : g_M → Option g_v → Prop, (ConR y_Mo_function w_Mo_function (g_rm 2047) LX M1 [g_r 45, g_i a1, g_i a2, g_i a3, g_i a4] LX G2) ∧ ∀ (M2 : g_M) (v2 : Option g_v), G2 M2 v2 → ∃ r : Int, v2 = some (g_i r) ∧ M2 45 44 = k ∧ (k = 0 → M2 77 0 = r) ∧ Z M2) ∨ (op = 2 ∧ ∃ G1 : g_M → Option g_v → Prop, (ConLR y_La_variable ww_La_variable (g_ra 2047 c s) LX M [g_r 0, g_i a1, g_r 77] LX G1) ∧ ∀ (M1 : g_M) (v1 : Option g_v), G1 M1 v1 → ∃ k : Int, v1 = some (g_i k) ∧ ∃ G2 : g_M → Option g_v → Prop, (ConR y_Mo_variable w_Mo_variable (g_rm 2047) LX M1 [g_r 45, g_i a1] LX G2) ∧ ∀ (M2 : g_M) (v2 : Option g_v), G2 M2 v2 → ∃ r : Int, v2 = some (g_i r) ∧ M2 45 44 = k ∧ (k = 0 → M2 77 0 = r) ∧ Z M2) ∨ (op = 3 ∧ ∃ G1 : g_M → Option g_v → Prop, (ConLR y_La_make ww_La_make (g_ra 2047 c s) LX M [g_r 0, g_i a1, g_i a2, g_i a3, g_i a4, g_r 77] LX G1) ∧ ∀ (M1 : g_M) (v1 : Option g_v), G1 M1 v1 → ∃ k : Int, v1 = some (g_i k) ∧ ∃ G2 : g_M → Option g_v → Prop, (ConR y_Mo_make w_Mo_make (g_rm 2047) LX M1 [g_r 45, g_i a1, g_i a2, g_i a3, g_i a4] LX G2) ∧ ∀ (M2 : g_M) (v2 : Option g_v), G2 M2 v2 → ∃ r : Int, v2 = some (g_i r) ∧ M2 45 44 = k ∧ (k = 0 → M2 77 0 = r) ∧ Z M2) ∨ (op = 4 ∧ ∃ G1 : g_M → Option g_v → Prop, (ConLR y_La_call ww_La_call (g_ra 2047 c s) LX M [g_r 0, g_i a1, g_i a2, g_i a3, g_i a4, g_r 77] LX G1) ∧ ∀ (M1 : g_M) (v1 : Option g_v), G1 M1 v1 → ∃ k : Int, v1 = some (g_i k) ∧ ∃ G2 : g_M → Option g_v → Prop, (ConR y_Mo_call w_Mo_call (g_rm 2047) LX M1 [g_r 45, g_i a1, g_i a2, g_i a3, g_i a4] LX G2) ∧ ∀ (M2 : g_M) (v2 : Option g_v), G2 M2 v2 → ∃ r : Int, v2 = some (g_i r) ∧ M2 45 44 = k ∧ (k = 0 → M2 77 0 = r) ∧ Z M2) ∨ (op = 5 ∧ ∃ G1 : g_M → Option g_v → Prop, (ConLR y_La_clause ww_La_clause (g_ra 2047 c s) LX M [g_r 0, g_i a1, g_i a2, g_i a3, g_i a4, g_i a5, g_r 77] LX G1) ∧ ∀ (M1 : g_M) (v1 : Option g_v), G1 M1 v1 → ∃ k : Int, v1 = some (g_i k) ∧ ∃ G2 : g_M → Option g_v → Prop, (ConR y_Mo_clause w_Mo_clause (g_rm 2047) LX M1 [g_r 45, g_i a1, g_i a2, g_i a3, g_i a4, g_i a5] LX G2) ∧ ∀ (M2 : g_M) (v2 : Option g_v), G2 M2 v2 → ∃ r : Int, v2 = some (g_i r) ∧ M2 45 44 = k ∧ (k = 0 → M2 77 0 = r) ∧ Z M2) ∨ (op = 6 ∧ (c = 0 ∧ s = 0) ∧ ∃ G1 : g_M → Option g_v → Prop, (ConR y_Fu_check w_Fu_check (g_rm 2047) LX M [g_r 0] LX G1) ∧ ∀ (M1 : g_M) (v1 : Option g_v), G1 M1 v1 → ∃ k : Int, v1 = some (g_i k) ∧ ∃ G2 : g_M → Option g_v → Prop, (ConR y_Mo_check w_Mo_check (g_rm 2047) LX M1 [g_r 45] LX G2) ∧ ∀ (M2 : g_M) (v2 : Option g_v), G2 M2 v2 → ∃ r : Int, v2 = some (g_i r) ∧ k = r ∧ Z M2) ∨ (op = 7 ∧ (c = 0 ∧ s = 0) ∧ ∃ G1 : g_M → Option g_v → Prop, (ConR y_Fu_graphs w_Fu_graphs (g_rm 2047) LX M [g_r 0] LX G1) ∧ ∀ (M1 : g_M) (v1 : Option g_v), G1 M1 v1 → ∃ k : Int, v1 = some (g_i k) ∧ ∃ G2 : g_M → Option g_v → Prop, (ConR y_Mo_graphs w_Mo_graphs (g_rm 2047) LX M1 [g_r 45] LX G2) ∧ ∀ (M2 : g_M) (v2 : Option g_v), G2 M2 v2 → ∃ r : Int, v2 = some (g_i r) ∧ k = r ∧ Z M2) ∨ (op = 8 ∧ ∃ G1 : g_M → Option g_v → Prop, (ConLR y_La_arc ww_La_arc (g_ra 2047 c s) LX M [g_r 0, g_i a1, g_i a2, g_i a3, g_i a4, g_r 77] LX G1) ∧ ∀ (M1 : g_M) (v1 : Option g_v), G1 M1 v1 → ∃ k : Int, v1 = some (g_i k) ∧ ∃ G2 : g_M → Option g_v → Prop, (ConR y_Mo_arc w_Mo_arc (g_rm 2047) LX M1 [g_r 45, g_i a1, g_i a2, g_i a3, g_i a4] LX G2) ∧ ∀ (M2 : g_M) (v2 : Option g_v), G2 M2 v2 → ∃ r : Int, v2 = some (g_i r) ∧ M2 45 44 = k ∧ (k = 0 → M2 77 0 = r) ∧ Z M2) ∨ (op = 9 ∧ (c = 0 ∧ s = 0) ∧ ∃ G1 : g_M → Option g_v → Prop, (ConR y_Fu_isValue w_Fu_isValue (g_rm 2047) LX M [g_r 0, g_i a1, g_i a2] LX G1) ∧ ∀ (M1 : g_M) (v1 : Option g_v), G1 M1 v1 → ∃ k : Int, v1 = some (g_i k) ∧ ∃ G2 : g_M → Option g_v → Prop, (ConR y_Mo_isValue w_Mo_isValue (g_rm 2047) LX M1 [g_r 45, g_i a1, g_i a2] LX G2) ∧ ∀ (M2 : g_M) (v2 : Option g_v), G2 M2 v2 → ∃ r : Int, v2 = some (g_i r) ∧ k = r ∧ Z M2) ∨ (op = 10 ∧ ∃ G1 : g_M → Option g_v → Prop, (ConLR y_La_run ww_La_run (g_ra 2047 c s) LX M [g_r 0, g_i a1, g_i a2, g_i a3, g_i a4, g_r 77] LX G1) ∧ ∀ (M1 : g_M) (v1 : Option g_v), G1 M1 v1 → ∃ k : Int, v1 = some (g_i k) ∧ ∃ G2 : g_M → Option g_v → Prop, (ConR y_Mo_run w_Mo_run (g_rm 2047) LX M1 [g_r 45, g_i a1, g_i a2, g_i a3, g_i a4] LX G2) ∧ ∀ (M2 : g_M) (v2 : Option g_v), G2 M2 v2 → ∃ r : Int, v2 = some (g_i r) ∧ M2 45 44 = k ∧ (k = 0 → M2 77 0 = r) ∧ Z M2) ∨ (op = 11 ∧ ∃ G1 : g_M → Option g_v → Prop, (ConLR y_La_answer ww_La_answer (g_ra 2047 c s) LX M [g_r 0, g_i a1, g_r 77] LX G1) ∧ ∀ (M1 : g_M) (v1 : Option g_v), G1 M1 v1 → ∃ k : Int, v1 = some (g_i k) ∧ ∃ G2 : g_M → Option g_v → Prop, (ConR y_Mo_answer w_Mo_answer (g_rm 2047) LX M1 [g_r 45, g_i a1] LX G2) ∧ ∀ (M2 : g_M) (v2 : Option g_v), G2 M2 v2 → ∃ r : Int, v2 = some (g_i r) ∧ M2 45 44 = k ∧ (k = 0 → M2 77 0 = r) ∧ Z M2) ∨ (op = 12 ∧ (c = 0 ∧ s = 0) ∧ ∃ G1 : g_M → Option g_v → Prop, (ConR y_Fu_count w_Fu_count (g_rm 2047) LX M [g_r 0, g_i a1] LX G1) ∧ ∀ (M1 : g_M) (v1 : Option g_v), G1 M1 v1 → ∃ k : Int, v1 = some (g_i k) ∧ ∃ G2 : g_M → Option g_v → Prop, (ConR y_Mo_count w_Mo_count (g_rm 2047) LX M1 [g_r 45, g_i a1] LX G2) ∧ ∀ (M2 : g_M) (v2 : Option g_v), G2 M2 v2 → ∃ r : Int, v2 = some (g_i r) ∧ k = r ∧ Z M2) ∨ (12 < op ∧ c = 0 ∧ s = 0 ∧ Z M)
theorem l_turnR {b N : Nat} {xs : Nat → Int32} {Fi : g_Fin} {nc ns c s : Nat} {M : g_M} {Z : g_M → Prop} (i : Nat) (hi : i + 6 ≤ N) (hN : N ≤ 3072) (hnc : nc + c ≤ 601024) (hns : ns + s ≤ 7293033)
    (h : l_SR (g_b (fun a b => a &&& b) (xs i).toInt 15) (xs (i + 1)).toInt (xs (i + 2)).toInt (xs (i + 3)).toInt (xs (i + 4)).toInt (xs (i + 5)).toInt M Z c s) (kk : ∀ M2 : g_M, Z M2 → Ev (e_law b N xs) room_1 Fi 964 (l_ls b i) [] LX M2 (nc + c) (ns + s)) : Ev (e_law b N xs) room_1 Fi 33 (l_ls b i) [] LX M nc ns := by
  obtain ⟨j, hj, hop⟩ := l_and (xs i)
  refine ev_aload_nO (i := 0) d_law_33 rfl rfl rfl ?_
  refine ev_iload (i := 4) d_law_34 rfl rfl ?_
  refine ev_sldN i x_lawS d_law_36 rfl rfl (by omega) ?_
  refine ev_bipush d_law_37 rfl (by decide +kernel) ⟨by decide, by decide⟩ ?_
  refine ev_iand (z := (j : Int)) d_law_39 rfl hop ?_
  rw [hop] at h
  unfold l_SR at h
  rcases h with h | h | h | h | h | h | h | h | h | h | h | h | h | h
  · obtain ⟨ho, G1, h1, h2⟩ := h
    refine ev_tsIn (tgt := 108) d_law_40 (by omega) (by omega) (by rw [show ((j : Int) - 0).toNat = 0 by omega]; rfl) rfl ?_
    exact l_caseR0 i hi hN M Z c s G1 h1 h2 hnc hns kk
  · obtain ⟨ho, G1, h1, h2⟩ := h
    refine ev_tsIn (tgt := 200) d_law_40 (by omega) (by omega) (by rw [show ((j : Int) - 0).toNat = 1 by omega]; rfl) rfl ?_
    exact l_caseR1 i hi hN M Z c s G1 h1 h2 hnc hns kk
  · obtain ⟨ho, G1, h1, h2⟩ := h
    refine ev_tsIn (tgt := 292) d_law_40 (by omega) (by omega) (by rw [show ((j : Int) - 0).toNat = 2 by omega]; rfl) rfl ?_
    exact l_caseR2 i hi hN M Z c s G1 h1 h2 hnc hns kk
  · obtain ⟨ho, G1, h1, h2⟩ := h
    refine ev_tsIn (tgt := 348) d_law_40 (by omega) (by omega) (by rw [show ((j : Int) - 0).toNat = 3 by omega]; rfl) rfl ?_
    exact l_caseR3 i hi hN M Z c s G1 h1 h2 hnc hns kk
  · obtain ⟨ho, G1, h1, h2⟩ := h
    refine ev_tsIn (tgt := 440) d_law_40 (by omega) (by omega) (by rw [show ((j : Int) - 0).toNat = 4 by omega]; rfl) rfl ?_
    exact l_caseR4 i hi hN M Z c s G1 h1 h2 hnc hns kk
  · obtain ⟨ho, G1, h1, h2⟩ := h
    refine ev_tsIn (tgt := 532) d_law_40 (by omega) (by omega) (by rw [show ((j : Int) - 0).toNat = 5 by omega]; rfl) rfl ?_
    exact l_caseR5 i hi hN M Z c s G1 h1 h2 hnc hns kk
  · obtain ⟨ho, ⟨rfl, rfl⟩, G1, h1, h2⟩ := h
    refine ev_tsIn (tgt := 636) d_law_40 (by omega) (by omega) (by rw [show ((j : Int) - 0).toNat = 6 by omega]; rfl) rfl ?_
    exact l_caseR6 i hi hN M Z G1 h1 h2 hnc hns kk
  · obtain ⟨ho, ⟨rfl, rfl⟩, G1, h1, h2⟩ := h
    refine ev_tsIn (tgt := 649) d_law_40 (by omega) (by omega) (by rw [show ((j : Int) - 0).toNat = 7 by omega]; rfl) rfl ?_
    exact l_caseR7 i hi hN M Z G1 h1 h2 hnc hns kk
  · obtain ⟨ho, G1, h1, h2⟩ := h
    refine ev_tsIn (tgt := 662) d_law_40 (by omega) (by omega) (by rw [show ((j : Int) - 0).toNat = 8 by omega]; rfl) rfl ?_
    exact l_caseR8 i hi hN M Z c s G1 h1 h2 hnc hns kk
  · obtain ⟨ho, ⟨rfl, rfl⟩, G1, h1, h2⟩ := h
    refine ev_tsIn (tgt := 754) d_law_40 (by omega) (by omega) (by rw [show ((j : Int) - 0).toNat = 9 by omega]; rfl) rfl ?_
    exact l_caseR9 i hi hN M Z G1 h1 h2 hnc hns kk
  · obtain ⟨ho, G1, h1, h2⟩ := h
    refine ev_tsIn (tgt := 791) d_law_40 (by omega) (by omega) (by rw [show ((j : Int) - 0).toNat = 10 by omega]; rfl) rfl ?_
    exact l_caseR10 i hi hN M Z c s G1 h1 h2 hnc hns kk
  · obtain ⟨ho, G1, h1, h2⟩ := h
    refine ev_tsIn (tgt := 883) d_law_40 (by omega) (by omega) (by rw [show ((j : Int) - 0).toNat = 11 by omega]; rfl) rfl ?_
    exact l_caseR11 i hi hN M Z c s G1 h1 h2 hnc hns kk
  · obtain ⟨ho, ⟨rfl, rfl⟩, G1, h1, h2⟩ := h
    refine ev_tsIn (tgt := 939) d_law_40 (by omega) (by omega) (by rw [show ((j : Int) - 0).toNat = 12 by omega]; rfl) rfl ?_
    exact l_caseR12 i hi hN M Z G1 h1 h2 hnc hns kk
  · obtain ⟨ho, rfl, rfl, hZ⟩ := h
    refine ev_tsOut (tgt := 964) d_law_40 (Or.inr ho) rfl ?_
    exact kk M hZ
theorem l_loopR {b N : Nat} {xs : Nat → Int32} (hN : N ≤ 3072) (Inv : Nat → g_M → Prop)
    (hs : ∀ (t : Nat) (M : g_M), Inv t M → 6 * t + 6 ≤ N → ∃ (c s : Nat), c ≤ 1 ∧ s ≤ 6 ∧ l_SR (g_b (fun a b => a &&& b) (xs (6 * t)).toInt 15) (xs (6 * t + 1)).toInt (xs (6 * t + 2)).toInt (xs (6 * t + 3)).toInt (xs (6 * t + 4)).toInt (xs (6 * t + 5)).toInt M (Inv (t + 1)) c s) :
    ∀ (n t : Nat) (M : g_M) (nc ns : Nat), N < 6 * t + 6 * n + 6 → 6 * t ≤ N + 6 → Inv t M → nc ≤ 100 + t → ns ≤ 31000 + 6 * t → Ev (e_law b N xs) room_1 x_finL 23 (l_ls b (6 * t : Nat)) [] LX M nc ns := by
  intro n
  induction n with
  | zero =>
    intro t M nc ns h1 h2 h3 h4 h5
    refine ev_iload (i := 4) d_law_23 rfl rfl ?_
    refine ev_aload_nO (i := 0) d_law_25 rfl rfl rfl ?_
    refine ev_slen x_lawS (by omega) d_law_26 rfl ?_
    refine ev_bipush d_law_27 rfl (by decide +kernel) ⟨by decide, by decide⟩ ?_
    refine ev_isub (z := (N : Int) - 6) d_law_29 rfl (g_w_id (by unfold g_rg; omega)) ?_
    refine ev_icmp_gt_t (tgt := 970) d_law_30 (by decide) (by omega) ?_
    refine ev_iconst d_law_970 rfl ⟨by decide, by decide⟩ ?_
    exact ev_done ⟨d_law_971, rfl, by omega, by omega⟩
  | succ n ih =>
    intro t M nc ns h1 h2 h3 h4 h5
    refine ev_iload (i := 4) d_law_23 rfl rfl ?_
    refine ev_aload_nO (i := 0) d_law_25 rfl rfl rfl ?_
    refine ev_slen x_lawS (by omega) d_law_26 rfl ?_
    refine ev_bipush d_law_27 rfl (by decide +kernel) ⟨by decide, by decide⟩ ?_
    refine ev_isub (z := (N : Int) - 6) d_law_29 rfl (g_w_id (by unfold g_rg; omega)) ?_
    refine ev_icmp_gt (tgt := 970) d_law_30 (by decide) rfl (fun h6 => ?_) (fun h6 => ?_)
    · refine ev_iconst d_law_970 rfl ⟨by decide, by decide⟩ ?_
      exact ev_done ⟨d_law_971, rfl, by omega, by omega⟩
    · obtain ⟨c, s, hc, hs', hS⟩ := hs t M h3 (by omega)
      refine l_turnR (6 * t) (by omega) hN (by omega) (by omega) hS (fun M' hI => ?_)
      refine ev_iinc (z := ((6 * (t + 1) : Nat) : Int)) d_law_964 rfl rfl (Nat.le_of_ble_eq_true rfl) (by rw [g_w_id (by unfold g_rg; omega)]; omega) rfl ?_
      refine ev_goto (tgt := 23) d_law_967 (by decide) ?_
      exact ih (t + 1) M' (nc + c) (ns + s) (by omega) (by omega) hI (by omega) (by omega)
