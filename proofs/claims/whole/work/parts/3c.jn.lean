/-- hasCall, variables, hasVariableTwice of the first i parts -/
def j_c (q : Nat → Int) (c0 x y z : Int) : Nat → Int
  | 0 => c0
  | i + 1 => if j_c q c0 x y z i = 0 ∧ q (j_pk x y z i).toNat = 0 then 0 else 1
def j_v (q : Nat → Int) (x y z : Int) : Nat → Int
  | 0 => 0
  | i + 1 => g_b (fun a b => a ||| b) (j_v q x y z i) (q (j_pk x y z i).toNat)
def j_d (q v : Nat → Int) (x y z : Int) : Nat → Int
  | 0 => 0
  | i + 1 => if j_d q v x y z i = 0 ∧ q (j_pk x y z i).toNat = 0 ∧ g_b (fun a b => a &&& b) (j_v v x y z i) (v (j_pk x y z i).toNat) = 0 then 0 else 1
/-- the memory behind i parts of a join -/
def j_M (M : g_M) (n : Nat) (c0 x y z : Int) (i : Nat) : g_M := fun k b =>
  if k = 13 ∧ 3 * n ≤ b ∧ b < 3 * n + i then j_pk x y z (b - 3 * n)
  else if k = 17 ∧ b = n then j_c (M 17) c0 x y z i
  else if k = 18 ∧ b = n then j_d (M 18) (M 16) x y z i
  else if k = 16 ∧ b = n then j_v (M 16) x y z i
  else M k b
theorem j_M_0 (M : g_M) (n : Nat) (c0 x y z : Int) (hc : M 17 n = c0) (hd : M 18 n = 0) (hv : M 16 n = 0) : M = j_M M n c0 x y z 0 := by
  funext k b
  simp only [j_M]
  rw [if_neg (by omega)]
  split
  · rename_i h; rw [h.1, h.2]; exact hc
  split
  · rename_i h; rw [h.1, h.2]; exact hd
  split
  · rename_i h; rw [h.1, h.2]; exact hv
  · rfl
theorem j_M_s (M : g_M) (n : Nat) (c0 x y z : Int) (i : Nat) : g_up (g_up (g_up (g_up (j_M M n c0 x y z i) 13 (3 * n + i) (j_pk x y z i)) 17 n (j_c (M 17) c0 x y z (i + 1))) 18 n (j_d (M 18) (M 16) x y z (i + 1))) 16 n (j_v (M 16) x y z (i + 1)) = j_M M n c0 x y z (i + 1) := by
  funext k b
  by_cases k16 : k = 16
  · subst k16
    by_cases hb : b = n
    · subst hb; simp [g_up, j_M]
    · simp [g_up, j_M, hb]
  by_cases k18 : k = 18
  · subst k18
    by_cases hb : b = n
    · subst hb; simp [g_up, j_M]
    · simp [g_up, j_M, hb]
  by_cases k17 : k = 17
  · subst k17
    by_cases hb : b = n
    · subst hb; simp [g_up, j_M]
    · simp [g_up, j_M, hb]
  by_cases k13 : k = 13
  · subst k13
    by_cases hb : b = 3 * n + i
    · subst hb
      have e1 : 3 * n ≤ 3 * n + i ∧ 3 * n + i < 3 * n + (i + 1) := ⟨by omega, by omega⟩
      have e2 : 3 * n + i - 3 * n = i := by omega
      simp [g_up, j_M, e2]
    · by_cases h : 3 * n ≤ b ∧ b < 3 * n + i
      · have h' : 3 * n ≤ b ∧ b < 3 * n + (i + 1) := ⟨h.1, by omega⟩
        simp [g_up, j_M, hb, h, h']
      · have h' : ¬ (3 * n ≤ b ∧ b < 3 * n + (i + 1)) := by omega
        simp [g_up, j_M, hb, h, h']
  · simp [g_up, j_M, k13, k16, k17, k18]
theorem j_M_at (M : g_M) (n : Nat) (c0 x y z : Int) (i k b : Nat) (h : k ≠ 13) (hb : b ≠ n) : j_M M n c0 x y z i k b = M k b := by
  simp [j_M, h, hb]
theorem j_M_ne (M : g_M) (n : Nat) (c0 x y z : Int) (i k b : Nat) (h : k ≠ 13) (h1 : k ≠ 16) (h2 : k ≠ 17) (h3 : k ≠ 18) : j_M M n c0 x y z i k b = M k b := by
  simp [j_M, h, h1, h2, h3]
theorem j_or01 : ∀ a b : Int, (a = 0 ∨ a = 1) → (b = 0 ∨ b = 1) → g_b (fun x y => x ||| y) a b = if a = 0 ∧ b = 0 then 0 else 1 := by
  intro a b ha hb
  rcases ha with rfl | rfl <;> rcases hb with rfl | rfl <;> decide +kernel
theorem j_c01 (q : Nat → Int) (c0 x y z : Int) (h : c0 = 0 ∨ c0 = 1) : ∀ i, j_c q c0 x y z i = 0 ∨ j_c q c0 x y z i = 1
  | 0 => h
  | i + 1 => by simp only [j_c]; split <;> simp
theorem j_d01 (q v : Nat → Int) (x y z : Int) : ∀ i, j_d q v x y z i = 0 ∨ j_d q v x y z i = 1
  | 0 => Or.inl rfl
  | i + 1 => by simp only [j_d]; split <;> simp
theorem c_Te_join (d : Nat) (M : g_M) (n w : Nat) (c0 x y z : Int) (hB : j_B (M 9 9) (M 14) (M 15)) (hok : j_ok (M 9 9) x y z w) (hw : w ≤ 3) (hn : M 9 9 = n) (hl : n < 100) (hc : M 17 n = c0) (hc0 : c0 = 0 ∨ c0 = 1) (hd : M 18 n = 0) (hv : M 16 n = 0) (h17 : ∀ t, M 17 t = 0 ∨ M 17 t = 1) : Con y_Te_join w_Te_join (g_rm (d + 1)) LX M [g_r 9, g_i (w : Int), g_i x, g_i y, g_i z] LX (g_up (g_up (g_up (g_up (j_M M n c0 x y z w) 12 n w) 14 n (j_h (M 14) x y z w + 1)) 15 n (j_s (M 15) x y z w)) 9 9 ((n : Int) + 1)) (some (g_i (n : Int))) := by
  refine con_of (av := [g_r 9, g_i (w : Int), g_i x, g_i y, g_i z]) (ls0 := [some (g_r 9), some (g_i (w : Int)), some (g_i x), some (g_i y), some (g_i z), none, none, none, none, none]) (by decide) rfl (Nat.le_of_ble_eq_true rfl) (g_hls (av := [g_r 9, g_i (w : Int), g_i x, g_i y, g_i z]) (k := 5)) (fun _ h9 => List.mem_cons_of_mem _ h9) ?_
  refine ev_aload_n (i := 0) d_Te_join_0 rfl rfl rfl ?_
  refine ev_getI (z := (n : Int)) d_Te_join_1 rfl lk_Te_40 lx_9 rfl (hn) ?_
  refine ev_istore (i := 5) d_Te_join_4 rfl (by decide) rfl ?_
  refine ev_iconst d_Te_join_6 rfl ⟨by decide, by decide⟩ ?_
  refine ev_istore (i := 6) d_Te_join_7 rfl (by decide) rfl ?_
  refine ev_iconst d_Te_join_9 rfl ⟨by decide, by decide⟩ ?_
  refine ev_istore (i := 7) d_Te_join_10 rfl (by decide) rfl ?_
  refine ev_iconst d_Te_join_12 rfl ⟨by decide, by decide⟩ ?_
  refine ev_istore (i := 8) d_Te_join_13 rfl (by decide) rfl ?_
  refine ev_lp (fun i : Nat => [some (g_r 9), some (g_i (w : Int)), some (g_i x), some (g_i y), some (g_i z), some (g_i ((n : Int))), some (g_i (j_h (M 14) x y z i)), some (g_i (j_s (M 15) x y z i)), some (g_i (i : Int)), none]) (fun i : Nat => (j_M M n c0 x y z i)) w ?_ ?_ (rfl) (j_M_0 M n c0 x y z hc hd hv)
  · intro i hi K15
    have hp := j_pk_in hok hw hi
    have hne : (j_pk x y z i).toNat ≠ n := by omega
    have hs1 := j_s_rg hB hok hw i (by omega)
    have hs2 := j_at hB hp
    refine ev_iload (i := 8) d_Te_join_15 rfl rfl ?_
    refine ev_iload_n (i := 1) d_Te_join_17 rfl rfl rfl ?_
    refine ev_icmp_ge_f (tgt := 155) d_Te_join_18 (by decide) rfl (by omega) ?_
    refine ev_iload (i := 8) d_Te_join_21 rfl rfl ?_
    refine ev_iload_n (i := 2) d_Te_join_23 rfl rfl rfl ?_
    refine ev_iload_n (i := 3) d_Te_join_24 rfl rfl rfl ?_
    refine ev_iload (i := 4) d_Te_join_25 rfl rfl ?_
    refine ev_callN (As := [g_i (i : Int), g_i x, g_i y, g_i z]) d_Te_join_27 rfl cl_Te_44 (c_Fu_pickJ (d + 0) (j_M M n c0 x y z i) i x y z) (g_hR (by decide)) g_h0 rfl rfl (Nat.le_of_ble_eq_true rfl) rfl rfl ?_
    refine ev_istore (i := 9) d_Te_join_30 rfl (by decide) rfl ?_
    refine ev_aload_n (i := 0) d_Te_join_32 rfl rfl rfl ?_
    refine ev_getR d_Te_join_33 rfl lk_Te_21 lx_9 rfl ?_
    refine ev_iload (i := 5) d_Te_join_36 rfl rfl ?_
    refine ev_iconst d_Te_join_38 rfl ⟨by decide, by decide⟩ ?_
    refine ev_imul (z := ((n : Int)) * 3) d_Te_join_39 rfl (g_w_id (by unfold g_rg; omega)) ?_
    refine ev_iload (i := 8) d_Te_join_40 rfl rfl ?_
    refine ev_iadd (z := (n : Int) * 3 + (i : Int)) d_Te_join_42 rfl (g_w_id (by unfold g_rg; omega)) ?_
    refine ev_iload (i := 9) d_Te_join_43 rfl rfl ?_
    refine ev_iastore d_Te_join_45 rfl lx_13 (by omega) (by omega) ?_
    rw [show Int.toNat (((n : Int) * 3 + (i : Int))) = 3 * n + i by omega]
    refine ev_iload (i := 6) d_Te_join_46 rfl rfl ?_
    refine ev_aload_n (i := 0) d_Te_join_48 rfl rfl rfl ?_
    refine ev_getR d_Te_join_49 rfl lk_Te_24 lx_9 rfl ?_
    refine ev_iload (i := 9) d_Te_join_52 rfl rfl ?_
    refine ev_iaload (z := M 14 (j_pk x y z i).toNat) d_Te_join_54 rfl lx_14 (by omega) (by omega) (by simp [g_up, j_M]) ?_
    refine ev_max (z := j_h (M 14) x y z (i + 1)) d_Te_join_55 rfl gx_max1 ⟨by show 1 ≤ d + 1; omega, by show 0 + 13 ≤ 40 * (d + 1); omega⟩ ⟨Nat.zero_le _, Nat.zero_le _⟩ (rfl) ?_
    refine ev_istore (i := 6) d_Te_join_58 rfl (by decide) rfl ?_
    refine ev_iload (i := 7) d_Te_join_60 rfl rfl ?_
    refine ev_aload_n (i := 0) d_Te_join_62 rfl rfl rfl ?_
    refine ev_getR d_Te_join_63 rfl lk_Te_27 lx_9 rfl ?_
    refine ev_iload (i := 9) d_Te_join_66 rfl rfl ?_
    refine ev_iaload (z := M 15 (j_pk x y z i).toNat) d_Te_join_68 rfl lx_15 (by omega) (by omega) (by simp [g_up, j_M]) ?_
    refine ev_iadd (z := j_s (M 15) x y z (i + 1)) d_Te_join_69 rfl (g_w_id (by unfold g_rg; omega)) ?_
    refine ev_istore (i := 7) d_Te_join_70 rfl (by decide) rfl ?_
    refine ev_aload_n (i := 0) d_Te_join_72 rfl rfl rfl ?_
    refine ev_getR d_Te_join_73 rfl lk_Te_33 lx_9 rfl ?_
    refine ev_iload (i := 5) d_Te_join_76 rfl rfl ?_
    refine ev_dup2 d_Te_join_78 rfl rfl rfl ?_
    refine ev_baload (z := j_c (M 17) c0 x y z i) d_Te_join_79 rfl lx_17 (by omega) (by omega) (by simp [g_up, j_M]) ?_
    refine ev_aload_n (i := 0) d_Te_join_80 rfl rfl rfl ?_
    refine ev_getR d_Te_join_81 rfl lk_Te_33 lx_9 rfl ?_
    refine ev_iload (i := 9) d_Te_join_84 rfl rfl ?_
    refine ev_baload (z := M 17 (j_pk x y z i).toNat) d_Te_join_86 rfl lx_17 (by omega) (by omega) (by simp [g_up, j_M, hne]) ?_
    refine ev_ior (z := j_c (M 17) c0 x y z (i + 1)) d_Te_join_87 rfl (j_or01 _ _ (j_c01 _ _ _ _ _ hc0 i) (h17 _)) ?_
    refine ev_bastore d_Te_join_88 rfl lx_17 (by omega) (by omega) (j_c01 _ _ _ _ _ hc0 (i + 1)) ?_
    rw [show Int.toNat (((n : Int))) = n by rfl]
    refine ev_aload_n (i := 0) d_Te_join_89 rfl rfl rfl ?_
    refine ev_getR d_Te_join_90 rfl lk_Te_37 lx_9 rfl ?_
    refine ev_iload (i := 5) d_Te_join_93 rfl rfl ?_
    refine ev_dup2 d_Te_join_95 rfl rfl rfl ?_
    refine ev_baload (z := j_d (M 18) (M 16) x y z i) d_Te_join_96 rfl lx_18 (by omega) (by omega) (by simp [g_up, j_M]) ?_
    refine ev_jn 130 (fun v9 => [some (g_r 9), some (g_i (w : Int)), some (g_i x), some (g_i y), some (g_i z), some (g_i ((n : Int))), some (g_i (j_h (M 14) x y z (i + 1))), some (g_i (j_s (M 15) x y z (i + 1))), some (g_i (i : Int)), some (g_i (j_pk x y z i))]) (fun v9 => [g_i v9, g_i (j_d (M 18) (M 16) x y z i), g_i ((n : Int)), g_r 18]) (g_up (g_up (j_M M n c0 x y z i) 13 (3 * n + i) ((j_pk x y z i))) 17 n ((j_c (M 17) c0 x y z (i + 1)))) (fun v9 => v9 = if M 18 (j_pk x y z i).toNat = 0 ∧ g_b (fun a b => a &&& b) (j_v (M 16) x y z i) (M 16 (j_pk x y z i).toNat) = 0 then 0 else 1) ?_ (fun K130 => ?_)
    · intro v9 hv9; subst hv9
      refine ev_ior (z := j_d (M 18) (M 16) x y z (i + 1)) d_Te_join_130 rfl (by rw [j_or01 _ _ (j_d01 _ _ _ _ _ i) (by omega)]; simp only [j_d]; omega) ?_
      refine ev_bastore d_Te_join_131 rfl lx_18 (by omega) (by omega) (j_d01 _ _ _ _ _ (i + 1)) ?_
      rw [show Int.toNat (((n : Int))) = n by rfl]
      refine ev_aload_n (i := 0) d_Te_join_132 rfl rfl rfl ?_
      refine ev_getR d_Te_join_133 rfl lk_Te_30 lx_9 rfl ?_
      refine ev_iload (i := 5) d_Te_join_136 rfl rfl ?_
      refine ev_dup2 d_Te_join_138 rfl rfl rfl ?_
      refine ev_iaload (z := j_v (M 16) x y z i) d_Te_join_139 rfl lx_16 (by omega) (by omega) (by simp [g_up, j_M]) ?_
      refine ev_aload_n (i := 0) d_Te_join_140 rfl rfl rfl ?_
      refine ev_getR d_Te_join_141 rfl lk_Te_30 lx_9 rfl ?_
      refine ev_iload (i := 9) d_Te_join_144 rfl rfl ?_
      refine ev_iaload (z := M 16 (j_pk x y z i).toNat) d_Te_join_146 rfl lx_16 (by omega) (by omega) (by simp [g_up, j_M, hne]) ?_
      refine ev_ior (z := j_v (M 16) x y z (i + 1)) d_Te_join_147 rfl (rfl) ?_
      refine ev_iastore d_Te_join_148 rfl lx_16 (by omega) (by omega) ?_
      rw [show Int.toNat (((n : Int))) = n by rfl]
      refine ev_iinc (z := (i : Int) + 1) d_Te_join_149 rfl rfl (by decide) (g_w_id (by unfold g_rg; omega)) rfl ?_
      refine ev_goto (tgt := 15) d_Te_join_152 (by decide) ?_
      exact ev_le K15 (j_M_s M n c0 x y z i) ⟨rfl, rfl, rfl, rfl, rfl, rfl, rfl, rfl, rfl, trivial⟩
    · refine ev_aload_n (i := 0) d_Te_join_97 rfl rfl rfl ?_
      refine ev_getR d_Te_join_98 rfl lk_Te_37 lx_9 rfl ?_
      refine ev_iload (i := 9) d_Te_join_101 rfl rfl ?_
      refine ev_baload (z := M 18 (j_pk x y z i).toNat) d_Te_join_103 rfl lx_18 (by omega) (by omega) (by simp [g_up, j_M, hne]) ?_
      refine ev_if_ne (tgt := 125) d_Te_join_104 (by decide) rfl (fun h1 => ?_) (fun h1 => ?_)
      · refine ev_iconst d_Te_join_125 rfl ⟨by decide, by decide⟩ ?_
        refine ev_goto (tgt := 130) d_Te_join_126 (by decide) ?_
        exact K130 _ (by omega)
      · refine ev_aload_n (i := 0) d_Te_join_107 rfl rfl rfl ?_
        refine ev_getR d_Te_join_108 rfl lk_Te_30 lx_9 rfl ?_
        refine ev_iload (i := 5) d_Te_join_111 rfl rfl ?_
        refine ev_iaload (z := j_v (M 16) x y z i) d_Te_join_113 rfl lx_16 (by omega) (by omega) (by simp [g_up, j_M]) ?_
        refine ev_aload_n (i := 0) d_Te_join_114 rfl rfl rfl ?_
        refine ev_getR d_Te_join_115 rfl lk_Te_30 lx_9 rfl ?_
        refine ev_iload (i := 9) d_Te_join_118 rfl rfl ?_
        refine ev_iaload (z := M 16 (j_pk x y z i).toNat) d_Te_join_120 rfl lx_16 (by omega) (by omega) (by simp [g_up, j_M, hne]) ?_
        refine ev_iand (z := g_b (fun a b => a &&& b) (j_v (M 16) x y z i) (M 16 (j_pk x y z i).toNat)) d_Te_join_121 rfl (rfl) ?_
        refine ev_if_eq (tgt := 129) d_Te_join_122 (by decide) rfl (fun h2 => ?_) (fun h2 => ?_)
        · refine ev_iconst d_Te_join_129 rfl ⟨by decide, by decide⟩ ?_
          exact K130 _ (by omega)
        · refine ev_iconst d_Te_join_125 rfl ⟨by decide, by decide⟩ ?_
          refine ev_goto (tgt := 130) d_Te_join_126 (by decide) ?_
          exact K130 _ (by omega)
  · have hs1 := j_s_rg hB hok hw w (Nat.le_refl _)
    have hh1 := j_h_rg hB hok hw w (Nat.le_refl _)
    refine ev_iload (i := 8) d_Te_join_15 rfl rfl ?_
    refine ev_iload_n (i := 1) d_Te_join_17 rfl rfl rfl ?_
    refine ev_icmp_ge_t (tgt := 155) d_Te_join_18 (by decide) (by omega) ?_
    refine ev_aload_n (i := 0) d_Te_join_155 rfl rfl rfl ?_
    refine ev_getR d_Te_join_156 rfl lk_Te_18 lx_9 rfl ?_
    refine ev_iload (i := 5) d_Te_join_159 rfl rfl ?_
    refine ev_iload_n (i := 1) d_Te_join_161 rfl rfl rfl ?_
    refine ev_iastore d_Te_join_162 rfl lx_12 (by omega) (by omega) ?_
    rw [show Int.toNat (((n : Int))) = n by rfl]
    refine ev_aload_n (i := 0) d_Te_join_163 rfl rfl rfl ?_
    refine ev_getR d_Te_join_164 rfl lk_Te_24 lx_9 rfl ?_
    refine ev_iload (i := 5) d_Te_join_167 rfl rfl ?_
    refine ev_iload (i := 6) d_Te_join_169 rfl rfl ?_
    refine ev_iconst d_Te_join_171 rfl ⟨by decide, by decide⟩ ?_
    refine ev_iadd (z := (j_h (M 14) x y z w) + 1) d_Te_join_172 rfl (g_w_id (by unfold g_rg; omega)) ?_
    refine ev_iastore d_Te_join_173 rfl lx_14 (by omega) (by omega) ?_
    rw [show Int.toNat (((n : Int))) = n by rfl]
    refine ev_aload_n (i := 0) d_Te_join_174 rfl rfl rfl ?_
    refine ev_getR d_Te_join_175 rfl lk_Te_27 lx_9 rfl ?_
    refine ev_iload (i := 5) d_Te_join_178 rfl rfl ?_
    refine ev_iload (i := 7) d_Te_join_180 rfl rfl ?_
    refine ev_iastore d_Te_join_182 rfl lx_15 (by omega) (by omega) ?_
    rw [show Int.toNat (((n : Int))) = n by rfl]
    refine ev_aload_n (i := 0) d_Te_join_183 rfl rfl rfl ?_
    refine ev_dup d_Te_join_184 rfl rfl ?_
    refine ev_getI (z := (n : Int)) d_Te_join_185 rfl lk_Te_40 lx_9 rfl (by simp [g_up, j_M, hn]) ?_
    refine ev_iconst d_Te_join_188 rfl ⟨by decide, by decide⟩ ?_
    refine ev_iadd (z := ((n : Int)) + 1) d_Te_join_189 rfl (g_w_id (by unfold g_rg; omega)) ?_
    refine ev_putI d_Te_join_190 rfl lk_Te_40 fp_Te_9 (Or.inl rfl) lx_9 rfl ?_
    refine ev_iload (i := 5) d_Te_join_193 rfl rfl ?_
    exact ev_retI d_Te_join_195 (by first | rfl | omega | simp_all) rfl (Or.inl rfl)
