/-! links: fields and calls by the pools' numbers -/
def g_ra (d c s : Nat) : Room := { frames := d, cells := c, slots := s, locals := 40 * d }
abbrev g_rm (d : Nat) : Room := g_ra d 0 0
theorem g_hR {d maxL : Nat} {c s c' s' : Nat} (h : maxL ≤ 21) : (g_ra d c s).frames + 1 ≤ (g_ra (d + 1) c' s').frames ∧ 8 + (maxL + 11) + (g_ra d c s).locals ≤ (g_ra (d + 1) c' s').locals := ⟨Nat.le_refl _, by show 8 + (maxL + 11) + 40 * d ≤ 40 * (d + 1); omega⟩
theorem g_h0 {d d' : Nat} : 0 + (g_rm d').cells ≤ (g_rm d).cells ∧ 0 + (g_rm d').slots ≤ (g_rm d).slots := ⟨Nat.le_refl _, Nat.le_refl _⟩
theorem g_gd {ws : List Cond} (h : ∀ w ∈ ws, w ∈ gw) : GoodIn gw ws := fun w hw => ⟨h w hw, good_of_word (List.mem_filter.mp (h w hw)).2⟩
theorem g_cons {w : Cond} (h : w ∈ gw) : ∀ x ∈ w :: gw, x ∈ gw := fun x hx => (List.mem_cons.mp hx).elim (fun e => e ▸ h) id
theorem g_cv {own : String} {idx n maxL ci N : Nat} {y : MethodName} {bytes : ByteArray} {ret : Option FieldType} {T : u_T} (h1 : Cond.methodLink own idx y ∈ gw) (h2 : Cond.instanceMethod y ∈ gw) (h3 : Cond.selects y.cls y y ∈ gw) (h4 : Cond.initialized y.cls ∈ gw) (h5 : Cond.code y bytes maxL ret ∈ gw)
    (h6 : y.cls ≠ "java/lang/invoke/MethodHandle" ∧ y.cls ≠ "java/lang/invoke/VarHandle" ∧ (parseMethodDescriptor y.desc).map (fun d => d.parameters.length) = some n) (h7 : vwCl[ci]? = some (y.cls, T, N)) : g_CV own idx y (Cond.code y bytes maxL ret :: gw) n maxL ci := by
  refine ⟨⟨bytes, ret, gw, rfl⟩, g_gd ?_, h6, T, N, h7⟩
  intro w hw
  unfold wsV at hw
  rcases List.mem_append.mp hw with hw | hw
  · simp only [List.mem_cons, List.not_mem_nil, or_false] at hw
    rcases hw with rfl | rfl | rfl | rfl
    · exact h1
    · exact h2
    · exact h3
    · exact h4
  · exact g_cons h5 w hw

theorem fp_Fu_0 : g_Fp T_Fu 10 0 (t_Fu 0) true := ⟨⟨t_Fu, t_Fu_ok⟩, n_Fu, rfl, t_Fu_ok 0 (by decide)⟩
theorem fp_Fu_1 : g_Fp T_Fu 10 1 (t_Fu 1) true := ⟨⟨t_Fu, t_Fu_ok⟩, n_Fu, rfl, t_Fu_ok 1 (by decide)⟩
theorem fp_Fu_2 : g_Fp T_Fu 10 2 (t_Fu 2) true := ⟨⟨t_Fu, t_Fu_ok⟩, n_Fu, rfl, t_Fu_ok 2 (by decide)⟩
theorem fp_Fu_3 : g_Fp T_Fu 10 3 (t_Fu 3) true := ⟨⟨t_Fu, t_Fu_ok⟩, n_Fu, rfl, t_Fu_ok 3 (by decide)⟩
theorem fp_Fu_4 : g_Fp T_Fu 10 4 (t_Fu 4) true := ⟨⟨t_Fu, t_Fu_ok⟩, n_Fu, rfl, t_Fu_ok 4 (by decide)⟩
theorem fp_Fu_5 : g_Fp T_Fu 10 5 (t_Fu 5) true := ⟨⟨t_Fu, t_Fu_ok⟩, n_Fu, rfl, t_Fu_ok 5 (by decide)⟩
theorem fp_Fu_6 : g_Fp T_Fu 10 6 (t_Fu 6) true := ⟨⟨t_Fu, t_Fu_ok⟩, n_Fu, rfl, t_Fu_ok 6 (by decide)⟩
theorem fp_Fu_7 : g_Fp T_Fu 10 7 (t_Fu 7) true := ⟨⟨t_Fu, t_Fu_ok⟩, n_Fu, rfl, t_Fu_ok 7 (by decide)⟩
theorem fp_Fu_8 : g_Fp T_Fu 10 8 (t_Fu 8) false := ⟨⟨t_Fu, t_Fu_ok⟩, n_Fu, rfl, t_Fu_ok 8 (by decide)⟩
theorem fp_Fu_9 : g_Fp T_Fu 10 9 (t_Fu 9) false := ⟨⟨t_Fu, t_Fu_ok⟩, n_Fu, rfl, t_Fu_ok 9 (by decide)⟩
theorem fp_Sg_0 : g_Fp T_Sg 5 0 (t_Sg 0) true := ⟨⟨t_Sg, t_Sg_ok⟩, n_Sg, rfl, t_Sg_ok 0 (by decide)⟩
theorem fp_Sg_1 : g_Fp T_Sg 5 1 (t_Sg 1) true := ⟨⟨t_Sg, t_Sg_ok⟩, n_Sg, rfl, t_Sg_ok 1 (by decide)⟩
theorem fp_Sg_2 : g_Fp T_Sg 5 2 (t_Sg 2) true := ⟨⟨t_Sg, t_Sg_ok⟩, n_Sg, rfl, t_Sg_ok 2 (by decide)⟩
theorem fp_Sg_3 : g_Fp T_Sg 5 3 (t_Sg 3) true := ⟨⟨t_Sg, t_Sg_ok⟩, n_Sg, rfl, t_Sg_ok 3 (by decide)⟩
theorem fp_Sg_4 : g_Fp T_Sg 5 4 (t_Sg 4) false := ⟨⟨t_Sg, t_Sg_ok⟩, n_Sg, rfl, t_Sg_ok 4 (by decide)⟩
theorem fp_Te_0 : g_Fp T_Te 10 0 (t_Te 0) true := ⟨⟨t_Te, t_Te_ok⟩, n_Te, rfl, t_Te_ok 0 (by decide)⟩
theorem fp_Te_1 : g_Fp T_Te 10 1 (t_Te 1) true := ⟨⟨t_Te, t_Te_ok⟩, n_Te, rfl, t_Te_ok 1 (by decide)⟩
theorem fp_Te_2 : g_Fp T_Te 10 2 (t_Te 2) true := ⟨⟨t_Te, t_Te_ok⟩, n_Te, rfl, t_Te_ok 2 (by decide)⟩
theorem fp_Te_3 : g_Fp T_Te 10 3 (t_Te 3) true := ⟨⟨t_Te, t_Te_ok⟩, n_Te, rfl, t_Te_ok 3 (by decide)⟩
theorem fp_Te_4 : g_Fp T_Te 10 4 (t_Te 4) true := ⟨⟨t_Te, t_Te_ok⟩, n_Te, rfl, t_Te_ok 4 (by decide)⟩
theorem fp_Te_5 : g_Fp T_Te 10 5 (t_Te 5) true := ⟨⟨t_Te, t_Te_ok⟩, n_Te, rfl, t_Te_ok 5 (by decide)⟩
theorem fp_Te_6 : g_Fp T_Te 10 6 (t_Te 6) true := ⟨⟨t_Te, t_Te_ok⟩, n_Te, rfl, t_Te_ok 6 (by decide)⟩
theorem fp_Te_7 : g_Fp T_Te 10 7 (t_Te 7) true := ⟨⟨t_Te, t_Te_ok⟩, n_Te, rfl, t_Te_ok 7 (by decide)⟩
theorem fp_Te_8 : g_Fp T_Te 10 8 (t_Te 8) true := ⟨⟨t_Te, t_Te_ok⟩, n_Te, rfl, t_Te_ok 8 (by decide)⟩
theorem fp_Te_9 : g_Fp T_Te 10 9 (t_Te 9) false := ⟨⟨t_Te, t_Te_ok⟩, n_Te, rfl, t_Te_ok 9 (by decide)⟩
theorem fp_Cl_0 : g_Fp T_Cl 8 0 (t_Cl 0) true := ⟨⟨t_Cl, t_Cl_ok⟩, n_Cl, rfl, t_Cl_ok 0 (by decide)⟩
theorem fp_Cl_1 : g_Fp T_Cl 8 1 (t_Cl 1) true := ⟨⟨t_Cl, t_Cl_ok⟩, n_Cl, rfl, t_Cl_ok 1 (by decide)⟩
theorem fp_Cl_2 : g_Fp T_Cl 8 2 (t_Cl 2) true := ⟨⟨t_Cl, t_Cl_ok⟩, n_Cl, rfl, t_Cl_ok 2 (by decide)⟩
theorem fp_Cl_3 : g_Fp T_Cl 8 3 (t_Cl 3) true := ⟨⟨t_Cl, t_Cl_ok⟩, n_Cl, rfl, t_Cl_ok 3 (by decide)⟩
theorem fp_Cl_4 : g_Fp T_Cl 8 4 (t_Cl 4) true := ⟨⟨t_Cl, t_Cl_ok⟩, n_Cl, rfl, t_Cl_ok 4 (by decide)⟩
theorem fp_Cl_5 : g_Fp T_Cl 8 5 (t_Cl 5) true := ⟨⟨t_Cl, t_Cl_ok⟩, n_Cl, rfl, t_Cl_ok 5 (by decide)⟩
theorem fp_Cl_6 : g_Fp T_Cl 8 6 (t_Cl 6) true := ⟨⟨t_Cl, t_Cl_ok⟩, n_Cl, rfl, t_Cl_ok 6 (by decide)⟩
theorem fp_Cl_7 : g_Fp T_Cl 8 7 (t_Cl 7) false := ⟨⟨t_Cl, t_Cl_ok⟩, n_Cl, rfl, t_Cl_ok 7 (by decide)⟩
theorem fp_Ty_0 : g_Fp T_Ty 5 0 (t_Ty 0) true := ⟨⟨t_Ty, t_Ty_ok⟩, n_Ty, rfl, t_Ty_ok 0 (by decide)⟩
theorem fp_Ty_1 : g_Fp T_Ty 5 1 (t_Ty 1) true := ⟨⟨t_Ty, t_Ty_ok⟩, n_Ty, rfl, t_Ty_ok 1 (by decide)⟩
theorem fp_Ty_2 : g_Fp T_Ty 5 2 (t_Ty 2) true := ⟨⟨t_Ty, t_Ty_ok⟩, n_Ty, rfl, t_Ty_ok 2 (by decide)⟩
theorem fp_Ty_3 : g_Fp T_Ty 5 3 (t_Ty 3) true := ⟨⟨t_Ty, t_Ty_ok⟩, n_Ty, rfl, t_Ty_ok 3 (by decide)⟩
theorem fp_Ty_4 : g_Fp T_Ty 5 4 (t_Ty 4) true := ⟨⟨t_Ty, t_Ty_ok⟩, n_Ty, rfl, t_Ty_ok 4 (by decide)⟩
theorem fp_Co_0 : g_Fp T_Co 6 0 (t_Co 0) true := ⟨⟨t_Co, t_Co_ok⟩, n_Co, rfl, t_Co_ok 0 (by decide)⟩
theorem fp_Co_1 : g_Fp T_Co 6 1 (t_Co 1) true := ⟨⟨t_Co, t_Co_ok⟩, n_Co, rfl, t_Co_ok 1 (by decide)⟩
theorem fp_Co_2 : g_Fp T_Co 6 2 (t_Co 2) true := ⟨⟨t_Co, t_Co_ok⟩, n_Co, rfl, t_Co_ok 2 (by decide)⟩
theorem fp_Co_3 : g_Fp T_Co 6 3 (t_Co 3) true := ⟨⟨t_Co, t_Co_ok⟩, n_Co, rfl, t_Co_ok 3 (by decide)⟩
theorem fp_Co_4 : g_Fp T_Co 6 4 (t_Co 4) true := ⟨⟨t_Co, t_Co_ok⟩, n_Co, rfl, t_Co_ok 4 (by decide)⟩
theorem fp_Co_5 : g_Fp T_Co 6 5 (t_Co 5) true := ⟨⟨t_Co, t_Co_ok⟩, n_Co, rfl, t_Co_ok 5 (by decide)⟩
theorem fp_En_0 : g_Fp T_En 9 0 (t_En 0) true := ⟨⟨t_En, t_En_ok⟩, n_En, rfl, t_En_ok 0 (by decide)⟩
theorem fp_En_1 : g_Fp T_En 9 1 (t_En 1) true := ⟨⟨t_En, t_En_ok⟩, n_En, rfl, t_En_ok 1 (by decide)⟩
theorem fp_En_2 : g_Fp T_En 9 2 (t_En 2) true := ⟨⟨t_En, t_En_ok⟩, n_En, rfl, t_En_ok 2 (by decide)⟩
theorem fp_En_3 : g_Fp T_En 9 3 (t_En 3) true := ⟨⟨t_En, t_En_ok⟩, n_En, rfl, t_En_ok 3 (by decide)⟩
theorem fp_En_4 : g_Fp T_En 9 4 (t_En 4) false := ⟨⟨t_En, t_En_ok⟩, n_En, rfl, t_En_ok 4 (by decide)⟩
theorem fp_En_5 : g_Fp T_En 9 5 (t_En 5) true := ⟨⟨t_En, t_En_ok⟩, n_En, rfl, t_En_ok 5 (by decide)⟩
theorem fp_En_6 : g_Fp T_En 9 6 (t_En 6) false := ⟨⟨t_En, t_En_ok⟩, n_En, rfl, t_En_ok 6 (by decide)⟩
theorem fp_En_7 : g_Fp T_En 9 7 (t_En 7) false := ⟨⟨t_En, t_En_ok⟩, n_En, rfl, t_En_ok 7 (by decide)⟩
theorem fp_En_8 : g_Fp T_En 9 8 (t_En 8) true := ⟨⟨t_En, t_En_ok⟩, n_En, rfl, t_En_ok 8 (by decide)⟩
theorem fp_Va_0 : g_Fp T_Va 6 0 (t_Va 0) true := ⟨⟨t_Va, t_Va_ok⟩, n_Va, rfl, t_Va_ok 0 (by decide)⟩
theorem fp_Va_1 : g_Fp T_Va 6 1 (t_Va 1) true := ⟨⟨t_Va, t_Va_ok⟩, n_Va, rfl, t_Va_ok 1 (by decide)⟩
theorem fp_Va_2 : g_Fp T_Va 6 2 (t_Va 2) true := ⟨⟨t_Va, t_Va_ok⟩, n_Va, rfl, t_Va_ok 2 (by decide)⟩
theorem fp_Va_3 : g_Fp T_Va 6 3 (t_Va 3) true := ⟨⟨t_Va, t_Va_ok⟩, n_Va, rfl, t_Va_ok 3 (by decide)⟩
theorem fp_Va_4 : g_Fp T_Va 6 4 (t_Va 4) true := ⟨⟨t_Va, t_Va_ok⟩, n_Va, rfl, t_Va_ok 4 (by decide)⟩
theorem fp_Va_5 : g_Fp T_Va 6 5 (t_Va 5) false := ⟨⟨t_Va, t_Va_ok⟩, n_Va, rfl, t_Va_ok 5 (by decide)⟩
theorem fp_Ma_0 : g_Fp T_Ma 15 0 (t_Ma 0) true := ⟨⟨t_Ma, t_Ma_ok⟩, n_Ma, rfl, t_Ma_ok 0 (by decide)⟩
theorem fp_Ma_1 : g_Fp T_Ma 15 1 (t_Ma 1) true := ⟨⟨t_Ma, t_Ma_ok⟩, n_Ma, rfl, t_Ma_ok 1 (by decide)⟩
theorem fp_Ma_2 : g_Fp T_Ma 15 2 (t_Ma 2) true := ⟨⟨t_Ma, t_Ma_ok⟩, n_Ma, rfl, t_Ma_ok 2 (by decide)⟩
theorem fp_Ma_3 : g_Fp T_Ma 15 3 (t_Ma 3) true := ⟨⟨t_Ma, t_Ma_ok⟩, n_Ma, rfl, t_Ma_ok 3 (by decide)⟩
theorem fp_Ma_4 : g_Fp T_Ma 15 4 (t_Ma 4) true := ⟨⟨t_Ma, t_Ma_ok⟩, n_Ma, rfl, t_Ma_ok 4 (by decide)⟩
theorem fp_Ma_5 : g_Fp T_Ma 15 5 (t_Ma 5) true := ⟨⟨t_Ma, t_Ma_ok⟩, n_Ma, rfl, t_Ma_ok 5 (by decide)⟩
theorem fp_Ma_6 : g_Fp T_Ma 15 6 (t_Ma 6) true := ⟨⟨t_Ma, t_Ma_ok⟩, n_Ma, rfl, t_Ma_ok 6 (by decide)⟩
theorem fp_Ma_7 : g_Fp T_Ma 15 7 (t_Ma 7) false := ⟨⟨t_Ma, t_Ma_ok⟩, n_Ma, rfl, t_Ma_ok 7 (by decide)⟩
theorem fp_Ma_8 : g_Fp T_Ma 15 8 (t_Ma 8) true := ⟨⟨t_Ma, t_Ma_ok⟩, n_Ma, rfl, t_Ma_ok 8 (by decide)⟩
theorem fp_Ma_9 : g_Fp T_Ma 15 9 (t_Ma 9) false := ⟨⟨t_Ma, t_Ma_ok⟩, n_Ma, rfl, t_Ma_ok 9 (by decide)⟩
theorem fp_Ma_10 : g_Fp T_Ma 15 10 (t_Ma 10) true := ⟨⟨t_Ma, t_Ma_ok⟩, n_Ma, rfl, t_Ma_ok 10 (by decide)⟩
theorem fp_Ma_11 : g_Fp T_Ma 15 11 (t_Ma 11) false := ⟨⟨t_Ma, t_Ma_ok⟩, n_Ma, rfl, t_Ma_ok 11 (by decide)⟩
theorem fp_Ma_12 : g_Fp T_Ma 15 12 (t_Ma 12) false := ⟨⟨t_Ma, t_Ma_ok⟩, n_Ma, rfl, t_Ma_ok 12 (by decide)⟩
theorem fp_Ma_13 : g_Fp T_Ma 15 13 (t_Ma 13) true := ⟨⟨t_Ma, t_Ma_ok⟩, n_Ma, rfl, t_Ma_ok 13 (by decide)⟩
theorem fp_Ma_14 : g_Fp T_Ma 15 14 (t_Ma 14) false := ⟨⟨t_Ma, t_Ma_ok⟩, n_Ma, rfl, t_Ma_ok 14 (by decide)⟩
theorem fp_Mo_0 : g_Fp T_Mo 45 0 (t_Mo 0) false := ⟨⟨t_Mo, t_Mo_ok⟩, n_Mo, rfl, t_Mo_ok 0 (by decide)⟩
theorem fp_Mo_1 : g_Fp T_Mo 45 1 (t_Mo 1) true := ⟨⟨t_Mo, t_Mo_ok⟩, n_Mo, rfl, t_Mo_ok 1 (by decide)⟩
theorem fp_Mo_2 : g_Fp T_Mo 45 2 (t_Mo 2) true := ⟨⟨t_Mo, t_Mo_ok⟩, n_Mo, rfl, t_Mo_ok 2 (by decide)⟩
theorem fp_Mo_3 : g_Fp T_Mo 45 3 (t_Mo 3) true := ⟨⟨t_Mo, t_Mo_ok⟩, n_Mo, rfl, t_Mo_ok 3 (by decide)⟩
theorem fp_Mo_4 : g_Fp T_Mo 45 4 (t_Mo 4) false := ⟨⟨t_Mo, t_Mo_ok⟩, n_Mo, rfl, t_Mo_ok 4 (by decide)⟩
theorem fp_Mo_5 : g_Fp T_Mo 45 5 (t_Mo 5) true := ⟨⟨t_Mo, t_Mo_ok⟩, n_Mo, rfl, t_Mo_ok 5 (by decide)⟩
theorem fp_Mo_6 : g_Fp T_Mo 45 6 (t_Mo 6) true := ⟨⟨t_Mo, t_Mo_ok⟩, n_Mo, rfl, t_Mo_ok 6 (by decide)⟩
theorem fp_Mo_7 : g_Fp T_Mo 45 7 (t_Mo 7) true := ⟨⟨t_Mo, t_Mo_ok⟩, n_Mo, rfl, t_Mo_ok 7 (by decide)⟩
theorem fp_Mo_8 : g_Fp T_Mo 45 8 (t_Mo 8) false := ⟨⟨t_Mo, t_Mo_ok⟩, n_Mo, rfl, t_Mo_ok 8 (by decide)⟩
theorem fp_Mo_9 : g_Fp T_Mo 45 9 (t_Mo 9) true := ⟨⟨t_Mo, t_Mo_ok⟩, n_Mo, rfl, t_Mo_ok 9 (by decide)⟩
theorem fp_Mo_10 : g_Fp T_Mo 45 10 (t_Mo 10) true := ⟨⟨t_Mo, t_Mo_ok⟩, n_Mo, rfl, t_Mo_ok 10 (by decide)⟩
theorem fp_Mo_11 : g_Fp T_Mo 45 11 (t_Mo 11) true := ⟨⟨t_Mo, t_Mo_ok⟩, n_Mo, rfl, t_Mo_ok 11 (by decide)⟩
theorem fp_Mo_12 : g_Fp T_Mo 45 12 (t_Mo 12) true := ⟨⟨t_Mo, t_Mo_ok⟩, n_Mo, rfl, t_Mo_ok 12 (by decide)⟩
theorem fp_Mo_13 : g_Fp T_Mo 45 13 (t_Mo 13) false := ⟨⟨t_Mo, t_Mo_ok⟩, n_Mo, rfl, t_Mo_ok 13 (by decide)⟩
theorem fp_Mo_14 : g_Fp T_Mo 45 14 (t_Mo 14) true := ⟨⟨t_Mo, t_Mo_ok⟩, n_Mo, rfl, t_Mo_ok 14 (by decide)⟩
theorem fp_Mo_15 : g_Fp T_Mo 45 15 (t_Mo 15) true := ⟨⟨t_Mo, t_Mo_ok⟩, n_Mo, rfl, t_Mo_ok 15 (by decide)⟩
theorem fp_Mo_16 : g_Fp T_Mo 45 16 (t_Mo 16) true := ⟨⟨t_Mo, t_Mo_ok⟩, n_Mo, rfl, t_Mo_ok 16 (by decide)⟩
theorem fp_Mo_17 : g_Fp T_Mo 45 17 (t_Mo 17) false := ⟨⟨t_Mo, t_Mo_ok⟩, n_Mo, rfl, t_Mo_ok 17 (by decide)⟩
theorem fp_Mo_18 : g_Fp T_Mo 45 18 (t_Mo 18) false := ⟨⟨t_Mo, t_Mo_ok⟩, n_Mo, rfl, t_Mo_ok 18 (by decide)⟩
theorem fp_Mo_19 : g_Fp T_Mo 45 19 (t_Mo 19) true := ⟨⟨t_Mo, t_Mo_ok⟩, n_Mo, rfl, t_Mo_ok 19 (by decide)⟩
theorem fp_Mo_20 : g_Fp T_Mo 45 20 (t_Mo 20) true := ⟨⟨t_Mo, t_Mo_ok⟩, n_Mo, rfl, t_Mo_ok 20 (by decide)⟩
theorem fp_Mo_21 : g_Fp T_Mo 45 21 (t_Mo 21) true := ⟨⟨t_Mo, t_Mo_ok⟩, n_Mo, rfl, t_Mo_ok 21 (by decide)⟩
theorem fp_Mo_22 : g_Fp T_Mo 45 22 (t_Mo 22) false := ⟨⟨t_Mo, t_Mo_ok⟩, n_Mo, rfl, t_Mo_ok 22 (by decide)⟩
theorem fp_Mo_23 : g_Fp T_Mo 45 23 (t_Mo 23) true := ⟨⟨t_Mo, t_Mo_ok⟩, n_Mo, rfl, t_Mo_ok 23 (by decide)⟩
theorem fp_Mo_24 : g_Fp T_Mo 45 24 (t_Mo 24) true := ⟨⟨t_Mo, t_Mo_ok⟩, n_Mo, rfl, t_Mo_ok 24 (by decide)⟩
theorem fp_Mo_25 : g_Fp T_Mo 45 25 (t_Mo 25) true := ⟨⟨t_Mo, t_Mo_ok⟩, n_Mo, rfl, t_Mo_ok 25 (by decide)⟩
theorem fp_Mo_26 : g_Fp T_Mo 45 26 (t_Mo 26) true := ⟨⟨t_Mo, t_Mo_ok⟩, n_Mo, rfl, t_Mo_ok 26 (by decide)⟩
theorem fp_Mo_27 : g_Fp T_Mo 45 27 (t_Mo 27) true := ⟨⟨t_Mo, t_Mo_ok⟩, n_Mo, rfl, t_Mo_ok 27 (by decide)⟩
theorem fp_Mo_28 : g_Fp T_Mo 45 28 (t_Mo 28) true := ⟨⟨t_Mo, t_Mo_ok⟩, n_Mo, rfl, t_Mo_ok 28 (by decide)⟩
theorem fp_Mo_29 : g_Fp T_Mo 45 29 (t_Mo 29) false := ⟨⟨t_Mo, t_Mo_ok⟩, n_Mo, rfl, t_Mo_ok 29 (by decide)⟩
theorem fp_Mo_30 : g_Fp T_Mo 45 30 (t_Mo 30) true := ⟨⟨t_Mo, t_Mo_ok⟩, n_Mo, rfl, t_Mo_ok 30 (by decide)⟩
theorem fp_Mo_31 : g_Fp T_Mo 45 31 (t_Mo 31) true := ⟨⟨t_Mo, t_Mo_ok⟩, n_Mo, rfl, t_Mo_ok 31 (by decide)⟩
theorem fp_Mo_32 : g_Fp T_Mo 45 32 (t_Mo 32) true := ⟨⟨t_Mo, t_Mo_ok⟩, n_Mo, rfl, t_Mo_ok 32 (by decide)⟩
theorem fp_Mo_33 : g_Fp T_Mo 45 33 (t_Mo 33) false := ⟨⟨t_Mo, t_Mo_ok⟩, n_Mo, rfl, t_Mo_ok 33 (by decide)⟩
theorem fp_Mo_34 : g_Fp T_Mo 45 34 (t_Mo 34) false := ⟨⟨t_Mo, t_Mo_ok⟩, n_Mo, rfl, t_Mo_ok 34 (by decide)⟩
theorem fp_Mo_35 : g_Fp T_Mo 45 35 (t_Mo 35) false := ⟨⟨t_Mo, t_Mo_ok⟩, n_Mo, rfl, t_Mo_ok 35 (by decide)⟩
theorem fp_Mo_36 : g_Fp T_Mo 45 36 (t_Mo 36) true := ⟨⟨t_Mo, t_Mo_ok⟩, n_Mo, rfl, t_Mo_ok 36 (by decide)⟩
theorem fp_Mo_37 : g_Fp T_Mo 45 37 (t_Mo 37) true := ⟨⟨t_Mo, t_Mo_ok⟩, n_Mo, rfl, t_Mo_ok 37 (by decide)⟩
theorem fp_Mo_38 : g_Fp T_Mo 45 38 (t_Mo 38) false := ⟨⟨t_Mo, t_Mo_ok⟩, n_Mo, rfl, t_Mo_ok 38 (by decide)⟩
theorem fp_Mo_39 : g_Fp T_Mo 45 39 (t_Mo 39) true := ⟨⟨t_Mo, t_Mo_ok⟩, n_Mo, rfl, t_Mo_ok 39 (by decide)⟩
theorem fp_Mo_40 : g_Fp T_Mo 45 40 (t_Mo 40) true := ⟨⟨t_Mo, t_Mo_ok⟩, n_Mo, rfl, t_Mo_ok 40 (by decide)⟩
theorem fp_Mo_41 : g_Fp T_Mo 45 41 (t_Mo 41) true := ⟨⟨t_Mo, t_Mo_ok⟩, n_Mo, rfl, t_Mo_ok 41 (by decide)⟩
theorem fp_Mo_42 : g_Fp T_Mo 45 42 (t_Mo 42) false := ⟨⟨t_Mo, t_Mo_ok⟩, n_Mo, rfl, t_Mo_ok 42 (by decide)⟩
theorem fp_Mo_43 : g_Fp T_Mo 45 43 (t_Mo 43) true := ⟨⟨t_Mo, t_Mo_ok⟩, n_Mo, rfl, t_Mo_ok 43 (by decide)⟩
theorem fp_Mo_44 : g_Fp T_Mo 45 44 (t_Mo 44) false := ⟨⟨t_Mo, t_Mo_ok⟩, n_Mo, rfl, t_Mo_ok 44 (by decide)⟩
theorem lk_Sg_9 : g_Fl R_Sg 9 1 0 R_Sg T_Sg 5 := ⟨rfl, by decide, uw_Sg, gm_26⟩
theorem lk_Sg_15 : g_Fl R_Sg 15 1 1 R_Sg T_Sg 5 := ⟨rfl, by decide, uw_Sg, gm_27⟩
theorem lk_Sg_19 : g_Fl R_Sg 19 1 2 R_Sg T_Sg 5 := ⟨rfl, by decide, uw_Sg, gm_28⟩
theorem lk_Sg_22 : g_Fl R_Sg 22 1 3 R_Sg T_Sg 5 := ⟨rfl, by decide, uw_Sg, gm_29⟩
theorem lk_Sg_25 : g_Fl R_Sg 25 1 4 R_Sg T_Sg 5 := ⟨rfl, by decide, uw_Sg, gm_30⟩
theorem lk_Te_9 : g_Fl R_Te 9 2 0 R_Te T_Te 10 := ⟨rfl, by decide, uw_Te, gm_43⟩
theorem lk_Te_15 : g_Fl R_Te 15 2 1 R_Te T_Te 10 := ⟨rfl, by decide, uw_Te, gm_44⟩
theorem lk_Te_18 : g_Fl R_Te 18 2 2 R_Te T_Te 10 := ⟨rfl, by decide, uw_Te, gm_45⟩
theorem lk_Te_21 : g_Fl R_Te 21 2 3 R_Te T_Te 10 := ⟨rfl, by decide, uw_Te, gm_46⟩
theorem lk_Te_24 : g_Fl R_Te 24 2 4 R_Te T_Te 10 := ⟨rfl, by decide, uw_Te, gm_47⟩
theorem lk_Te_27 : g_Fl R_Te 27 2 5 R_Te T_Te 10 := ⟨rfl, by decide, uw_Te, gm_48⟩
theorem lk_Te_30 : g_Fl R_Te 30 2 6 R_Te T_Te 10 := ⟨rfl, by decide, uw_Te, gm_49⟩
theorem lk_Te_33 : g_Fl R_Te 33 2 7 R_Te T_Te 10 := ⟨rfl, by decide, uw_Te, gm_50⟩
theorem lk_Te_37 : g_Fl R_Te 37 2 8 R_Te T_Te 10 := ⟨rfl, by decide, uw_Te, gm_51⟩
theorem lk_Te_40 : g_Fl R_Te 40 2 9 R_Te T_Te 10 := ⟨rfl, by decide, uw_Te, gm_52⟩
theorem lk_Cl_9 : g_Fl R_Cl 9 3 0 R_Cl T_Cl 8 := ⟨rfl, by decide, uw_Cl, gm_70⟩
theorem lk_Cl_15 : g_Fl R_Cl 15 3 1 R_Cl T_Cl 8 := ⟨rfl, by decide, uw_Cl, gm_71⟩
theorem lk_Cl_19 : g_Fl R_Cl 19 3 2 R_Cl T_Cl 8 := ⟨rfl, by decide, uw_Cl, gm_72⟩
theorem lk_Cl_23 : g_Fl R_Cl 23 3 3 R_Cl T_Cl 8 := ⟨rfl, by decide, uw_Cl, gm_73⟩
theorem lk_Cl_26 : g_Fl R_Cl 26 3 4 R_Cl T_Cl 8 := ⟨rfl, by decide, uw_Cl, gm_74⟩
theorem lk_Cl_29 : g_Fl R_Cl 29 3 5 R_Cl T_Cl 8 := ⟨rfl, by decide, uw_Cl, gm_75⟩
theorem lk_Cl_32 : g_Fl R_Cl 32 3 6 R_Cl T_Cl 8 := ⟨rfl, by decide, uw_Cl, gm_76⟩
theorem lk_Cl_35 : g_Fl R_Cl 35 3 7 R_Cl T_Cl 8 := ⟨rfl, by decide, uw_Cl, gm_77⟩
theorem lk_Ty_9 : g_Fl R_Ty 9 4 0 R_Ty T_Ty 5 := ⟨rfl, by decide, uw_Ty, gm_92⟩
theorem lk_Ty_15 : g_Fl R_Ty 15 4 1 R_Ty T_Ty 5 := ⟨rfl, by decide, uw_Ty, gm_93⟩
theorem lk_Ty_18 : g_Fl R_Ty 18 4 2 R_Ty T_Ty 5 := ⟨rfl, by decide, uw_Ty, gm_94⟩
theorem lk_Ty_22 : g_Fl R_Ty 22 4 3 R_Ty T_Ty 5 := ⟨rfl, by decide, uw_Ty, gm_95⟩
theorem lk_Ty_26 : g_Fl R_Ty 26 4 4 R_Ty T_Ty 5 := ⟨rfl, by decide, uw_Ty, gm_96⟩
theorem lk_Co_11 : g_Fl R_Co 11 5 0 R_Co T_Co 6 := ⟨rfl, by decide, uw_Co, gm_108⟩
theorem lk_Co_15 : g_Fl R_Co 15 5 1 R_Co T_Co 6 := ⟨rfl, by decide, uw_Co, gm_109⟩
theorem lk_Co_18 : g_Fl R_Co 18 5 2 R_Co T_Co 6 := ⟨rfl, by decide, uw_Co, gm_110⟩
theorem lk_Co_22 : g_Fl R_Co 22 5 3 R_Co T_Co 6 := ⟨rfl, by decide, uw_Co, gm_111⟩
theorem lk_Co_26 : g_Fl R_Co 26 5 4 R_Co T_Co 6 := ⟨rfl, by decide, uw_Co, gm_112⟩
theorem lk_Co_30 : g_Fl R_Co 30 5 5 R_Co T_Co 6 := ⟨rfl, by decide, uw_Co, gm_113⟩
theorem lk_En_11 : g_Fl R_En 11 6 0 R_En T_En 9 := ⟨rfl, by decide, uw_En, gm_126⟩
theorem lk_En_15 : g_Fl R_En 15 6 1 R_En T_En 9 := ⟨rfl, by decide, uw_En, gm_127⟩
theorem lk_En_19 : g_Fl R_En 19 6 2 R_En T_En 9 := ⟨rfl, by decide, uw_En, gm_128⟩
theorem lk_En_23 : g_Fl R_En 23 6 3 R_En T_En 9 := ⟨rfl, by decide, uw_En, gm_129⟩
theorem lk_En_37 : g_Fl R_En 37 6 4 R_En T_En 9 := ⟨rfl, by decide, uw_En, gm_130⟩
theorem lk_En_27 : g_Fl R_En 27 6 5 R_En T_En 9 := ⟨rfl, by decide, uw_En, gm_131⟩
theorem lk_En_79 : g_Fl R_En 79 6 6 R_En T_En 9 := ⟨rfl, by decide, uw_En, gm_132⟩
theorem lk_En_82 : g_Fl R_En 82 6 7 R_En T_En 9 := ⟨rfl, by decide, uw_En, gm_133⟩
theorem lk_En_30 : g_Fl R_En 30 6 8 R_En T_En 9 := ⟨rfl, by decide, uw_En, gm_134⟩
theorem lk_Va_9 : g_Fl R_Va 9 7 0 R_Va T_Va 6 := ⟨rfl, by decide, uw_Va, gm_156⟩
theorem lk_Va_15 : g_Fl R_Va 15 7 1 R_Va T_Va 6 := ⟨rfl, by decide, uw_Va, gm_157⟩
theorem lk_Va_19 : g_Fl R_Va 19 7 2 R_Va T_Va 6 := ⟨rfl, by decide, uw_Va, gm_158⟩
theorem lk_Va_23 : g_Fl R_Va 23 7 3 R_Va T_Va 6 := ⟨rfl, by decide, uw_Va, gm_159⟩
theorem lk_Va_26 : g_Fl R_Va 26 7 4 R_Va T_Va 6 := ⟨rfl, by decide, uw_Va, gm_160⟩
theorem lk_Va_29 : g_Fl R_Va 29 7 5 R_Va T_Va 6 := ⟨rfl, by decide, uw_Va, gm_161⟩
theorem lk_Ma_11 : g_Fl R_Ma 11 8 0 R_Ma T_Ma 15 := ⟨rfl, by decide, uw_Ma, gm_168⟩
theorem lk_Ma_15 : g_Fl R_Ma 15 8 1 R_Ma T_Ma 15 := ⟨rfl, by decide, uw_Ma, gm_169⟩
theorem lk_Ma_19 : g_Fl R_Ma 19 8 2 R_Ma T_Ma 15 := ⟨rfl, by decide, uw_Ma, gm_170⟩
theorem lk_Ma_28 : g_Fl R_Ma 28 8 3 R_Ma T_Ma 15 := ⟨rfl, by decide, uw_Ma, gm_171⟩
theorem lk_Ma_32 : g_Fl R_Ma 32 8 4 R_Ma T_Ma 15 := ⟨rfl, by decide, uw_Ma, gm_172⟩
theorem lk_Ma_36 : g_Fl R_Ma 36 8 5 R_Ma T_Ma 15 := ⟨rfl, by decide, uw_Ma, gm_173⟩
theorem lk_Ma_39 : g_Fl R_Ma 39 8 6 R_Ma T_Ma 15 := ⟨rfl, by decide, uw_Ma, gm_174⟩
theorem lk_Ma_61 : g_Fl R_Ma 61 8 7 R_Ma T_Ma 15 := ⟨rfl, by decide, uw_Ma, gm_175⟩
theorem lk_Ma_42 : g_Fl R_Ma 42 8 8 R_Ma T_Ma 15 := ⟨rfl, by decide, uw_Ma, gm_176⟩
theorem lk_Ma_64 : g_Fl R_Ma 64 8 9 R_Ma T_Ma 15 := ⟨rfl, by decide, uw_Ma, gm_177⟩
theorem lk_Ma_45 : g_Fl R_Ma 45 8 10 R_Ma T_Ma 15 := ⟨rfl, by decide, uw_Ma, gm_178⟩
theorem lk_Ma_51 : g_Fl R_Ma 51 8 11 R_Ma T_Ma 15 := ⟨rfl, by decide, uw_Ma, gm_179⟩
theorem lk_Ma_67 : g_Fl R_Ma 67 8 12 R_Ma T_Ma 15 := ⟨rfl, by decide, uw_Ma, gm_180⟩
theorem lk_Ma_48 : g_Fl R_Ma 48 8 13 R_Ma T_Ma 15 := ⟨rfl, by decide, uw_Ma, gm_181⟩
theorem lk_Ma_55 : g_Fl R_Ma 55 8 14 R_Ma T_Ma 15 := ⟨rfl, by decide, uw_Ma, gm_182⟩
theorem lk_Fu_14 : g_Fl R_Fu 14 0 0 R_Fu T_Fu 10 := ⟨rfl, by decide, uw_Fu, gm_198⟩
theorem lk_Fu_18 : g_Fl R_Fu 18 0 1 R_Fu T_Fu 10 := ⟨rfl, by decide, uw_Fu, gm_199⟩
theorem lk_Fu_24 : g_Fl R_Fu 24 0 2 R_Fu T_Fu 10 := ⟨rfl, by decide, uw_Fu, gm_200⟩
theorem lk_Fu_33 : g_Fl R_Fu 33 0 3 R_Fu T_Fu 10 := ⟨rfl, by decide, uw_Fu, gm_201⟩
theorem lk_Fu_42 : g_Fl R_Fu 42 0 4 R_Fu T_Fu 10 := ⟨rfl, by decide, uw_Fu, gm_202⟩
theorem lk_Fu_49 : g_Fl R_Fu 49 0 5 R_Fu T_Fu 10 := ⟨rfl, by decide, uw_Fu, gm_203⟩
theorem lk_Fu_58 : g_Fl R_Fu 58 0 6 R_Fu T_Fu 10 := ⟨rfl, by decide, uw_Fu, gm_204⟩
theorem lk_Fu_65 : g_Fl R_Fu 65 0 7 R_Fu T_Fu 10 := ⟨rfl, by decide, uw_Fu, gm_205⟩
theorem lk_Fu_69 : g_Fl R_Fu 69 0 8 R_Fu T_Fu 10 := ⟨rfl, by decide, uw_Fu, gm_206⟩
theorem lk_Fu_146 : g_Fl R_Fu 146 0 9 R_Fu T_Fu 10 := ⟨rfl, by decide, uw_Fu, gm_207⟩
theorem lk_Mo_116 : g_Fl R_Mo 116 9 0 R_Mo T_Mo 45 := ⟨rfl, by decide, uw_Mo, gm_695⟩
theorem lk_Mo_7 : g_Fl R_Mo 7 9 1 R_Mo T_Mo 45 := ⟨rfl, by decide, uw_Mo, gm_696⟩
theorem lk_Mo_13 : g_Fl R_Mo 13 9 2 R_Mo T_Mo 45 := ⟨rfl, by decide, uw_Mo, gm_697⟩
theorem lk_Mo_16 : g_Fl R_Mo 16 9 3 R_Mo T_Mo 45 := ⟨rfl, by decide, uw_Mo, gm_698⟩
theorem lk_Mo_127 : g_Fl R_Mo 127 9 4 R_Mo T_Mo 45 := ⟨rfl, by decide, uw_Mo, gm_699⟩
theorem lk_Mo_19 : g_Fl R_Mo 19 9 5 R_Mo T_Mo 45 := ⟨rfl, by decide, uw_Mo, gm_700⟩
theorem lk_Mo_22 : g_Fl R_Mo 22 9 6 R_Mo T_Mo 45 := ⟨rfl, by decide, uw_Mo, gm_701⟩
theorem lk_Mo_25 : g_Fl R_Mo 25 9 7 R_Mo T_Mo 45 := ⟨rfl, by decide, uw_Mo, gm_702⟩
theorem lk_Mo_130 : g_Fl R_Mo 130 9 8 R_Mo T_Mo 45 := ⟨rfl, by decide, uw_Mo, gm_703⟩
theorem lk_Mo_28 : g_Fl R_Mo 28 9 9 R_Mo T_Mo 45 := ⟨rfl, by decide, uw_Mo, gm_704⟩
theorem lk_Mo_31 : g_Fl R_Mo 31 9 10 R_Mo T_Mo 45 := ⟨rfl, by decide, uw_Mo, gm_705⟩
theorem lk_Mo_34 : g_Fl R_Mo 34 9 11 R_Mo T_Mo 45 := ⟨rfl, by decide, uw_Mo, gm_706⟩
theorem lk_Mo_37 : g_Fl R_Mo 37 9 12 R_Mo T_Mo 45 := ⟨rfl, by decide, uw_Mo, gm_707⟩
theorem lk_Mo_166 : g_Fl R_Mo 166 9 13 R_Mo T_Mo 45 := ⟨rfl, by decide, uw_Mo, gm_708⟩
theorem lk_Mo_40 : g_Fl R_Mo 40 9 14 R_Mo T_Mo 45 := ⟨rfl, by decide, uw_Mo, gm_709⟩
theorem lk_Mo_43 : g_Fl R_Mo 43 9 15 R_Mo T_Mo 45 := ⟨rfl, by decide, uw_Mo, gm_710⟩
theorem lk_Mo_46 : g_Fl R_Mo 46 9 16 R_Mo T_Mo 45 := ⟨rfl, by decide, uw_Mo, gm_711⟩
theorem lk_Mo_123 : g_Fl R_Mo 123 9 17 R_Mo T_Mo 45 := ⟨rfl, by decide, uw_Mo, gm_712⟩
theorem lk_Mo_192 : g_Fl R_Mo 192 9 18 R_Mo T_Mo 45 := ⟨rfl, by decide, uw_Mo, gm_713⟩
theorem lk_Mo_49 : g_Fl R_Mo 49 9 19 R_Mo T_Mo 45 := ⟨rfl, by decide, uw_Mo, gm_714⟩
theorem lk_Mo_52 : g_Fl R_Mo 52 9 20 R_Mo T_Mo 45 := ⟨rfl, by decide, uw_Mo, gm_715⟩
theorem lk_Mo_55 : g_Fl R_Mo 55 9 21 R_Mo T_Mo 45 := ⟨rfl, by decide, uw_Mo, gm_716⟩
theorem lk_Mo_141 : g_Fl R_Mo 141 9 22 R_Mo T_Mo 45 := ⟨rfl, by decide, uw_Mo, gm_717⟩
theorem lk_Mo_58 : g_Fl R_Mo 58 9 23 R_Mo T_Mo 45 := ⟨rfl, by decide, uw_Mo, gm_718⟩
theorem lk_Mo_61 : g_Fl R_Mo 61 9 24 R_Mo T_Mo 45 := ⟨rfl, by decide, uw_Mo, gm_719⟩
theorem lk_Mo_64 : g_Fl R_Mo 64 9 25 R_Mo T_Mo 45 := ⟨rfl, by decide, uw_Mo, gm_720⟩
theorem lk_Mo_68 : g_Fl R_Mo 68 9 26 R_Mo T_Mo 45 := ⟨rfl, by decide, uw_Mo, gm_721⟩
theorem lk_Mo_71 : g_Fl R_Mo 71 9 27 R_Mo T_Mo 45 := ⟨rfl, by decide, uw_Mo, gm_722⟩
theorem lk_Mo_74 : g_Fl R_Mo 74 9 28 R_Mo T_Mo 45 := ⟨rfl, by decide, uw_Mo, gm_723⟩
theorem lk_Mo_237 : g_Fl R_Mo 237 9 29 R_Mo T_Mo 45 := ⟨rfl, by decide, uw_Mo, gm_724⟩
theorem lk_Mo_77 : g_Fl R_Mo 77 9 30 R_Mo T_Mo 45 := ⟨rfl, by decide, uw_Mo, gm_725⟩
theorem lk_Mo_80 : g_Fl R_Mo 80 9 31 R_Mo T_Mo 45 := ⟨rfl, by decide, uw_Mo, gm_726⟩
theorem lk_Mo_83 : g_Fl R_Mo 83 9 32 R_Mo T_Mo 45 := ⟨rfl, by decide, uw_Mo, gm_727⟩
theorem lk_Mo_256 : g_Fl R_Mo 256 9 33 R_Mo T_Mo 45 := ⟨rfl, by decide, uw_Mo, gm_728⟩
theorem lk_Mo_243 : g_Fl R_Mo 243 9 34 R_Mo T_Mo 45 := ⟨rfl, by decide, uw_Mo, gm_729⟩
theorem lk_Mo_231 : g_Fl R_Mo 231 9 35 R_Mo T_Mo 45 := ⟨rfl, by decide, uw_Mo, gm_730⟩
theorem lk_Mo_86 : g_Fl R_Mo 86 9 36 R_Mo T_Mo 45 := ⟨rfl, by decide, uw_Mo, gm_731⟩
theorem lk_Mo_89 : g_Fl R_Mo 89 9 37 R_Mo T_Mo 45 := ⟨rfl, by decide, uw_Mo, gm_732⟩
theorem lk_Mo_234 : g_Fl R_Mo 234 9 38 R_Mo T_Mo 45 := ⟨rfl, by decide, uw_Mo, gm_733⟩
theorem lk_Mo_92 : g_Fl R_Mo 92 9 39 R_Mo T_Mo 45 := ⟨rfl, by decide, uw_Mo, gm_734⟩
theorem lk_Mo_95 : g_Fl R_Mo 95 9 40 R_Mo T_Mo 45 := ⟨rfl, by decide, uw_Mo, gm_735⟩
theorem lk_Mo_98 : g_Fl R_Mo 98 9 41 R_Mo T_Mo 45 := ⟨rfl, by decide, uw_Mo, gm_736⟩
theorem lk_Mo_262 : g_Fl R_Mo 262 9 42 R_Mo T_Mo 45 := ⟨rfl, by decide, uw_Mo, gm_737⟩
theorem lk_Mo_101 : g_Fl R_Mo 101 9 43 R_Mo T_Mo 45 := ⟨rfl, by decide, uw_Mo, gm_738⟩
theorem lk_Mo_104 : g_Fl R_Mo 104 9 44 R_Mo T_Mo 45 := ⟨rfl, by decide, uw_Mo, gm_739⟩
theorem cl_La_45 : g_CI R_La 45 y_Fu_init (Cond.code y_Fu_init b_Fu_init 1 none :: gw) 0 1 := ⟨⟨_, _, rfl⟩, g_gd (g_cons gm_16), ⟨by decide +kernel, by decide +kernel, by decide +kernel⟩, gm_1, gm_14, gm_15, rfl⟩
theorem cl_Fu_11 : g_CI R_Fu 11 y_Sg_init (Cond.code y_Sg_init b_Sg_init 2 none :: gw) 1 2 := ⟨⟨_, _, rfl⟩, g_gd (g_cons gm_24), ⟨by decide +kernel, by decide +kernel, by decide +kernel⟩, gm_2, gm_22, gm_23, rfl⟩
theorem cl_Fu_23 : g_CI R_Fu 23 y_Te_init (Cond.code y_Te_init b_Te_init 1 none :: gw) 0 1 := ⟨⟨_, _, rfl⟩, g_gd (g_cons gm_41), ⟨by decide +kernel, by decide +kernel, by decide +kernel⟩, gm_3, gm_39, gm_40, rfl⟩
theorem cl_Fu_30 : g_CI R_Fu 30 y_Cl_init (Cond.code y_Cl_init b_Cl_init 3 none :: gw) 2 3 := ⟨⟨_, _, rfl⟩, g_gd (g_cons gm_68), ⟨by decide +kernel, by decide +kernel, by decide +kernel⟩, gm_4, gm_66, gm_67, rfl⟩
theorem cl_Fu_39 : g_CI R_Fu 39 y_Ty_init (Cond.code y_Ty_init b_Ty_init 5 none :: gw) 4 5 := ⟨⟨_, _, rfl⟩, g_gd (g_cons gm_90), ⟨by decide +kernel, by decide +kernel, by decide +kernel⟩, gm_5, gm_88, gm_89, rfl⟩
theorem cl_Fu_48 : g_CI R_Fu 48 y_Co_init (Cond.code y_Co_init b_Co_init 5 none :: gw) 4 5 := ⟨⟨_, _, rfl⟩, g_gd (g_cons gm_106), ⟨by decide +kernel, by decide +kernel, by decide +kernel⟩, gm_6, gm_104, gm_105, rfl⟩
theorem cl_Fu_55 : g_CI R_Fu 55 y_En_init (Cond.code y_En_init b_En_init 4 none :: gw) 3 4 := ⟨⟨_, _, rfl⟩, g_gd (g_cons gm_124), ⟨by decide +kernel, by decide +kernel, by decide +kernel⟩, gm_7, gm_122, gm_123, rfl⟩
theorem cl_Fu_64 : g_CI R_Fu 64 y_Ma_init (Cond.code y_Ma_init b_Ma_init 5 none :: gw) 4 5 := ⟨⟨_, _, rfl⟩, g_gd (g_cons gm_148), ⟨by decide +kernel, by decide +kernel, by decide +kernel⟩, gm_8, gm_146, gm_147, rfl⟩
theorem cl_Ma_25 : g_CI R_Ma 25 y_Va_init (Cond.code y_Va_init b_Va_init 3 none :: gw) 2 3 := ⟨⟨_, _, rfl⟩, g_gd (g_cons gm_154), ⟨by decide +kernel, by decide +kernel, by decide +kernel⟩, gm_9, gm_152, gm_153, rfl⟩
theorem cl_La_76 : g_CV R_La 76 y_Fu_check (Cond.code y_Fu_check b_Fu_check 1 (some .int) :: gw) 0 1 0 := g_cv (T := T_Fu) (N := 10) gm_218 gm_219 gm_220 gm_1 gm_221 ⟨by decide +kernel, by decide +kernel, by decide +kernel⟩ rfl
theorem cl_Fu_142 : g_CV R_Fu 142 y_Fu_findWhatIsWrong (Cond.code y_Fu_findWhatIsWrong b_Fu_findWhatIsWrong 1 (some .int) :: gw) 0 1 0 := g_cv (T := T_Fu) (N := 10) gm_222 gm_223 gm_954 gm_1 gm_224 ⟨by decide +kernel, by decide +kernel, by decide +kernel⟩ rfl
theorem cl_Fu_210 : g_CV R_Fu 210 y_Ty_allInhabited (Cond.code y_Ty_allInhabited b_Ty_allInhabited 2 (some .boolean) :: gw) 0 2 4 := g_cv (T := T_Ty) (N := 5) gm_225 gm_226 gm_227 gm_5 gm_228 ⟨by decide +kernel, by decide +kernel, by decide +kernel⟩ rfl
theorem cl_Ty_30 : g_CV R_Ty 30 y_Sg_typesUsed (Cond.code y_Sg_typesUsed b_Sg_typesUsed 3 (some .int) :: gw) 0 3 1 := g_cv (T := T_Sg) (N := 5) gm_229 gm_230 gm_231 gm_2 gm_232 ⟨by decide +kernel, by decide +kernel, by decide +kernel⟩ rfl
theorem cl_Sg_36 : g_CV R_Sg 36 y_Sg_typesTaken (Cond.code y_Sg_typesTaken b_Sg_typesTaken 4 (some .int) :: gw) 1 4 1 := g_cv (T := T_Sg) (N := 5) gm_233 gm_234 gm_235 gm_2 gm_236 ⟨by decide +kernel, by decide +kernel, by decide +kernel⟩ rfl
theorem cl_Ty_36 : g_CV R_Ty 36 y_Ty_typesWithValues (Cond.code y_Ty_typesWithValues b_Ty_typesWithValues 4 (some .int) :: gw) 0 4 4 := g_cv (T := T_Ty) (N := 5) gm_237 gm_238 gm_955 gm_5 gm_239 ⟨by decide +kernel, by decide +kernel, by decide +kernel⟩ rfl
theorem cl_Ty_39 : g_CV R_Ty 39 y_Sg_howMany (Cond.code y_Sg_howMany b_Sg_howMany 1 (some .int) :: gw) 0 1 1 := g_cv (T := T_Sg) (N := 5) gm_240 gm_241 gm_242 gm_2 gm_243 ⟨by decide +kernel, by decide +kernel, by decide +kernel⟩ rfl
theorem cl_Ty_42 : g_CV R_Ty 42 y_Sg_typesTaken (Cond.code y_Sg_typesTaken b_Sg_typesTaken 4 (some .int) :: gw) 1 4 1 := g_cv (T := T_Sg) (N := 5) gm_244 gm_234 gm_235 gm_2 gm_236 ⟨by decide +kernel, by decide +kernel, by decide +kernel⟩ rfl
theorem cl_Ty_46 : g_CV R_Ty 46 y_Sg_type (Cond.code y_Sg_type b_Sg_type 2 (some .int) :: gw) 1 2 1 := g_cv (T := T_Sg) (N := 5) gm_245 gm_246 gm_247 gm_2 gm_248 ⟨by decide +kernel, by decide +kernel, by decide +kernel⟩ rfl
theorem cl_Fu_213 : g_CV R_Fu 213 y_Ty_allTyped (Cond.code y_Ty_allTyped b_Ty_allTyped 2 (some .boolean) :: gw) 0 2 4 := g_cv (T := T_Ty) (N := 5) gm_249 gm_250 gm_251 gm_5 gm_252 ⟨by decide +kernel, by decide +kernel, by decide +kernel⟩ rfl
theorem cl_Ty_49 : g_CV R_Ty 49 y_Cl_howMany (Cond.code y_Cl_howMany b_Cl_howMany 1 (some .int) :: gw) 0 1 3 := g_cv (T := T_Cl) (N := 8) gm_253 gm_254 gm_255 gm_4 gm_256 ⟨by decide +kernel, by decide +kernel, by decide +kernel⟩ rfl
theorem cl_Ty_52 : g_CV R_Ty 52 y_Ty_isTyped (Cond.code y_Ty_isTyped b_Ty_isTyped 4 (some .boolean) :: gw) 1 4 4 := g_cv (T := T_Ty) (N := 5) gm_257 gm_258 gm_956 gm_5 gm_259 ⟨by decide +kernel, by decide +kernel, by decide +kernel⟩ rfl
theorem cl_Ty_56 : g_CV R_Ty 56 y_Cl_owner (Cond.code y_Cl_owner b_Cl_owner 2 (some .int) :: gw) 1 2 3 := g_cv (T := T_Cl) (N := 8) gm_260 gm_261 gm_262 gm_4 gm_263 ⟨by decide +kernel, by decide +kernel, by decide +kernel⟩ rfl
theorem cl_Ty_59 : g_CV R_Ty 59 y_Sg_width (Cond.code y_Sg_width b_Sg_width 2 (some .int) :: gw) 1 2 1 := g_cv (T := T_Sg) (N := 5) gm_264 gm_265 gm_266 gm_2 gm_267 ⟨by decide +kernel, by decide +kernel, by decide +kernel⟩ rfl
theorem cl_Ty_62 : g_CV R_Ty 62 y_Cl_pattern (Cond.code y_Cl_pattern b_Cl_pattern 3 (some .int) :: gw) 2 3 3 := g_cv (T := T_Cl) (N := 8) gm_268 gm_269 gm_270 gm_4 gm_271 ⟨by decide +kernel, by decide +kernel, by decide +kernel⟩ rfl
theorem cl_Ty_66 : g_CV R_Ty 66 y_Sg_placeType (Cond.code y_Sg_placeType b_Sg_placeType 3 (some .int) :: gw) 2 3 1 := g_cv (T := T_Sg) (N := 5) gm_272 gm_273 gm_274 gm_2 gm_275 ⟨by decide +kernel, by decide +kernel, by decide +kernel⟩ rfl
theorem cl_Ty_69 : g_CV R_Ty 69 y_Ty_isPatternOfType (Cond.code y_Ty_isPatternOfType b_Ty_isPatternOfType 5 (some .boolean) :: gw) 2 5 4 := g_cv (T := T_Ty) (N := 5) gm_276 gm_277 gm_957 gm_5 gm_278 ⟨by decide +kernel, by decide +kernel, by decide +kernel⟩ rfl
theorem cl_Ty_79 : g_CV R_Ty 79 y_Te_isVariable (Cond.code y_Te_isVariable b_Te_isVariable 2 (some .boolean) :: gw) 1 2 2 := g_cv (T := T_Te) (N := 10) gm_279 gm_280 gm_281 gm_3 gm_282 ⟨by decide +kernel, by decide +kernel, by decide +kernel⟩ rfl
theorem cl_Ty_84 : g_CV R_Ty 84 y_Te_head (Cond.code y_Te_head b_Te_head 2 (some .int) :: gw) 1 2 2 := g_cv (T := T_Te) (N := 10) gm_283 gm_284 gm_285 gm_3 gm_286 ⟨by decide +kernel, by decide +kernel, by decide +kernel⟩ rfl
theorem cl_Ty_87 : g_CV R_Ty 87 y_Te_width (Cond.code y_Te_width b_Te_width 2 (some .int) :: gw) 1 2 2 := g_cv (T := T_Te) (N := 10) gm_287 gm_288 gm_289 gm_3 gm_290 ⟨by decide +kernel, by decide +kernel, by decide +kernel⟩ rfl
theorem cl_Ty_88 : g_CV R_Ty 88 y_Te_part (Cond.code y_Te_part b_Te_part 3 (some .int) :: gw) 2 3 2 := g_cv (T := T_Te) (N := 10) gm_291 gm_292 gm_293 gm_3 gm_294 ⟨by decide +kernel, by decide +kernel, by decide +kernel⟩ rfl
theorem cl_Ty_73 : g_CV R_Ty 73 y_Cl_body (Cond.code y_Cl_body b_Cl_body 2 (some .int) :: gw) 1 2 3 := g_cv (T := T_Cl) (N := 8) gm_295 gm_296 gm_297 gm_4 gm_298 ⟨by decide +kernel, by decide +kernel, by decide +kernel⟩ rfl
theorem cl_Ty_76 : g_CV R_Ty 76 y_Ty_isOfType (Cond.code y_Ty_isOfType b_Ty_isOfType 6 (some .boolean) :: gw) 2 6 4 := g_cv (T := T_Ty) (N := 5) gm_299 gm_300 gm_958 gm_5 gm_301 ⟨by decide +kernel, by decide +kernel, by decide +kernel⟩ rfl
theorem cl_Ty_94 : g_CV R_Ty 94 y_Te_isMade (Cond.code y_Te_isMade b_Te_isMade 2 (some .boolean) :: gw) 1 2 2 := g_cv (T := T_Te) (N := 10) gm_302 gm_303 gm_304 gm_3 gm_305 ⟨by decide +kernel, by decide +kernel, by decide +kernel⟩ rfl
theorem cl_Fu_216 : g_CV R_Fu 216 y_Co_allCovered (Cond.code y_Co_allCovered b_Co_allCovered 3 (some .boolean) :: gw) 0 3 5 := g_cv (T := T_Co) (N := 6) gm_306 gm_307 gm_308 gm_6 gm_309 ⟨by decide +kernel, by decide +kernel, by decide +kernel⟩ rfl
theorem cl_Co_33 : g_CV R_Co 33 y_Sg_howMany (Cond.code y_Sg_howMany b_Sg_howMany 1 (some .int) :: gw) 0 1 1 := g_cv (T := T_Sg) (N := 5) gm_310 gm_241 gm_242 gm_2 gm_243 ⟨by decide +kernel, by decide +kernel, by decide +kernel⟩ rfl
theorem cl_Co_39 : g_CV R_Co 39 y_Co_readPatterns (Cond.code y_Co_readPatterns b_Co_readPatterns 5 none :: gw) 1 5 5 := g_cv (T := T_Co) (N := 6) gm_311 gm_312 gm_959 gm_6 gm_313 ⟨by decide +kernel, by decide +kernel, by decide +kernel⟩ rfl
theorem cl_Co_47 : g_CV R_Co 47 y_Cl_howManyOf (Cond.code y_Cl_howManyOf b_Cl_howManyOf 2 (some .int) :: gw) 1 2 3 := g_cv (T := T_Cl) (N := 8) gm_314 gm_315 gm_316 gm_4 gm_317 ⟨by decide +kernel, by decide +kernel, by decide +kernel⟩ rfl
theorem cl_Co_53 : g_CV R_Co 53 y_Cl_ofFunction (Cond.code y_Cl_ofFunction b_Cl_ofFunction 3 (some .int) :: gw) 2 3 3 := g_cv (T := T_Cl) (N := 8) gm_318 gm_319 gm_320 gm_4 gm_321 ⟨by decide +kernel, by decide +kernel, by decide +kernel⟩ rfl
theorem cl_Co_57 : g_CV R_Co 57 y_Sg_width (Cond.code y_Sg_width b_Sg_width 2 (some .int) :: gw) 1 2 1 := g_cv (T := T_Sg) (N := 5) gm_322 gm_265 gm_266 gm_2 gm_267 ⟨by decide +kernel, by decide +kernel, by decide +kernel⟩ rfl
theorem cl_Co_60 : g_CV R_Co 60 y_Cl_pattern (Cond.code y_Cl_pattern b_Cl_pattern 3 (some .int) :: gw) 2 3 3 := g_cv (T := T_Cl) (N := 8) gm_323 gm_269 gm_270 gm_4 gm_271 ⟨by decide +kernel, by decide +kernel, by decide +kernel⟩ rfl
theorem cl_Co_63 : g_CV R_Co 63 y_Co_readPattern (Cond.code y_Co_readPattern b_Co_readPattern 5 none :: gw) 2 5 5 := g_cv (T := T_Co) (N := 6) gm_324 gm_325 gm_960 gm_6 gm_326 ⟨by decide +kernel, by decide +kernel, by decide +kernel⟩ rfl
theorem cl_Co_67 : g_CV R_Co 67 y_Te_isMade (Cond.code y_Te_isMade b_Te_isMade 2 (some .boolean) :: gw) 1 2 2 := g_cv (T := T_Te) (N := 10) gm_327 gm_303 gm_304 gm_3 gm_305 ⟨by decide +kernel, by decide +kernel, by decide +kernel⟩ rfl
theorem cl_Co_73 : g_CV R_Co 73 y_Te_head (Cond.code y_Te_head b_Te_head 2 (some .int) :: gw) 1 2 2 := g_cv (T := T_Te) (N := 10) gm_328 gm_284 gm_285 gm_3 gm_286 ⟨by decide +kernel, by decide +kernel, by decide +kernel⟩ rfl
theorem cl_Co_76 : g_CV R_Co 76 y_Te_width (Cond.code y_Te_width b_Te_width 2 (some .int) :: gw) 1 2 2 := g_cv (T := T_Te) (N := 10) gm_329 gm_288 gm_289 gm_3 gm_290 ⟨by decide +kernel, by decide +kernel, by decide +kernel⟩ rfl
theorem cl_Co_77 : g_CV R_Co 77 y_Te_part (Cond.code y_Te_part b_Te_part 3 (some .int) :: gw) 2 3 2 := g_cv (T := T_Te) (N := 10) gm_330 gm_292 gm_293 gm_3 gm_294 ⟨by decide +kernel, by decide +kernel, by decide +kernel⟩ rfl
theorem cl_Co_43 : g_CV R_Co 43 y_Co_isCovered (Cond.code y_Co_isCovered b_Co_isCovered 7 (some .boolean) :: gw) 2 7 5 := g_cv (T := T_Co) (N := 6) gm_331 gm_332 gm_961 gm_6 gm_333 ⟨by decide +kernel, by decide +kernel, by decide +kernel⟩ rfl
theorem cl_Co_80 : g_CV R_Co 80 y_Co_compare (Cond.code y_Co_compare b_Co_compare 5 (some .int) :: gw) 1 5 5 := g_cv (T := T_Co) (N := 6) gm_334 gm_335 gm_962 gm_6 gm_336 ⟨by decide +kernel, by decide +kernel, by decide +kernel⟩ rfl
theorem cl_Co_83 : g_CS R_Co 83 y_Jm_min (Cond.code y_Jm_min b_Jm_min 2 (some .int) :: gw) 2 2 := ⟨⟨_, _, _, rfl⟩, g_gd (g_cons gm_339), ⟨by decide +kernel, by decide +kernel, by decide +kernel⟩, gm_338, gm_11, gm_337⟩
theorem cl_Co_88 : g_CV R_Co 88 y_Co_isCoveredWhenSplit (Cond.code y_Co_isCoveredWhenSplit b_Co_isCoveredWhenSplit 8 (some .boolean) :: gw) 4 8 5 := g_cv (T := T_Co) (N := 6) gm_340 gm_341 gm_963 gm_6 gm_342 ⟨by decide +kernel, by decide +kernel, by decide +kernel⟩ rfl
theorem cl_Co_92 : g_CV R_Co 92 y_Co_slotType (Cond.code y_Co_slotType b_Co_slotType 6 (some .int) :: gw) 2 6 5 := g_cv (T := T_Co) (N := 6) gm_343 gm_344 gm_964 gm_6 gm_345 ⟨by decide +kernel, by decide +kernel, by decide +kernel⟩ rfl
theorem cl_Co_106 : g_CV R_Co 106 y_Sg_placeType (Cond.code y_Sg_placeType b_Sg_placeType 3 (some .int) :: gw) 2 3 1 := g_cv (T := T_Sg) (N := 5) gm_346 gm_273 gm_274 gm_2 gm_275 ⟨by decide +kernel, by decide +kernel, by decide +kernel⟩ rfl
theorem cl_Co_95 : g_CV R_Co 95 y_Co_constructorThatNoneNames (Cond.code y_Co_constructorThatNoneNames b_Co_constructorThatNoneNames 5 (some .int) :: gw) 3 5 5 := g_cv (T := T_Co) (N := 6) gm_347 gm_348 gm_965 gm_6 gm_349 ⟨by decide +kernel, by decide +kernel, by decide +kernel⟩ rfl
theorem cl_Co_99 : g_CV R_Co 99 y_Sg_type (Cond.code y_Sg_type b_Sg_type 2 (some .int) :: gw) 1 2 1 := g_cv (T := T_Sg) (N := 5) gm_350 gm_246 gm_247 gm_2 gm_248 ⟨by decide +kernel, by decide +kernel, by decide +kernel⟩ rfl
theorem cl_Co_102 : g_CV R_Co 102 y_Co_isNamed (Cond.code y_Co_isNamed b_Co_isNamed 5 (some .boolean) :: gw) 3 5 5 := g_cv (T := T_Co) (N := 6) gm_351 gm_352 gm_966 gm_6 gm_353 ⟨by decide +kernel, by decide +kernel, by decide +kernel⟩ rfl
theorem cl_Fu_219 : g_CV R_Fu 219 y_En_makeGraphs (Cond.code y_En_makeGraphs b_En_makeGraphs 3 (some .int) :: gw) 0 3 6 := g_cv (T := T_En) (N := 9) gm_354 gm_355 gm_356 gm_7 gm_357 ⟨by decide +kernel, by decide +kernel, by decide +kernel⟩ rfl
theorem cl_En_86 : g_CV R_En 86 y_Cl_howMany (Cond.code y_Cl_howMany b_Cl_howMany 1 (some .int) :: gw) 0 1 3 := g_cv (T := T_Cl) (N := 8) gm_358 gm_254 gm_255 gm_4 gm_256 ⟨by decide +kernel, by decide +kernel, by decide +kernel⟩ rfl
theorem cl_En_33 : g_CV R_En 33 y_En_collectCalls (Cond.code y_En_collectCalls b_En_collectCalls 2 none :: gw) 1 2 6 := g_cv (T := T_En) (N := 9) gm_359 gm_360 gm_967 gm_7 gm_361 ⟨by decide +kernel, by decide +kernel, by decide +kernel⟩ rfl
theorem cl_En_41 : g_CV R_En 41 y_Cl_body (Cond.code y_Cl_body b_Cl_body 2 (some .int) :: gw) 1 2 3 := g_cv (T := T_Cl) (N := 8) gm_362 gm_296 gm_297 gm_4 gm_298 ⟨by decide +kernel, by decide +kernel, by decide +kernel⟩ rfl
theorem cl_En_47 : g_CV R_En 47 y_En_collectCallsIn (Cond.code y_En_collectCallsIn b_En_collectCallsIn 3 none :: gw) 1 3 6 := g_cv (T := T_En) (N := 9) gm_363 gm_364 gm_968 gm_7 gm_365 ⟨by decide +kernel, by decide +kernel, by decide +kernel⟩ rfl
theorem cl_En_50 : g_CV R_En 50 y_Te_isCalled (Cond.code y_Te_isCalled b_Te_isCalled 2 (some .boolean) :: gw) 1 2 2 := g_cv (T := T_Te) (N := 10) gm_366 gm_367 gm_368 gm_3 gm_369 ⟨by decide +kernel, by decide +kernel, by decide +kernel⟩ rfl
theorem cl_En_56 : g_CV R_En 56 y_Te_width (Cond.code y_Te_width b_Te_width 2 (some .int) :: gw) 1 2 2 := g_cv (T := T_Te) (N := 10) gm_370 gm_288 gm_289 gm_3 gm_290 ⟨by decide +kernel, by decide +kernel, by decide +kernel⟩ rfl
theorem cl_En_59 : g_CV R_En 59 y_Te_part (Cond.code y_Te_part b_Te_part 3 (some .int) :: gw) 2 3 2 := g_cv (T := T_Te) (N := 10) gm_371 gm_292 gm_293 gm_3 gm_294 ⟨by decide +kernel, by decide +kernel, by decide +kernel⟩ rfl
theorem cl_En_90 : g_CV R_En 90 y_En_graphOf (Cond.code y_En_graphOf b_En_graphOf 10 (some .int) :: gw) 2 10 6 := g_cv (T := T_En) (N := 9) gm_372 gm_373 gm_969 gm_7 gm_374 ⟨by decide +kernel, by decide +kernel, by decide +kernel⟩ rfl
theorem cl_En_108 : g_CV R_En 108 y_Cl_owner (Cond.code y_Cl_owner b_Cl_owner 2 (some .int) :: gw) 1 2 3 := g_cv (T := T_Cl) (N := 8) gm_375 gm_261 gm_262 gm_4 gm_263 ⟨by decide +kernel, by decide +kernel, by decide +kernel⟩ rfl
theorem cl_En_111 : g_CV R_En 111 y_Sg_width (Cond.code y_Sg_width b_Sg_width 2 (some .int) :: gw) 1 2 1 := g_cv (T := T_Sg) (N := 5) gm_376 gm_265 gm_266 gm_2 gm_267 ⟨by decide +kernel, by decide +kernel, by decide +kernel⟩ rfl
theorem cl_En_114 : g_CV R_En 114 y_Cl_pattern (Cond.code y_Cl_pattern b_Cl_pattern 3 (some .int) :: gw) 2 3 3 := g_cv (T := T_Cl) (N := 8) gm_377 gm_269 gm_270 gm_4 gm_271 ⟨by decide +kernel, by decide +kernel, by decide +kernel⟩ rfl
theorem cl_En_117 : g_CV R_En 117 y_En_arcBetween (Cond.code y_En_arcBetween b_En_arcBetween 3 (some .int) :: gw) 2 3 6 := g_cv (T := T_En) (N := 9) gm_378 gm_379 gm_380 gm_7 gm_381 ⟨by decide +kernel, by decide +kernel, by decide +kernel⟩ rfl
theorem cl_En_63 : g_CV R_En 63 y_En_isSame (Cond.code y_En_isSame b_En_isSame 4 (some .boolean) :: gw) 2 4 6 := g_cv (T := T_En) (N := 9) gm_382 gm_383 gm_970 gm_7 gm_384 ⟨by decide +kernel, by decide +kernel, by decide +kernel⟩ rfl
theorem cl_En_70 : g_CV R_En 70 y_Te_isVariable (Cond.code y_Te_isVariable b_Te_isVariable 2 (some .boolean) :: gw) 1 2 2 := g_cv (T := T_Te) (N := 10) gm_385 gm_280 gm_281 gm_3 gm_282 ⟨by decide +kernel, by decide +kernel, by decide +kernel⟩ rfl
theorem cl_En_73 : g_CV R_En 73 y_Te_head (Cond.code y_Te_head b_Te_head 2 (some .int) :: gw) 1 2 2 := g_cv (T := T_Te) (N := 10) gm_386 gm_284 gm_285 gm_3 gm_286 ⟨by decide +kernel, by decide +kernel, by decide +kernel⟩ rfl
theorem cl_En_76 : g_CV R_En 76 y_Te_isMade (Cond.code y_Te_isMade b_Te_isMade 2 (some .boolean) :: gw) 1 2 2 := g_cv (T := T_Te) (N := 10) gm_387 gm_303 gm_304 gm_3 gm_305 ⟨by decide +kernel, by decide +kernel, by decide +kernel⟩ rfl
theorem cl_En_67 : g_CV R_En 67 y_En_isInside (Cond.code y_En_isInside b_En_isInside 5 (some .boolean) :: gw) 2 5 6 := g_cv (T := T_En) (N := 9) gm_388 gm_389 gm_971 gm_7 gm_390 ⟨by decide +kernel, by decide +kernel, by decide +kernel⟩ rfl
theorem cl_En_120 : g_CS R_En 120 y_En_code (Cond.code y_En_code b_En_code 5 (some .int) :: gw) 4 5 := ⟨⟨_, _, _, rfl⟩, g_gd (g_cons gm_393), ⟨by decide +kernel, by decide +kernel, by decide +kernel⟩, gm_392, gm_7, gm_391⟩
theorem cl_En_93 : g_CV R_En 93 y_En_addGraph (Cond.code y_En_addGraph b_En_addGraph 4 none :: gw) 1 4 6 := g_cv (T := T_En) (N := 9) gm_394 gm_395 gm_972 gm_7 gm_396 ⟨by decide +kernel, by decide +kernel, by decide +kernel⟩ rfl
theorem cl_En_96 : g_CV R_En 96 y_En_addCompositions (Cond.code y_En_addCompositions b_En_addCompositions 4 none :: gw) 1 4 6 := g_cv (T := T_En) (N := 9) gm_398 gm_399 gm_973 gm_7 gm_400 ⟨by decide +kernel, by decide +kernel, by decide +kernel⟩ rfl
theorem cl_En_99 : g_CS R_En 99 y_En_to (Cond.code y_En_to b_En_to 1 (some .int) :: gw) 1 1 := ⟨⟨_, _, _, rfl⟩, g_gd (g_cons gm_403), ⟨by decide +kernel, by decide +kernel, by decide +kernel⟩, gm_402, gm_7, gm_401⟩
theorem cl_En_102 : g_CS R_En 102 y_En_from (Cond.code y_En_from b_En_from 1 (some .int) :: gw) 1 1 := ⟨⟨_, _, _, rfl⟩, g_gd (g_cons gm_406), ⟨by decide +kernel, by decide +kernel, by decide +kernel⟩, gm_405, gm_7, gm_404⟩
theorem cl_En_105 : g_CS R_En 105 y_En_compose (Cond.code y_En_compose b_En_compose 9 (some .int) :: gw) 2 9 := ⟨⟨_, _, _, rfl⟩, g_gd (g_cons gm_409), ⟨by decide +kernel, by decide +kernel, by decide +kernel⟩, gm_408, gm_7, gm_407⟩
theorem cl_En_125 : g_CS R_En 125 y_En_arcs (Cond.code y_En_arcs b_En_arcs 1 (some .int) :: gw) 1 1 := ⟨⟨_, _, _, rfl⟩, g_gd (g_cons gm_412), ⟨by decide +kernel, by decide +kernel, by decide +kernel⟩, gm_411, gm_7, gm_410⟩
theorem cl_En_128 : g_CS R_En 128 y_En_strict (Cond.code y_En_strict b_En_strict 1 (some .int) :: gw) 1 1 := ⟨⟨_, _, _, rfl⟩, g_gd (g_cons gm_415), ⟨by decide +kernel, by decide +kernel, by decide +kernel⟩, gm_414, gm_7, gm_413⟩
theorem cl_Fu_222 : g_CV R_Fu 222 y_En_allEnd (Cond.code y_En_allEnd b_En_allEnd 3 (some .boolean) :: gw) 0 3 6 := g_cv (T := T_En) (N := 9) gm_416 gm_417 gm_418 gm_7 gm_419 ⟨by decide +kernel, by decide +kernel, by decide +kernel⟩ rfl
theorem cl_La_80 : g_CV R_La 80 y_Fu_graphs (Cond.code y_Fu_graphs b_Fu_graphs 1 (some .int) :: gw) 0 1 0 := g_cv (T := T_Fu) (N := 10) gm_420 gm_421 gm_422 gm_1 gm_423 ⟨by decide +kernel, by decide +kernel, by decide +kernel⟩ rfl
theorem cl_La_87 : g_CV R_La 87 y_Fu_isValue (Cond.code y_Fu_isValue b_Fu_isValue 3 (some .boolean) :: gw) 2 3 0 := g_cv (T := T_Fu) (N := 10) gm_424 gm_425 gm_426 gm_1 gm_427 ⟨by decide +kernel, by decide +kernel, by decide +kernel⟩ rfl
theorem cl_Fu_173 : g_CS R_Fu 173 y_Fu_isType (Cond.code y_Fu_isType b_Fu_isType 1 (some .boolean) :: gw) 1 1 := ⟨⟨_, _, _, rfl⟩, g_gd (g_cons gm_430), ⟨by decide +kernel, by decide +kernel, by decide +kernel⟩, gm_429, gm_1, gm_428⟩
theorem cl_Fu_176 : g_CV R_Fu 176 y_Te_has (Cond.code y_Te_has b_Te_has 2 (some .boolean) :: gw) 1 2 2 := g_cv (T := T_Te) (N := 10) gm_431 gm_432 gm_433 gm_3 gm_434 ⟨by decide +kernel, by decide +kernel, by decide +kernel⟩ rfl
theorem cl_Fu_177 : g_CV R_Fu 177 y_Ty_isClosedOfType (Cond.code y_Ty_isClosedOfType b_Ty_isClosedOfType 3 (some .boolean) :: gw) 2 3 4 := g_cv (T := T_Ty) (N := 5) gm_435 gm_436 gm_437 gm_5 gm_438 ⟨by decide +kernel, by decide +kernel, by decide +kernel⟩ rfl
theorem cl_Ty_91 : g_CV R_Ty 91 y_Te_isClosed (Cond.code y_Te_isClosed b_Te_isClosed 2 (some .boolean) :: gw) 1 2 2 := g_cv (T := T_Te) (N := 10) gm_439 gm_440 gm_441 gm_3 gm_442 ⟨by decide +kernel, by decide +kernel, by decide +kernel⟩ rfl
theorem cl_La_98 : g_CV R_La 98 y_Fu_count (Cond.code y_Fu_count b_Fu_count 2 (some .int) :: gw) 1 2 0 := g_cv (T := T_Fu) (N := 10) gm_443 gm_444 gm_445 gm_1 gm_446 ⟨by decide +kernel, by decide +kernel, by decide +kernel⟩ rfl
theorem cl_Fu_202 : g_CV R_Fu 202 y_Ma_steps (Cond.code y_Ma_steps b_Ma_steps 1 (some .int) :: gw) 0 1 8 := g_cv (T := T_Ma) (N := 15) gm_447 gm_448 gm_449 gm_8 gm_450 ⟨by decide +kernel, by decide +kernel, by decide +kernel⟩ rfl
theorem cl_Fu_205 : g_CV R_Fu 205 y_Sg_howMany (Cond.code y_Sg_howMany b_Sg_howMany 1 (some .int) :: gw) 0 1 1 := g_cv (T := T_Sg) (N := 5) gm_451 gm_241 gm_242 gm_2 gm_243 ⟨by decide +kernel, by decide +kernel, by decide +kernel⟩ rfl
theorem cl_Fu_208 : g_CV R_Fu 208 y_Te_howMany (Cond.code y_Te_howMany b_Te_howMany 1 (some .int) :: gw) 0 1 2 := g_cv (T := T_Te) (N := 10) gm_452 gm_453 gm_454 gm_3 gm_455 ⟨by decide +kernel, by decide +kernel, by decide +kernel⟩ rfl
theorem cl_Fu_209 : g_CV R_Fu 209 y_Cl_howMany (Cond.code y_Cl_howMany b_Cl_howMany 1 (some .int) :: gw) 0 1 3 := g_cv (T := T_Cl) (N := 8) gm_456 gm_254 gm_255 gm_4 gm_256 ⟨by decide +kernel, by decide +kernel, by decide +kernel⟩ rfl
theorem cl_La_7 : g_CV R_La 7 y_Fu_constructor (Cond.code y_Fu_constructor b_Fu_constructor 5 (some .int) :: gw) 4 5 0 := g_cv (T := T_Fu) (N := 10) gm_461 gm_462 gm_463 gm_1 gm_464 ⟨by decide +kernel, by decide +kernel, by decide +kernel⟩ rfl
theorem cl_Fu_73 : g_CS R_Fu 73 y_Fu_areTypes (Cond.code y_Fu_areTypes b_Fu_areTypes 5 (some .boolean) :: gw) 4 5 := ⟨⟨_, _, _, rfl⟩, g_gd (g_cons gm_467), ⟨by decide +kernel, by decide +kernel, by decide +kernel⟩, gm_466, gm_1, gm_465⟩
theorem cl_Fu_234 : g_CS R_Fu 234 y_Fu_leadingPlaces (Cond.code y_Fu_leadingPlaces b_Fu_leadingPlaces 3 (some .int) :: gw) 3 3 := ⟨⟨_, _, _, rfl⟩, g_gd (g_cons gm_470), ⟨by decide +kernel, by decide +kernel, by decide +kernel⟩, gm_469, gm_1, gm_468⟩
theorem cl_Fu_225 : g_CS R_Fu 225 y_Fu_pick (Cond.code y_Fu_pick b_Fu_pick 4 (some .int) :: gw) 4 4 := ⟨⟨_, _, _, rfl⟩, g_gd (g_cons gm_473), ⟨by decide +kernel, by decide +kernel, by decide +kernel⟩, gm_472, gm_1, gm_471⟩
theorem cl_Fu_84 : g_CV R_Fu 84 y_Sg_isFull (Cond.code y_Sg_isFull b_Sg_isFull 1 (some .boolean) :: gw) 0 1 1 := g_cv (T := T_Sg) (N := 5) gm_475 gm_476 gm_477 gm_2 gm_478 ⟨by decide +kernel, by decide +kernel, by decide +kernel⟩ rfl
theorem cl_Fu_93 : g_CV R_Fu 93 y_Sg_declare (Cond.code y_Sg_declare b_Sg_declare 6 (some .int) :: gw) 4 6 1 := g_cv (T := T_Sg) (N := 5) gm_480 gm_481 gm_482 gm_2 gm_483 ⟨by decide +kernel, by decide +kernel, by decide +kernel⟩ rfl
theorem cl_Sg_28 : g_CN R_Sg 28 y_Fu_leadingPlaces (Cond.code y_Fu_leadingPlaces b_Fu_leadingPlaces 3 (some .int) :: gw) 3 3 := ⟨⟨_, _, _, rfl⟩, g_gd (g_cons gm_470), ⟨by decide +kernel, by decide +kernel, by decide +kernel⟩, gm_469, gm_1, R_Fu, List.mem_of_getElem? (i := 0) rfl⟩
theorem cl_Sg_32 : g_CN R_Sg 32 y_Fu_pick (Cond.code y_Fu_pick b_Fu_pick 4 (some .int) :: gw) 4 4 := ⟨⟨_, _, _, rfl⟩, g_gd (g_cons gm_473), ⟨by decide +kernel, by decide +kernel, by decide +kernel⟩, gm_472, gm_1, R_Fu, List.mem_of_getElem? (i := 1) rfl⟩
theorem cl_La_17 : g_CV R_La 17 y_Fu_function (Cond.code y_Fu_function b_Fu_function 5 (some .int) :: gw) 4 5 0 := g_cv (T := T_Fu) (N := 10) gm_486 gm_487 gm_488 gm_1 gm_489 ⟨by decide +kernel, by decide +kernel, by decide +kernel⟩ rfl
theorem cl_La_20 : g_CV R_La 20 y_Fu_variable (Cond.code y_Fu_variable b_Fu_variable 2 (some .int) :: gw) 1 2 0 := g_cv (T := T_Fu) (N := 10) gm_492 gm_493 gm_494 gm_1 gm_495 ⟨by decide +kernel, by decide +kernel, by decide +kernel⟩ rfl
theorem cl_Fu_101 : g_CV R_Fu 101 y_Te_isFull (Cond.code y_Te_isFull b_Te_isFull 1 (some .boolean) :: gw) 0 1 2 := g_cv (T := T_Te) (N := 10) gm_496 gm_497 gm_498 gm_3 gm_499 ⟨by decide +kernel, by decide +kernel, by decide +kernel⟩ rfl
theorem cl_Fu_104 : g_CV R_Fu 104 y_Te_addVariable (Cond.code y_Te_addVariable b_Te_addVariable 2 (some .int) :: gw) 1 2 2 := g_cv (T := T_Te) (N := 10) gm_500 gm_501 gm_502 gm_3 gm_503 ⟨by decide +kernel, by decide +kernel, by decide +kernel⟩ rfl
theorem cl_La_24 : g_CV R_La 24 y_Fu_make (Cond.code y_Fu_make b_Fu_make 5 (some .int) :: gw) 4 5 0 := g_cv (T := T_Fu) (N := 10) gm_506 gm_507 gm_508 gm_1 gm_509 ⟨by decide +kernel, by decide +kernel, by decide +kernel⟩ rfl
theorem cl_Fu_108 : g_CV R_Fu 108 y_Sg_has (Cond.code y_Sg_has b_Sg_has 2 (some .boolean) :: gw) 1 2 1 := g_cv (T := T_Sg) (N := 5) gm_510 gm_511 gm_512 gm_2 gm_513 ⟨by decide +kernel, by decide +kernel, by decide +kernel⟩ rfl
theorem cl_Fu_112 : g_CV R_Fu 112 y_Sg_width (Cond.code y_Sg_width b_Sg_width 2 (some .int) :: gw) 1 2 1 := g_cv (T := T_Sg) (N := 5) gm_514 gm_265 gm_266 gm_2 gm_267 ⟨by decide +kernel, by decide +kernel, by decide +kernel⟩ rfl
theorem cl_Fu_115 : g_CV R_Fu 115 y_Te_canJoin (Cond.code y_Te_canJoin b_Te_canJoin 9 (some .boolean) :: gw) 4 9 2 := g_cv (T := T_Te) (N := 10) gm_515 gm_516 gm_517 gm_3 gm_518 ⟨by decide +kernel, by decide +kernel, by decide +kernel⟩ rfl
theorem cl_Te_44 : g_CN R_Te 44 y_Fu_pick (Cond.code y_Fu_pick b_Fu_pick 4 (some .int) :: gw) 4 4 := ⟨⟨_, _, _, rfl⟩, g_gd (g_cons gm_473), ⟨by decide +kernel, by decide +kernel, by decide +kernel⟩, gm_472, gm_1, R_Fu, List.mem_of_getElem? (i := 2) rfl⟩
theorem cl_Te_48 : g_CV R_Te 48 y_Te_has (Cond.code y_Te_has b_Te_has 2 (some .boolean) :: gw) 1 2 2 := g_cv (T := T_Te) (N := 10) gm_519 gm_432 gm_433 gm_3 gm_434 ⟨by decide +kernel, by decide +kernel, by decide +kernel⟩ rfl
theorem cl_Te_52 : g_CS R_Te 52 y_Jm_max (Cond.code y_Jm_max b_Jm_max 2 (some .int) :: gw) 2 2 := ⟨⟨_, _, _, rfl⟩, g_gd (g_cons gm_522), ⟨by decide +kernel, by decide +kernel, by decide +kernel⟩, gm_521, gm_11, gm_520⟩
theorem cl_Fu_120 : g_CV R_Fu 120 y_Te_addMade (Cond.code y_Te_addMade b_Te_addMade 6 (some .int) :: gw) 5 6 2 := g_cv (T := T_Te) (N := 10) gm_523 gm_524 gm_525 gm_3 gm_526 ⟨by decide +kernel, by decide +kernel, by decide +kernel⟩ rfl
theorem cl_Te_58 : g_CV R_Te 58 y_Te_join (Cond.code y_Te_join b_Te_join 10 (some .int) :: gw) 4 10 2 := g_cv (T := T_Te) (N := 10) gm_527 gm_528 gm_974 gm_3 gm_529 ⟨by decide +kernel, by decide +kernel, by decide +kernel⟩ rfl
theorem cl_La_27 : g_CV R_La 27 y_Fu_call (Cond.code y_Fu_call b_Fu_call 5 (some .int) :: gw) 4 5 0 := g_cv (T := T_Fu) (N := 10) gm_532 gm_533 gm_534 gm_1 gm_535 ⟨by decide +kernel, by decide +kernel, by decide +kernel⟩ rfl
theorem cl_Fu_126 : g_CV R_Fu 126 y_Te_addCalled (Cond.code y_Te_addCalled b_Te_addCalled 6 (some .int) :: gw) 5 6 2 := g_cv (T := T_Te) (N := 10) gm_536 gm_537 gm_538 gm_3 gm_539 ⟨by decide +kernel, by decide +kernel, by decide +kernel⟩ rfl
theorem cl_La_30 : g_CV R_La 30 y_Fu_clause (Cond.code y_Fu_clause b_Fu_clause 6 (some .int) :: gw) 5 6 0 := g_cv (T := T_Fu) (N := 10) gm_542 gm_543 gm_544 gm_1 gm_545 ⟨by decide +kernel, by decide +kernel, by decide +kernel⟩ rfl
theorem cl_Fu_129 : g_CV R_Fu 129 y_Cl_isWellFormed (Cond.code y_Cl_isWellFormed b_Cl_isWellFormed 9 (some .boolean) :: gw) 5 9 3 := g_cv (T := T_Cl) (N := 8) gm_546 gm_547 gm_548 gm_4 gm_549 ⟨by decide +kernel, by decide +kernel, by decide +kernel⟩ rfl
theorem cl_Cl_39 : g_CN R_Cl 39 y_Fu_pick (Cond.code y_Fu_pick b_Fu_pick 4 (some .int) :: gw) 4 4 := ⟨⟨_, _, _, rfl⟩, g_gd (g_cons gm_473), ⟨by decide +kernel, by decide +kernel, by decide +kernel⟩, gm_472, gm_1, R_Fu, List.mem_of_getElem? (i := 3) rfl⟩
theorem cl_Cl_43 : g_CV R_Cl 43 y_Te_has (Cond.code y_Te_has b_Te_has 2 (some .boolean) :: gw) 1 2 2 := g_cv (T := T_Te) (N := 10) gm_550 gm_432 gm_433 gm_3 gm_434 ⟨by decide +kernel, by decide +kernel, by decide +kernel⟩ rfl
theorem cl_Cl_49 : g_CV R_Cl 49 y_Te_isPattern (Cond.code y_Te_isPattern b_Te_isPattern 2 (some .boolean) :: gw) 1 2 2 := g_cv (T := T_Te) (N := 10) gm_551 gm_552 gm_553 gm_3 gm_554 ⟨by decide +kernel, by decide +kernel, by decide +kernel⟩ rfl
theorem cl_Cl_52 : g_CV R_Cl 52 y_Te_variables (Cond.code y_Te_variables b_Te_variables 2 (some .int) :: gw) 1 2 2 := g_cv (T := T_Te) (N := 10) gm_555 gm_556 gm_557 gm_3 gm_558 ⟨by decide +kernel, by decide +kernel, by decide +kernel⟩ rfl
theorem cl_Fu_135 : g_CV R_Fu 135 y_Cl_isFull (Cond.code y_Cl_isFull b_Cl_isFull 2 (some .boolean) :: gw) 1 2 3 := g_cv (T := T_Cl) (N := 8) gm_559 gm_560 gm_561 gm_4 gm_562 ⟨by decide +kernel, by decide +kernel, by decide +kernel⟩ rfl
theorem cl_Fu_139 : g_CV R_Fu 139 y_Cl_add (Cond.code y_Cl_add b_Cl_add 7 (some .int) :: gw) 5 7 3 := g_cv (T := T_Cl) (N := 8) gm_563 gm_564 gm_565 gm_4 gm_566 ⟨by decide +kernel, by decide +kernel, by decide +kernel⟩ rfl
theorem cl_Cl_56 : g_CV R_Cl 56 y_Sg_width (Cond.code y_Sg_width b_Sg_width 2 (some .int) :: gw) 1 2 1 := g_cv (T := T_Sg) (N := 5) gm_567 gm_265 gm_266 gm_2 gm_267 ⟨by decide +kernel, by decide +kernel, by decide +kernel⟩ rfl
theorem cl_La_34 : g_CV R_La 34 y_Fu_arc (Cond.code y_Fu_arc b_Fu_arc 7 (some .int) :: gw) 4 7 0 := g_cv (T := T_Fu) (N := 10) gm_570 gm_571 gm_572 gm_1 gm_573 ⟨by decide +kernel, by decide +kernel, by decide +kernel⟩ rfl
theorem cl_Fu_149 : g_CV R_Fu 149 y_Cl_has (Cond.code y_Cl_has b_Cl_has 2 (some .boolean) :: gw) 1 2 3 := g_cv (T := T_Cl) (N := 8) gm_574 gm_575 gm_576 gm_4 gm_577 ⟨by decide +kernel, by decide +kernel, by decide +kernel⟩ rfl
theorem cl_Fu_152 : g_CV R_Fu 152 y_En_callInBody (Cond.code y_En_callInBody b_En_callInBody 3 (some .int) :: gw) 2 3 6 := g_cv (T := T_En) (N := 9) gm_578 gm_579 gm_580 gm_7 gm_581 ⟨by decide +kernel, by decide +kernel, by decide +kernel⟩ rfl
theorem cl_Fu_158 : g_CV R_Fu 158 y_Cl_owner (Cond.code y_Cl_owner b_Cl_owner 2 (some .int) :: gw) 1 2 3 := g_cv (T := T_Cl) (N := 8) gm_582 gm_261 gm_262 gm_4 gm_263 ⟨by decide +kernel, by decide +kernel, by decide +kernel⟩ rfl
theorem cl_Fu_161 : g_CV R_Fu 161 y_Te_width (Cond.code y_Te_width b_Te_width 2 (some .int) :: gw) 1 2 2 := g_cv (T := T_Te) (N := 10) gm_583 gm_288 gm_289 gm_3 gm_290 ⟨by decide +kernel, by decide +kernel, by decide +kernel⟩ rfl
theorem cl_Fu_164 : g_CV R_Fu 164 y_Cl_pattern (Cond.code y_Cl_pattern b_Cl_pattern 3 (some .int) :: gw) 2 3 3 := g_cv (T := T_Cl) (N := 8) gm_584 gm_269 gm_270 gm_4 gm_271 ⟨by decide +kernel, by decide +kernel, by decide +kernel⟩ rfl
theorem cl_Fu_167 : g_CV R_Fu 167 y_Te_part (Cond.code y_Te_part b_Te_part 3 (some .int) :: gw) 2 3 2 := g_cv (T := T_Te) (N := 10) gm_585 gm_292 gm_293 gm_3 gm_294 ⟨by decide +kernel, by decide +kernel, by decide +kernel⟩ rfl
theorem cl_Fu_170 : g_CV R_Fu 170 y_En_arcBetween (Cond.code y_En_arcBetween b_En_arcBetween 3 (some .int) :: gw) 2 3 6 := g_cv (T := T_En) (N := 9) gm_586 gm_379 gm_380 gm_7 gm_381 ⟨by decide +kernel, by decide +kernel, by decide +kernel⟩ rfl
theorem cl_La_37 : g_CV R_La 37 y_Fu_run (Cond.code y_Fu_run b_Fu_run 5 (some .int) :: gw) 4 5 0 := g_cv (T := T_Fu) (N := 10) gm_589 gm_590 gm_591 gm_1 gm_592 ⟨by decide +kernel, by decide +kernel, by decide +kernel⟩ rfl
theorem cl_Fu_183 : g_CV R_Fu 183 y_Fu_areArguments (Cond.code y_Fu_areArguments b_Fu_areArguments 6 (some .boolean) :: gw) 4 6 0 := g_cv (T := T_Fu) (N := 10) gm_593 gm_594 gm_975 gm_1 gm_595 ⟨by decide +kernel, by decide +kernel, by decide +kernel⟩ rfl
theorem cl_Fu_228 : g_CV R_Fu 228 y_Sg_placeType (Cond.code y_Sg_placeType b_Sg_placeType 3 (some .int) :: gw) 2 3 1 := g_cv (T := T_Sg) (N := 5) gm_596 gm_273 gm_274 gm_2 gm_275 ⟨by decide +kernel, by decide +kernel, by decide +kernel⟩ rfl
theorem cl_Fu_231 : g_CV R_Fu 231 y_Fu_isValue (Cond.code y_Fu_isValue b_Fu_isValue 3 (some .boolean) :: gw) 2 3 0 := g_cv (T := T_Fu) (N := 10) gm_597 gm_425 gm_426 gm_1 gm_427 ⟨by decide +kernel, by decide +kernel, by decide +kernel⟩ rfl
theorem cl_Fu_188 : g_CV R_Fu 188 y_Ma_perform (Cond.code y_Ma_perform b_Ma_perform 6 (some .int) :: gw) 4 6 8 := g_cv (T := T_Ma) (N := 15) gm_598 gm_599 gm_600 gm_8 gm_601 ⟨by decide +kernel, by decide +kernel, by decide +kernel⟩ rfl
theorem cl_Ma_58 : g_CV R_Ma 58 y_Va_forgetMade (Cond.code y_Va_forgetMade b_Va_forgetMade 1 none :: gw) 0 1 7 := g_cv (T := T_Va) (N := 6) gm_602 gm_603 gm_604 gm_9 gm_605 ⟨by decide +kernel, by decide +kernel, by decide +kernel⟩ rfl
theorem cl_Ma_71 : g_CV R_Ma 71 y_Sg_width (Cond.code y_Sg_width b_Sg_width 2 (some .int) :: gw) 1 2 1 := g_cv (T := T_Sg) (N := 5) gm_606 gm_265 gm_266 gm_2 gm_267 ⟨by decide +kernel, by decide +kernel, by decide +kernel⟩ rfl
theorem cl_Ma_77 : g_CN R_Ma 77 y_Fu_pick (Cond.code y_Fu_pick b_Fu_pick 4 (some .int) :: gw) 4 4 := ⟨⟨_, _, _, rfl⟩, g_gd (g_cons gm_473), ⟨by decide +kernel, by decide +kernel, by decide +kernel⟩, gm_472, gm_1, R_Fu, List.mem_of_getElem? (i := 4) rfl⟩
theorem cl_Ma_81 : g_CV R_Ma 81 y_Ma_hold (Cond.code y_Ma_hold b_Ma_hold 2 none :: gw) 1 2 8 := g_cv (T := T_Ma) (N := 15) gm_607 gm_608 gm_976 gm_8 gm_609 ⟨by decide +kernel, by decide +kernel, by decide +kernel⟩ rfl
theorem cl_Ma_85 : g_CV R_Ma 85 y_Ma_step (Cond.code y_Ma_step b_Ma_step 6 none :: gw) 1 6 8 := g_cv (T := T_Ma) (N := 15) gm_610 gm_611 gm_977 gm_8 gm_612 ⟨by decide +kernel, by decide +kernel, by decide +kernel⟩ rfl
theorem cl_Ma_129 : g_CV R_Ma 129 y_Cl_howManyOf (Cond.code y_Cl_howManyOf b_Cl_howManyOf 2 (some .int) :: gw) 1 2 3 := g_cv (T := T_Cl) (N := 8) gm_613 gm_315 gm_316 gm_4 gm_317 ⟨by decide +kernel, by decide +kernel, by decide +kernel⟩ rfl
theorem cl_Ma_134 : g_CV R_Ma 134 y_Cl_ofFunction (Cond.code y_Cl_ofFunction b_Cl_ofFunction 3 (some .int) :: gw) 2 3 3 := g_cv (T := T_Cl) (N := 8) gm_614 gm_319 gm_320 gm_4 gm_321 ⟨by decide +kernel, by decide +kernel, by decide +kernel⟩ rfl
theorem cl_Ma_137 : g_CV R_Ma 137 y_Ma_matchesAll (Cond.code y_Ma_matchesAll b_Ma_matchesAll 5 (some .boolean) :: gw) 3 5 8 := g_cv (T := T_Ma) (N := 15) gm_615 gm_616 gm_978 gm_8 gm_617 ⟨by decide +kernel, by decide +kernel, by decide +kernel⟩ rfl
theorem cl_Ma_144 : g_CV R_Ma 144 y_Cl_pattern (Cond.code y_Cl_pattern b_Cl_pattern 3 (some .int) :: gw) 2 3 3 := g_cv (T := T_Cl) (N := 8) gm_618 gm_269 gm_270 gm_4 gm_271 ⟨by decide +kernel, by decide +kernel, by decide +kernel⟩ rfl
theorem cl_Ma_147 : g_CV R_Ma 147 y_Ma_matches (Cond.code y_Ma_matches b_Ma_matches 5 (some .boolean) :: gw) 3 5 8 := g_cv (T := T_Ma) (N := 15) gm_619 gm_620 gm_979 gm_8 gm_621 ⟨by decide +kernel, by decide +kernel, by decide +kernel⟩ rfl
theorem cl_Ma_115 : g_CV R_Ma 115 y_Te_isVariable (Cond.code y_Te_isVariable b_Te_isVariable 2 (some .boolean) :: gw) 1 2 2 := g_cv (T := T_Te) (N := 10) gm_622 gm_280 gm_281 gm_3 gm_282 ⟨by decide +kernel, by decide +kernel, by decide +kernel⟩ rfl
theorem cl_Ma_109 : g_CV R_Ma 109 y_Te_head (Cond.code y_Te_head b_Te_head 2 (some .int) :: gw) 1 2 2 := g_cv (T := T_Te) (N := 10) gm_623 gm_284 gm_285 gm_3 gm_286 ⟨by decide +kernel, by decide +kernel, by decide +kernel⟩ rfl
theorem cl_Ma_150 : g_CV R_Ma 150 y_Va_maker (Cond.code y_Va_maker b_Va_maker 2 (some .int) :: gw) 1 2 7 := g_cv (T := T_Va) (N := 6) gm_624 gm_625 gm_626 gm_9 gm_627 ⟨by decide +kernel, by decide +kernel, by decide +kernel⟩ rfl
theorem cl_Va_33 : g_CV R_Va 33 y_Te_head (Cond.code y_Te_head b_Te_head 2 (some .int) :: gw) 1 2 2 := g_cv (T := T_Te) (N := 10) gm_628 gm_284 gm_285 gm_3 gm_286 ⟨by decide +kernel, by decide +kernel, by decide +kernel⟩ rfl
theorem cl_Ma_94 : g_CV R_Ma 94 y_Te_width (Cond.code y_Te_width b_Te_width 2 (some .int) :: gw) 1 2 2 := g_cv (T := T_Te) (N := 10) gm_629 gm_288 gm_289 gm_3 gm_290 ⟨by decide +kernel, by decide +kernel, by decide +kernel⟩ rfl
theorem cl_Ma_97 : g_CV R_Ma 97 y_Te_part (Cond.code y_Te_part b_Te_part 3 (some .int) :: gw) 2 3 2 := g_cv (T := T_Te) (N := 10) gm_630 gm_292 gm_293 gm_3 gm_294 ⟨by decide +kernel, by decide +kernel, by decide +kernel⟩ rfl
theorem cl_Ma_153 : g_CV R_Ma 153 y_Va_part (Cond.code y_Va_part b_Va_part 3 (some .int) :: gw) 2 3 7 := g_cv (T := T_Va) (N := 6) gm_631 gm_632 gm_633 gm_9 gm_634 ⟨by decide +kernel, by decide +kernel, by decide +kernel⟩ rfl
theorem cl_Va_46 : g_CV R_Va 46 y_Te_part (Cond.code y_Te_part b_Te_part 3 (some .int) :: gw) 2 3 2 := g_cv (T := T_Te) (N := 10) gm_635 gm_292 gm_293 gm_3 gm_294 ⟨by decide +kernel, by decide +kernel, by decide +kernel⟩ rfl
theorem cl_Ma_141 : g_CV R_Ma 141 y_Cl_body (Cond.code y_Cl_body b_Cl_body 2 (some .int) :: gw) 1 2 3 := g_cv (T := T_Cl) (N := 8) gm_636 gm_296 gm_297 gm_4 gm_298 ⟨by decide +kernel, by decide +kernel, by decide +kernel⟩ rfl
theorem cl_Ma_101 : g_CV R_Ma 101 y_Ma_open (Cond.code y_Ma_open b_Ma_open 3 none :: gw) 2 3 8 := g_cv (T := T_Ma) (N := 15) gm_637 gm_638 gm_980 gm_8 gm_639 ⟨by decide +kernel, by decide +kernel, by decide +kernel⟩ rfl
theorem cl_Ma_88 : g_CV R_Ma 88 y_Ma_turn (Cond.code y_Ma_turn b_Ma_turn 4 none :: gw) 0 4 8 := g_cv (T := T_Ma) (N := 15) gm_640 gm_641 gm_981 gm_8 gm_642 ⟨by decide +kernel, by decide +kernel, by decide +kernel⟩ rfl
theorem cl_Ma_105 : g_CV R_Ma 105 y_Te_isMade (Cond.code y_Te_isMade b_Te_isMade 2 (some .boolean) :: gw) 1 2 2 := g_cv (T := T_Te) (N := 10) gm_643 gm_303 gm_304 gm_3 gm_305 ⟨by decide +kernel, by decide +kernel, by decide +kernel⟩ rfl
theorem cl_Ma_112 : g_CV R_Ma 112 y_Ma_build (Cond.code y_Ma_build b_Ma_build 4 none :: gw) 2 4 8 := g_cv (T := T_Ma) (N := 15) gm_644 gm_645 gm_982 gm_8 gm_646 ⟨by decide +kernel, by decide +kernel, by decide +kernel⟩ rfl
theorem cl_Ma_118 : g_CV R_Ma 118 y_Va_isFull (Cond.code y_Va_isFull b_Va_isFull 1 (some .boolean) :: gw) 0 1 7 := g_cv (T := T_Va) (N := 6) gm_647 gm_648 gm_649 gm_9 gm_650 ⟨by decide +kernel, by decide +kernel, by decide +kernel⟩ rfl
theorem cl_Ma_122 : g_CV R_Ma 122 y_Va_add (Cond.code y_Va_add b_Va_add 5 (some .int) :: gw) 3 5 7 := g_cv (T := T_Va) (N := 6) gm_651 gm_652 gm_653 gm_9 gm_654 ⟨by decide +kernel, by decide +kernel, by decide +kernel⟩ rfl
theorem cl_Va_41 : g_CV R_Va 41 y_Sg_width (Cond.code y_Sg_width b_Sg_width 2 (some .int) :: gw) 1 2 1 := g_cv (T := T_Sg) (N := 5) gm_655 gm_265 gm_266 gm_2 gm_267 ⟨by decide +kernel, by decide +kernel, by decide +kernel⟩ rfl
theorem cl_Va_51 : g_CV R_Va 51 y_Va_size (Cond.code y_Va_size b_Va_size 2 (some .int) :: gw) 1 2 7 := g_cv (T := T_Va) (N := 6) gm_656 gm_657 gm_658 gm_9 gm_659 ⟨by decide +kernel, by decide +kernel, by decide +kernel⟩ rfl
theorem cl_Va_49 : g_CV R_Va 49 y_Te_size (Cond.code y_Te_size b_Te_size 2 (some .int) :: gw) 1 2 2 := g_cv (T := T_Te) (N := 10) gm_660 gm_661 gm_662 gm_3 gm_663 ⟨by decide +kernel, by decide +kernel, by decide +kernel⟩ rfl
theorem cl_Ma_126 : g_CV R_Ma 126 y_Va_size (Cond.code y_Va_size b_Va_size 2 (some .int) :: gw) 1 2 7 := g_cv (T := T_Va) (N := 6) gm_664 gm_657 gm_658 gm_9 gm_659 ⟨by decide +kernel, by decide +kernel, by decide +kernel⟩ rfl
theorem cl_Ma_91 : g_CV R_Ma 91 y_Ma_writeAnswer (Cond.code y_Ma_writeAnswer b_Ma_writeAnswer 5 none :: gw) 1 5 8 := g_cv (T := T_Ma) (N := 15) gm_665 gm_666 gm_983 gm_8 gm_667 ⟨by decide +kernel, by decide +kernel, by decide +kernel⟩ rfl
theorem cl_Ma_154 : g_CV R_Ma 154 y_Va_width (Cond.code y_Va_width b_Va_width 2 (some .int) :: gw) 1 2 7 := g_cv (T := T_Va) (N := 6) gm_668 gm_669 gm_670 gm_9 gm_671 ⟨by decide +kernel, by decide +kernel, by decide +kernel⟩ rfl
theorem cl_Va_39 : g_CV R_Va 39 y_Va_maker (Cond.code y_Va_maker b_Va_maker 2 (some .int) :: gw) 1 2 7 := g_cv (T := T_Va) (N := 6) gm_672 gm_625 gm_626 gm_9 gm_627 ⟨by decide +kernel, by decide +kernel, by decide +kernel⟩ rfl
theorem cl_La_40 : g_CV R_La 40 y_Fu_answer (Cond.code y_Fu_answer b_Fu_answer 2 (some .int) :: gw) 1 2 0 := g_cv (T := T_Fu) (N := 10) gm_676 gm_677 gm_678 gm_1 gm_679 ⟨by decide +kernel, by decide +kernel, by decide +kernel⟩ rfl
theorem cl_Fu_191 : g_CV R_Fu 191 y_Ma_answerSize (Cond.code y_Ma_answerSize b_Ma_answerSize 1 (some .int) :: gw) 0 1 8 := g_cv (T := T_Ma) (N := 15) gm_680 gm_681 gm_682 gm_8 gm_683 ⟨by decide +kernel, by decide +kernel, by decide +kernel⟩ rfl
theorem cl_Fu_199 : g_CV R_Fu 199 y_Ma_answerAt (Cond.code y_Ma_answerAt b_Ma_answerAt 2 (some .int) :: gw) 1 2 8 := g_cv (T := T_Ma) (N := 15) gm_685 gm_686 gm_687 gm_8 gm_688 ⟨by decide +kernel, by decide +kernel, by decide +kernel⟩ rfl
theorem cl_La_48 : g_CI R_La 48 y_Mo_init (Cond.code y_Mo_init b_Mo_init 1 none :: gw) 0 1 := ⟨⟨_, _, rfl⟩, g_gd (g_cons gm_693), ⟨by decide +kernel, by decide +kernel, by decide +kernel⟩, gm_10, gm_691, gm_692, rfl⟩
theorem cl_La_55 : g_CV R_La 55 y_Mo_thrown (Cond.code y_Mo_thrown b_Mo_thrown 1 (some .int) :: gw) 0 1 9 := g_cv (T := T_Mo) (N := 45) gm_785 gm_786 gm_787 gm_10 gm_788 ⟨by decide +kernel, by decide +kernel, by decide +kernel⟩ rfl
theorem cl_La_54 : g_CV R_La 54 y_Mo_constructor (Cond.code y_Mo_constructor b_Mo_constructor 5 (some .int) :: gw) 4 5 9 := g_cv (T := T_Mo) (N := 45) gm_789 gm_790 gm_791 gm_10 gm_792 ⟨by decide +kernel, by decide +kernel, by decide +kernel⟩ rfl
theorem cl_Mo_112 : g_CS R_Mo 112 y_Mo_wrongTypes (Cond.code y_Mo_wrongTypes b_Mo_wrongTypes 7 (some .boolean) :: gw) 4 7 := ⟨⟨_, _, _, rfl⟩, g_gd (g_cons gm_795), ⟨by decide +kernel, by decide +kernel, by decide +kernel⟩, gm_794, gm_10, gm_793⟩
theorem cl_Mo_108 : g_CS R_Mo 108 y_Mo_outside (Cond.code y_Mo_outside b_Mo_outside 2 (some .boolean) :: gw) 2 2 := ⟨⟨_, _, _, rfl⟩, g_gd (g_cons gm_798), ⟨by decide +kernel, by decide +kernel, by decide +kernel⟩, gm_797, gm_10, gm_796⟩
theorem cl_Mo_119 : g_CS R_Mo 119 y_Mo_many (Cond.code y_Mo_many b_Mo_many 3 (some .int) :: gw) 3 3 := ⟨⟨_, _, _, rfl⟩, g_gd (g_cons gm_801), ⟨by decide +kernel, by decide +kernel, by decide +kernel⟩, gm_800, gm_10, gm_799⟩
theorem cl_La_61 : g_CV R_La 61 y_Mo_function (Cond.code y_Mo_function b_Mo_function 5 (some .int) :: gw) 4 5 9 := g_cv (T := T_Mo) (N := 45) gm_802 gm_803 gm_804 gm_10 gm_805 ⟨by decide +kernel, by decide +kernel, by decide +kernel⟩ rfl
theorem cl_La_65 : g_CV R_La 65 y_Mo_variable (Cond.code y_Mo_variable b_Mo_variable 2 (some .int) :: gw) 1 2 9 := g_cv (T := T_Mo) (N := 45) gm_806 gm_807 gm_808 gm_10 gm_809 ⟨by decide +kernel, by decide +kernel, by decide +kernel⟩ rfl
theorem cl_La_68 : g_CV R_La 68 y_Mo_make (Cond.code y_Mo_make b_Mo_make 5 (some .int) :: gw) 4 5 9 := g_cv (T := T_Mo) (N := 45) gm_810 gm_811 gm_812 gm_10 gm_813 ⟨by decide +kernel, by decide +kernel, by decide +kernel⟩ rfl
theorem cl_Mo_137 : g_CV R_Mo 137 y_Mo_build (Cond.code y_Mo_build b_Mo_build 11 (some .int) :: gw) 5 11 9 := g_cv (T := T_Mo) (N := 45) gm_814 gm_815 gm_984 gm_10 gm_816 ⟨by decide +kernel, by decide +kernel, by decide +kernel⟩ rfl
theorem cl_Mo_133 : g_CV R_Mo 133 y_Mo_isTerm (Cond.code y_Mo_isTerm b_Mo_isTerm 2 (some .boolean) :: gw) 1 2 9 := g_cv (T := T_Mo) (N := 45) gm_817 gm_818 gm_985 gm_10 gm_819 ⟨by decide +kernel, by decide +kernel, by decide +kernel⟩ rfl
theorem cl_La_71 : g_CV R_La 71 y_Mo_call (Cond.code y_Mo_call b_Mo_call 5 (some .int) :: gw) 4 5 9 := g_cv (T := T_Mo) (N := 45) gm_820 gm_821 gm_822 gm_10 gm_823 ⟨by decide +kernel, by decide +kernel, by decide +kernel⟩ rfl
theorem cl_La_75 : g_CV R_La 75 y_Mo_clause (Cond.code y_Mo_clause b_Mo_clause 9 (some .int) :: gw) 5 9 9 := g_cv (T := T_Mo) (N := 45) gm_824 gm_825 gm_826 gm_10 gm_827 ⟨by decide +kernel, by decide +kernel, by decide +kernel⟩ rfl
theorem cl_Mo_162 : g_CV R_Mo 162 y_Mo_isClause (Cond.code y_Mo_isClause b_Mo_isClause 8 (some .boolean) :: gw) 5 8 9 := g_cv (T := T_Mo) (N := 45) gm_828 gm_829 gm_986 gm_10 gm_830 ⟨by decide +kernel, by decide +kernel, by decide +kernel⟩ rfl
theorem cl_Mo_156 : g_CV R_Mo 156 y_Mo_isPattern (Cond.code y_Mo_isPattern b_Mo_isPattern 3 (some .boolean) :: gw) 1 3 9 := g_cv (T := T_Mo) (N := 45) gm_831 gm_832 gm_987 gm_10 gm_833 ⟨by decide +kernel, by decide +kernel, by decide +kernel⟩ rfl
theorem cl_Mo_148 : g_CV R_Mo 148 y_Mo_push (Cond.code y_Mo_push b_Mo_push 3 none :: gw) 2 3 9 := g_cv (T := T_Mo) (N := 45) gm_834 gm_835 gm_988 gm_10 gm_836 ⟨by decide +kernel, by decide +kernel, by decide +kernel⟩ rfl
theorem cl_Mo_152 : g_CV R_Mo 152 y_Mo_pushBelow (Cond.code y_Mo_pushBelow b_Mo_pushBelow 3 none :: gw) 1 3 9 := g_cv (T := T_Mo) (N := 45) gm_837 gm_838 gm_989 gm_10 gm_839 ⟨by decide +kernel, by decide +kernel, by decide +kernel⟩ rfl
theorem cl_Mo_144 : g_CV R_Mo 144 y_Mo_places (Cond.code y_Mo_places b_Mo_places 3 (some .int) :: gw) 1 3 9 := g_cv (T := T_Mo) (N := 45) gm_840 gm_841 gm_990 gm_10 gm_842 ⟨by decide +kernel, by decide +kernel, by decide +kernel⟩ rfl
theorem cl_Mo_159 : g_CV R_Mo 159 y_Mo_isBody (Cond.code y_Mo_isBody b_Mo_isBody 3 (some .boolean) :: gw) 1 3 9 := g_cv (T := T_Mo) (N := 45) gm_843 gm_844 gm_991 gm_10 gm_845 ⟨by decide +kernel, by decide +kernel, by decide +kernel⟩ rfl
theorem cl_La_79 : g_CV R_La 79 y_Mo_check (Cond.code y_Mo_check b_Mo_check 3 (some .int) :: gw) 0 3 9 := g_cv (T := T_Mo) (N := 45) gm_846 gm_847 gm_848 gm_10 gm_849 ⟨by decide +kernel, by decide +kernel, by decide +kernel⟩ rfl
theorem cl_Mo_215 : g_CV R_Mo 215 y_Mo_allInhabited (Cond.code y_Mo_allInhabited b_Mo_allInhabited 5 (some .boolean) :: gw) 0 5 9 := g_cv (T := T_Mo) (N := 45) gm_850 gm_851 gm_992 gm_10 gm_852 ⟨by decide +kernel, by decide +kernel, by decide +kernel⟩ rfl
theorem cl_Mo_219 : g_CV R_Mo 219 y_Mo_allTyped (Cond.code y_Mo_allTyped b_Mo_allTyped 4 (some .boolean) :: gw) 0 4 9 := g_cv (T := T_Mo) (N := 45) gm_853 gm_854 gm_993 gm_10 gm_855 ⟨by decide +kernel, by decide +kernel, by decide +kernel⟩ rfl
theorem cl_Mo_169 : g_CV R_Mo 169 y_Mo_isTyped (Cond.code y_Mo_isTyped b_Mo_isTyped 8 (some .boolean) :: gw) 3 8 9 := g_cv (T := T_Mo) (N := 45) gm_856 gm_857 gm_994 gm_10 gm_858 ⟨by decide +kernel, by decide +kernel, by decide +kernel⟩ rfl
theorem cl_Mo_222 : g_CV R_Mo 222 y_Mo_isCovered (Cond.code y_Mo_isCovered b_Mo_isCovered 7 (some .boolean) :: gw) 1 7 9 := g_cv (T := T_Mo) (N := 45) gm_859 gm_860 gm_995 gm_10 gm_861 ⟨by decide +kernel, by decide +kernel, by decide +kernel⟩ rfl
theorem cl_Mo_177 : g_CV R_Mo 177 y_Mo_stands (Cond.code y_Mo_stands b_Mo_stands 7 (some .int) :: gw) 2 7 9 := g_cv (T := T_Mo) (N := 45) gm_862 gm_863 gm_996 gm_10 gm_864 ⟨by decide +kernel, by decide +kernel, by decide +kernel⟩ rfl
theorem cl_Mo_173 : g_CV R_Mo 173 y_Mo_wants (Cond.code y_Mo_wants b_Mo_wants 5 (some .int) :: gw) 2 5 9 := g_cv (T := T_Mo) (N := 45) gm_865 gm_866 gm_997 gm_10 gm_867 ⟨by decide +kernel, by decide +kernel, by decide +kernel⟩ rfl
theorem cl_Mo_180 : g_CV R_Mo 180 y_Mo_splitAt (Cond.code y_Mo_splitAt b_Mo_splitAt 8 (some .int) :: gw) 3 8 9 := g_cv (T := T_Mo) (N := 45) gm_868 gm_869 gm_998 gm_10 gm_870 ⟨by decide +kernel, by decide +kernel, by decide +kernel⟩ rfl
theorem cl_Mo_183 : g_CV R_Mo 183 y_Mo_typeAt (Cond.code y_Mo_typeAt b_Mo_typeAt 4 (some .int) :: gw) 3 4 9 := g_cv (T := T_Mo) (N := 45) gm_871 gm_872 gm_999 gm_10 gm_873 ⟨by decide +kernel, by decide +kernel, by decide +kernel⟩ rfl
theorem cl_Mo_225 : g_CV R_Mo 225 y_Mo_isEnding (Cond.code y_Mo_isEnding b_Mo_isEnding 4 (some .boolean) :: gw) 0 4 9 := g_cv (T := T_Mo) (N := 45) gm_874 gm_875 gm_1000 gm_10 gm_876 ⟨by decide +kernel, by decide +kernel, by decide +kernel⟩ rfl
theorem cl_Mo_209 : g_CV R_Mo 209 y_Mo_callGraphs (Cond.code y_Mo_callGraphs b_Mo_callGraphs 8 none :: gw) 0 8 9 := g_cv (T := T_Mo) (N := 45) gm_877 gm_878 gm_1001 gm_10 gm_879 ⟨by decide +kernel, by decide +kernel, by decide +kernel⟩ rfl
theorem cl_Mo_198 : g_CV R_Mo 198 y_Mo_callOf (Cond.code y_Mo_callOf b_Mo_callOf 5 (some .int) :: gw) 2 5 9 := g_cv (T := T_Mo) (N := 45) gm_880 gm_881 gm_1002 gm_10 gm_882 ⟨by decide +kernel, by decide +kernel, by decide +kernel⟩ rfl
theorem cl_Mo_201 : g_CV R_Mo 201 y_Mo_arcOf (Cond.code y_Mo_arcOf b_Mo_arcOf 5 (some .int) :: gw) 4 5 9 := g_cv (T := T_Mo) (N := 45) gm_883 gm_884 gm_1003 gm_10 gm_885 ⟨by decide +kernel, by decide +kernel, by decide +kernel⟩ rfl
theorem cl_Mo_189 : g_CV R_Mo 189 y_Mo_inside (Cond.code y_Mo_inside b_Mo_inside 7 (some .int) :: gw) 2 7 9 := g_cv (T := T_Mo) (N := 45) gm_886 gm_887 gm_1004 gm_10 gm_888 ⟨by decide +kernel, by decide +kernel, by decide +kernel⟩ rfl
theorem cl_Mo_186 : g_CV R_Mo 186 y_Mo_alike (Cond.code y_Mo_alike b_Mo_alike 6 (some .boolean) :: gw) 2 6 9 := g_cv (T := T_Mo) (N := 45) gm_889 gm_890 gm_1005 gm_10 gm_891 ⟨by decide +kernel, by decide +kernel, by decide +kernel⟩ rfl
theorem cl_Mo_205 : g_CV R_Mo 205 y_Mo_addGraph (Cond.code y_Mo_addGraph b_Mo_addGraph 5 none :: gw) 3 5 9 := g_cv (T := T_Mo) (N := 45) gm_892 gm_893 gm_1006 gm_10 gm_894 ⟨by decide +kernel, by decide +kernel, by decide +kernel⟩ rfl
theorem cl_Mo_212 : g_CS R_Mo 212 y_Mo_composed (Cond.code y_Mo_composed b_Mo_composed 10 (some .int) :: gw) 2 10 := ⟨⟨_, _, _, rfl⟩, g_gd (g_cons gm_897), ⟨by decide +kernel, by decide +kernel, by decide +kernel⟩, gm_896, gm_10, gm_895⟩
theorem cl_Mo_195 : g_CS R_Mo 195 y_Mo_arcAt (Cond.code y_Mo_arcAt b_Mo_arcAt 3 (some .int) :: gw) 3 3 := ⟨⟨_, _, _, rfl⟩, g_gd (g_cons gm_900), ⟨by decide +kernel, by decide +kernel, by decide +kernel⟩, gm_899, gm_10, gm_898⟩
theorem cl_La_83 : g_CV R_La 83 y_Mo_graphs (Cond.code y_Mo_graphs b_Mo_graphs 1 (some .int) :: gw) 0 1 9 := g_cv (T := T_Mo) (N := 45) gm_901 gm_902 gm_903 gm_10 gm_904 ⟨by decide +kernel, by decide +kernel, by decide +kernel⟩ rfl
theorem cl_La_86 : g_CV R_La 86 y_Mo_arc (Cond.code y_Mo_arc b_Mo_arc 8 (some .int) :: gw) 4 8 9 := g_cv (T := T_Mo) (N := 45) gm_905 gm_906 gm_907 gm_10 gm_908 ⟨by decide +kernel, by decide +kernel, by decide +kernel⟩ rfl
theorem cl_La_91 : g_CV R_La 91 y_Mo_isValue (Cond.code y_Mo_isValue b_Mo_isValue 3 (some .boolean) :: gw) 2 3 9 := g_cv (T := T_Mo) (N := 45) gm_909 gm_910 gm_911 gm_10 gm_912 ⟨by decide +kernel, by decide +kernel, by decide +kernel⟩ rfl
theorem cl_Mo_228 : g_CV R_Mo 228 y_Mo_isClosed (Cond.code y_Mo_isClosed b_Mo_isClosed 3 (some .boolean) :: gw) 1 3 9 := g_cv (T := T_Mo) (N := 45) gm_913 gm_914 gm_1007 gm_10 gm_915 ⟨by decide +kernel, by decide +kernel, by decide +kernel⟩ rfl
theorem cl_La_94 : g_CV R_La 94 y_Mo_run (Cond.code y_Mo_run b_Mo_run 7 (some .int) :: gw) 4 7 9 := g_cv (T := T_Mo) (N := 45) gm_916 gm_917 gm_918 gm_10 gm_919 ⟨by decide +kernel, by decide +kernel, by decide +kernel⟩ rfl
theorem cl_Mo_265 : g_CV R_Mo 265 y_Mo_isValue (Cond.code y_Mo_isValue b_Mo_isValue 3 (some .boolean) :: gw) 2 3 9 := g_cv (T := T_Mo) (N := 45) gm_920 gm_910 gm_911 gm_10 gm_912 ⟨by decide +kernel, by decide +kernel, by decide +kernel⟩ rfl
theorem cl_Mo_268 : g_CV R_Mo 268 y_Mo_give (Cond.code y_Mo_give b_Mo_give 3 none :: gw) 1 3 9 := g_cv (T := T_Mo) (N := 45) gm_921 gm_922 gm_1008 gm_10 gm_923 ⟨by decide +kernel, by decide +kernel, by decide +kernel⟩ rfl
theorem cl_Mo_240 : g_CV R_Mo 240 y_Mo_doLater (Cond.code y_Mo_doLater b_Mo_doLater 3 none :: gw) 2 3 9 := g_cv (T := T_Mo) (N := 45) gm_924 gm_925 gm_1009 gm_10 gm_926 ⟨by decide +kernel, by decide +kernel, by decide +kernel⟩ rfl
theorem cl_Mo_250 : g_CV R_Mo 250 y_Mo_evaluate (Cond.code y_Mo_evaluate b_Mo_evaluate 5 none :: gw) 2 5 9 := g_cv (T := T_Mo) (N := 45) gm_927 gm_928 gm_1010 gm_10 gm_929 ⟨by decide +kernel, by decide +kernel, by decide +kernel⟩ rfl
theorem cl_Mo_259 : g_CV R_Mo 259 y_Mo_hold (Cond.code y_Mo_hold b_Mo_hold 6 none :: gw) 1 6 9 := g_cv (T := T_Mo) (N := 45) gm_930 gm_931 gm_1011 gm_10 gm_932 ⟨by decide +kernel, by decide +kernel, by decide +kernel⟩ rfl
theorem cl_Mo_271 : g_CV R_Mo 271 y_Mo_finished (Cond.code y_Mo_finished b_Mo_finished 3 (some .boolean) :: gw) 0 3 9 := g_cv (T := T_Mo) (N := 45) gm_933 gm_934 gm_1012 gm_10 gm_935 ⟨by decide +kernel, by decide +kernel, by decide +kernel⟩ rfl
theorem cl_Mo_253 : g_CV R_Mo 253 y_Mo_enter (Cond.code y_Mo_enter b_Mo_enter 7 (some .boolean) :: gw) 1 7 9 := g_cv (T := T_Mo) (N := 45) gm_936 gm_937 gm_1013 gm_10 gm_938 ⟨by decide +kernel, by decide +kernel, by decide +kernel⟩ rfl
theorem cl_Mo_246 : g_CV R_Mo 246 y_Mo_matches (Cond.code y_Mo_matches b_Mo_matches 8 (some .boolean) :: gw) 3 8 9 := g_cv (T := T_Mo) (N := 45) gm_939 gm_940 gm_1014 gm_10 gm_941 ⟨by decide +kernel, by decide +kernel, by decide +kernel⟩ rfl
theorem cl_Mo_274 : g_CV R_Mo 274 y_Mo_write (Cond.code y_Mo_write b_Mo_write 4 none :: gw) 1 4 9 := g_cv (T := T_Mo) (N := 45) gm_942 gm_943 gm_1015 gm_10 gm_944 ⟨by decide +kernel, by decide +kernel, by decide +kernel⟩ rfl
theorem cl_La_97 : g_CV R_La 97 y_Mo_answer (Cond.code y_Mo_answer b_Mo_answer 2 (some .int) :: gw) 1 2 9 := g_cv (T := T_Mo) (N := 45) gm_945 gm_946 gm_947 gm_10 gm_948 ⟨by decide +kernel, by decide +kernel, by decide +kernel⟩ rfl
theorem cl_La_101 : g_CV R_La 101 y_Mo_count (Cond.code y_Mo_count b_Mo_count 2 (some .int) :: gw) 1 2 9 := g_cv (T := T_Mo) (N := 45) gm_949 gm_950 gm_951 gm_10 gm_952 ⟨by decide +kernel, by decide +kernel, by decide +kernel⟩ rfl
abbrev e_Fu_init : g_Me := (R_Fu, b_Fu_init, 1, none, (fun _ _ _ _ => True), "<init>")
abbrev w_Fu_init : List Cond := Cond.code y_Fu_init b_Fu_init 1 none :: gw
abbrev e_Sg_init : g_Me := (R_Sg, b_Sg_init, 2, none, (fun _ _ _ _ => True), "<init>")
abbrev w_Sg_init : List Cond := Cond.code y_Sg_init b_Sg_init 2 none :: gw
abbrev e_Te_init : g_Me := (R_Te, b_Te_init, 1, none, (fun _ _ _ _ => True), "<init>")
abbrev w_Te_init : List Cond := Cond.code y_Te_init b_Te_init 1 none :: gw
abbrev e_Cl_init : g_Me := (R_Cl, b_Cl_init, 3, none, (fun _ _ _ _ => True), "<init>")
abbrev w_Cl_init : List Cond := Cond.code y_Cl_init b_Cl_init 3 none :: gw
abbrev e_Ty_init : g_Me := (R_Ty, b_Ty_init, 5, none, (fun _ _ _ _ => True), "<init>")
abbrev w_Ty_init : List Cond := Cond.code y_Ty_init b_Ty_init 5 none :: gw
abbrev e_Co_init : g_Me := (R_Co, b_Co_init, 5, none, (fun _ _ _ _ => True), "<init>")
abbrev w_Co_init : List Cond := Cond.code y_Co_init b_Co_init 5 none :: gw
abbrev e_En_init : g_Me := (R_En, b_En_init, 4, none, (fun _ _ _ _ => True), "<init>")
abbrev w_En_init : List Cond := Cond.code y_En_init b_En_init 4 none :: gw
abbrev e_Ma_init : g_Me := (R_Ma, b_Ma_init, 5, none, (fun _ _ _ _ => True), "<init>")
abbrev w_Ma_init : List Cond := Cond.code y_Ma_init b_Ma_init 5 none :: gw
abbrev e_Va_init : g_Me := (R_Va, b_Va_init, 3, none, (fun _ _ _ _ => True), "<init>")
abbrev w_Va_init : List Cond := Cond.code y_Va_init b_Va_init 3 none :: gw
abbrev e_Fu_check : g_Me := (R_Fu, b_Fu_check, 1, (some .int), (fun _ _ _ _ => True), "check")
abbrev w_Fu_check : List Cond := Cond.code y_Fu_check b_Fu_check 1 (some .int) :: gw
abbrev e_Fu_findWhatIsWrong : g_Me := (R_Fu, b_Fu_findWhatIsWrong, 1, (some .int), (fun _ _ _ _ => True), "findWhatIsWrong")
abbrev w_Fu_findWhatIsWrong : List Cond := Cond.code y_Fu_findWhatIsWrong b_Fu_findWhatIsWrong 1 (some .int) :: gw
abbrev e_Ty_allInhabited : g_Me := (R_Ty, b_Ty_allInhabited, 2, (some .boolean), (fun _ _ _ _ => True), "allInhabited")
abbrev w_Ty_allInhabited : List Cond := Cond.code y_Ty_allInhabited b_Ty_allInhabited 2 (some .boolean) :: gw
abbrev e_Sg_typesUsed : g_Me := (R_Sg, b_Sg_typesUsed, 3, (some .int), (fun _ _ _ _ => True), "typesUsed")
abbrev w_Sg_typesUsed : List Cond := Cond.code y_Sg_typesUsed b_Sg_typesUsed 3 (some .int) :: gw
abbrev e_Sg_typesTaken : g_Me := (R_Sg, b_Sg_typesTaken, 4, (some .int), (fun _ _ _ _ => True), "typesTaken")
abbrev w_Sg_typesTaken : List Cond := Cond.code y_Sg_typesTaken b_Sg_typesTaken 4 (some .int) :: gw
abbrev e_Ty_typesWithValues : g_Me := (R_Ty, b_Ty_typesWithValues, 4, (some .int), (fun _ _ _ _ => True), "typesWithValues")
abbrev w_Ty_typesWithValues : List Cond := Cond.code y_Ty_typesWithValues b_Ty_typesWithValues 4 (some .int) :: gw
abbrev e_Sg_howMany : g_Me := (R_Sg, b_Sg_howMany, 1, (some .int), (fun _ _ _ _ => True), "howMany")
abbrev w_Sg_howMany : List Cond := Cond.code y_Sg_howMany b_Sg_howMany 1 (some .int) :: gw
abbrev e_Sg_type : g_Me := (R_Sg, b_Sg_type, 2, (some .int), (fun _ _ _ _ => True), "type")
abbrev w_Sg_type : List Cond := Cond.code y_Sg_type b_Sg_type 2 (some .int) :: gw
abbrev e_Ty_allTyped : g_Me := (R_Ty, b_Ty_allTyped, 2, (some .boolean), (fun _ _ _ _ => True), "allTyped")
abbrev w_Ty_allTyped : List Cond := Cond.code y_Ty_allTyped b_Ty_allTyped 2 (some .boolean) :: gw
abbrev e_Cl_howMany : g_Me := (R_Cl, b_Cl_howMany, 1, (some .int), (fun _ _ _ _ => True), "howMany")
abbrev w_Cl_howMany : List Cond := Cond.code y_Cl_howMany b_Cl_howMany 1 (some .int) :: gw
abbrev e_Ty_isTyped : g_Me := (R_Ty, b_Ty_isTyped, 4, (some .boolean), (fun _ _ _ _ => True), "isTyped")
abbrev w_Ty_isTyped : List Cond := Cond.code y_Ty_isTyped b_Ty_isTyped 4 (some .boolean) :: gw
abbrev e_Cl_owner : g_Me := (R_Cl, b_Cl_owner, 2, (some .int), (fun _ _ _ _ => True), "owner")
abbrev w_Cl_owner : List Cond := Cond.code y_Cl_owner b_Cl_owner 2 (some .int) :: gw
abbrev e_Sg_width : g_Me := (R_Sg, b_Sg_width, 2, (some .int), (fun _ _ _ _ => True), "width")
abbrev w_Sg_width : List Cond := Cond.code y_Sg_width b_Sg_width 2 (some .int) :: gw
abbrev e_Cl_pattern : g_Me := (R_Cl, b_Cl_pattern, 3, (some .int), (fun _ _ _ _ => True), "pattern")
abbrev w_Cl_pattern : List Cond := Cond.code y_Cl_pattern b_Cl_pattern 3 (some .int) :: gw
abbrev e_Sg_placeType : g_Me := (R_Sg, b_Sg_placeType, 3, (some .int), (fun _ _ _ _ => True), "placeType")
abbrev w_Sg_placeType : List Cond := Cond.code y_Sg_placeType b_Sg_placeType 3 (some .int) :: gw
abbrev e_Ty_isPatternOfType : g_Me := (R_Ty, b_Ty_isPatternOfType, 5, (some .boolean), (fun _ _ _ _ => True), "isPatternOfType")
abbrev w_Ty_isPatternOfType : List Cond := Cond.code y_Ty_isPatternOfType b_Ty_isPatternOfType 5 (some .boolean) :: gw
abbrev e_Te_isVariable : g_Me := (R_Te, b_Te_isVariable, 2, (some .boolean), (fun _ _ _ _ => True), "isVariable")
abbrev w_Te_isVariable : List Cond := Cond.code y_Te_isVariable b_Te_isVariable 2 (some .boolean) :: gw
abbrev e_Te_head : g_Me := (R_Te, b_Te_head, 2, (some .int), (fun _ _ _ _ => True), "head")
abbrev w_Te_head : List Cond := Cond.code y_Te_head b_Te_head 2 (some .int) :: gw
abbrev e_Te_width : g_Me := (R_Te, b_Te_width, 2, (some .int), (fun _ _ _ _ => True), "width")
abbrev w_Te_width : List Cond := Cond.code y_Te_width b_Te_width 2 (some .int) :: gw
abbrev e_Te_part : g_Me := (R_Te, b_Te_part, 3, (some .int), (fun _ _ _ _ => True), "part")
abbrev w_Te_part : List Cond := Cond.code y_Te_part b_Te_part 3 (some .int) :: gw
abbrev e_Cl_body : g_Me := (R_Cl, b_Cl_body, 2, (some .int), (fun _ _ _ _ => True), "body")
abbrev w_Cl_body : List Cond := Cond.code y_Cl_body b_Cl_body 2 (some .int) :: gw
abbrev e_Ty_isOfType : g_Me := (R_Ty, b_Ty_isOfType, 6, (some .boolean), (fun _ _ _ _ => True), "isOfType")
abbrev w_Ty_isOfType : List Cond := Cond.code y_Ty_isOfType b_Ty_isOfType 6 (some .boolean) :: gw
abbrev e_Te_isMade : g_Me := (R_Te, b_Te_isMade, 2, (some .boolean), (fun _ _ _ _ => True), "isMade")
abbrev w_Te_isMade : List Cond := Cond.code y_Te_isMade b_Te_isMade 2 (some .boolean) :: gw
abbrev e_Co_allCovered : g_Me := (R_Co, b_Co_allCovered, 3, (some .boolean), (fun _ _ _ _ => True), "allCovered")
abbrev w_Co_allCovered : List Cond := Cond.code y_Co_allCovered b_Co_allCovered 3 (some .boolean) :: gw
abbrev e_Co_readPatterns : g_Me := (R_Co, b_Co_readPatterns, 5, none, (fun _ _ _ _ => True), "readPatterns")
abbrev w_Co_readPatterns : List Cond := Cond.code y_Co_readPatterns b_Co_readPatterns 5 none :: gw
abbrev e_Cl_howManyOf : g_Me := (R_Cl, b_Cl_howManyOf, 2, (some .int), (fun _ _ _ _ => True), "howManyOf")
abbrev w_Cl_howManyOf : List Cond := Cond.code y_Cl_howManyOf b_Cl_howManyOf 2 (some .int) :: gw
abbrev e_Cl_ofFunction : g_Me := (R_Cl, b_Cl_ofFunction, 3, (some .int), (fun _ _ _ _ => True), "ofFunction")
abbrev w_Cl_ofFunction : List Cond := Cond.code y_Cl_ofFunction b_Cl_ofFunction 3 (some .int) :: gw
abbrev e_Co_readPattern : g_Me := (R_Co, b_Co_readPattern, 5, none, (fun _ _ _ _ => True), "readPattern")
abbrev w_Co_readPattern : List Cond := Cond.code y_Co_readPattern b_Co_readPattern 5 none :: gw
abbrev e_Co_isCovered : g_Me := (R_Co, b_Co_isCovered, 7, (some .boolean), (fun _ _ _ _ => True), "isCovered")
abbrev w_Co_isCovered : List Cond := Cond.code y_Co_isCovered b_Co_isCovered 7 (some .boolean) :: gw
abbrev e_Co_compare : g_Me := (R_Co, b_Co_compare, 5, (some .int), (fun _ _ _ _ => True), "compare")
abbrev w_Co_compare : List Cond := Cond.code y_Co_compare b_Co_compare 5 (some .int) :: gw
abbrev e_Jm_min : g_Me := (R_Jm, b_Jm_min, 2, (some .int), (fun _ _ _ _ => True), "min")
abbrev w_Jm_min : List Cond := Cond.code y_Jm_min b_Jm_min 2 (some .int) :: gw
abbrev e_Co_isCoveredWhenSplit : g_Me := (R_Co, b_Co_isCoveredWhenSplit, 8, (some .boolean), (fun _ _ _ _ => True), "isCoveredWhenSplit")
abbrev w_Co_isCoveredWhenSplit : List Cond := Cond.code y_Co_isCoveredWhenSplit b_Co_isCoveredWhenSplit 8 (some .boolean) :: gw
abbrev e_Co_slotType : g_Me := (R_Co, b_Co_slotType, 6, (some .int), (fun _ _ _ _ => True), "slotType")
abbrev w_Co_slotType : List Cond := Cond.code y_Co_slotType b_Co_slotType 6 (some .int) :: gw
abbrev e_Co_constructorThatNoneNames : g_Me := (R_Co, b_Co_constructorThatNoneNames, 5, (some .int), (fun _ _ _ _ => True), "constructorThatNoneNames")
abbrev w_Co_constructorThatNoneNames : List Cond := Cond.code y_Co_constructorThatNoneNames b_Co_constructorThatNoneNames 5 (some .int) :: gw
abbrev e_Co_isNamed : g_Me := (R_Co, b_Co_isNamed, 5, (some .boolean), (fun _ _ _ _ => True), "isNamed")
abbrev w_Co_isNamed : List Cond := Cond.code y_Co_isNamed b_Co_isNamed 5 (some .boolean) :: gw
abbrev e_En_makeGraphs : g_Me := (R_En, b_En_makeGraphs, 3, (some .int), (fun _ _ _ _ => True), "makeGraphs")
abbrev w_En_makeGraphs : List Cond := Cond.code y_En_makeGraphs b_En_makeGraphs 3 (some .int) :: gw
abbrev e_En_collectCalls : g_Me := (R_En, b_En_collectCalls, 2, none, (fun _ _ _ _ => True), "collectCalls")
abbrev w_En_collectCalls : List Cond := Cond.code y_En_collectCalls b_En_collectCalls 2 none :: gw
abbrev e_En_collectCallsIn : g_Me := (R_En, b_En_collectCallsIn, 3, none, (fun _ _ _ _ => True), "collectCallsIn")
abbrev w_En_collectCallsIn : List Cond := Cond.code y_En_collectCallsIn b_En_collectCallsIn 3 none :: gw
abbrev e_Te_isCalled : g_Me := (R_Te, b_Te_isCalled, 2, (some .boolean), (fun _ _ _ _ => True), "isCalled")
abbrev w_Te_isCalled : List Cond := Cond.code y_Te_isCalled b_Te_isCalled 2 (some .boolean) :: gw
abbrev e_En_graphOf : g_Me := (R_En, b_En_graphOf, 10, (some .int), (fun _ _ _ _ => True), "graphOf")
abbrev w_En_graphOf : List Cond := Cond.code y_En_graphOf b_En_graphOf 10 (some .int) :: gw
abbrev e_En_arcBetween : g_Me := (R_En, b_En_arcBetween, 3, (some .int), (fun _ _ _ _ => True), "arcBetween")
abbrev w_En_arcBetween : List Cond := Cond.code y_En_arcBetween b_En_arcBetween 3 (some .int) :: gw
abbrev e_En_isSame : g_Me := (R_En, b_En_isSame, 4, (some .boolean), (fun _ _ _ _ => True), "isSame")
abbrev w_En_isSame : List Cond := Cond.code y_En_isSame b_En_isSame 4 (some .boolean) :: gw
abbrev e_En_isInside : g_Me := (R_En, b_En_isInside, 5, (some .boolean), (fun _ _ _ _ => True), "isInside")
abbrev w_En_isInside : List Cond := Cond.code y_En_isInside b_En_isInside 5 (some .boolean) :: gw
abbrev e_En_code : g_Me := (R_En, b_En_code, 5, (some .int), (fun _ _ _ _ => True), "code")
abbrev w_En_code : List Cond := Cond.code y_En_code b_En_code 5 (some .int) :: gw
abbrev e_En_addGraph : g_Me := (R_En, b_En_addGraph, 4, none, (fun _ _ _ _ => True), "addGraph")
abbrev w_En_addGraph : List Cond := Cond.code y_En_addGraph b_En_addGraph 4 none :: gw
abbrev e_En_addCompositions : g_Me := (R_En, b_En_addCompositions, 4, none, (fun _ _ _ _ => True), "addCompositions")
abbrev w_En_addCompositions : List Cond := Cond.code y_En_addCompositions b_En_addCompositions 4 none :: gw
abbrev e_En_to : g_Me := (R_En, b_En_to, 1, (some .int), (fun _ _ _ _ => True), "to")
abbrev w_En_to : List Cond := Cond.code y_En_to b_En_to 1 (some .int) :: gw
abbrev e_En_from : g_Me := (R_En, b_En_from, 1, (some .int), (fun _ _ _ _ => True), "from")
abbrev w_En_from : List Cond := Cond.code y_En_from b_En_from 1 (some .int) :: gw
abbrev e_En_compose : g_Me := (R_En, b_En_compose, 9, (some .int), (fun _ _ _ _ => True), "compose")
abbrev w_En_compose : List Cond := Cond.code y_En_compose b_En_compose 9 (some .int) :: gw
abbrev e_En_arcs : g_Me := (R_En, b_En_arcs, 1, (some .int), (fun _ _ _ _ => True), "arcs")
abbrev w_En_arcs : List Cond := Cond.code y_En_arcs b_En_arcs 1 (some .int) :: gw
abbrev e_En_strict : g_Me := (R_En, b_En_strict, 1, (some .int), (fun _ _ _ _ => True), "strict")
abbrev w_En_strict : List Cond := Cond.code y_En_strict b_En_strict 1 (some .int) :: gw
abbrev e_En_allEnd : g_Me := (R_En, b_En_allEnd, 3, (some .boolean), (fun _ _ _ _ => True), "allEnd")
abbrev w_En_allEnd : List Cond := Cond.code y_En_allEnd b_En_allEnd 3 (some .boolean) :: gw
abbrev e_Fu_graphs : g_Me := (R_Fu, b_Fu_graphs, 1, (some .int), (fun _ _ _ _ => True), "graphs")
abbrev w_Fu_graphs : List Cond := Cond.code y_Fu_graphs b_Fu_graphs 1 (some .int) :: gw
abbrev e_Fu_isValue : g_Me := (R_Fu, b_Fu_isValue, 3, (some .boolean), (fun _ _ _ _ => True), "isValue")
abbrev w_Fu_isValue : List Cond := Cond.code y_Fu_isValue b_Fu_isValue 3 (some .boolean) :: gw
abbrev e_Fu_isType : g_Me := (R_Fu, b_Fu_isType, 1, (some .boolean), (fun _ _ _ _ => True), "isType")
abbrev w_Fu_isType : List Cond := Cond.code y_Fu_isType b_Fu_isType 1 (some .boolean) :: gw
abbrev e_Te_has : g_Me := (R_Te, b_Te_has, 2, (some .boolean), (fun _ _ _ _ => True), "has")
abbrev w_Te_has : List Cond := Cond.code y_Te_has b_Te_has 2 (some .boolean) :: gw
abbrev e_Ty_isClosedOfType : g_Me := (R_Ty, b_Ty_isClosedOfType, 3, (some .boolean), (fun _ _ _ _ => True), "isClosedOfType")
abbrev w_Ty_isClosedOfType : List Cond := Cond.code y_Ty_isClosedOfType b_Ty_isClosedOfType 3 (some .boolean) :: gw
abbrev e_Te_isClosed : g_Me := (R_Te, b_Te_isClosed, 2, (some .boolean), (fun _ _ _ _ => True), "isClosed")
abbrev w_Te_isClosed : List Cond := Cond.code y_Te_isClosed b_Te_isClosed 2 (some .boolean) :: gw
abbrev e_Fu_count : g_Me := (R_Fu, b_Fu_count, 2, (some .int), (fun _ _ _ _ => True), "count")
abbrev w_Fu_count : List Cond := Cond.code y_Fu_count b_Fu_count 2 (some .int) :: gw
abbrev e_Ma_steps : g_Me := (R_Ma, b_Ma_steps, 1, (some .int), (fun _ _ _ _ => True), "steps")
abbrev w_Ma_steps : List Cond := Cond.code y_Ma_steps b_Ma_steps 1 (some .int) :: gw
abbrev e_Te_howMany : g_Me := (R_Te, b_Te_howMany, 1, (some .int), (fun _ _ _ _ => True), "howMany")
abbrev w_Te_howMany : List Cond := Cond.code y_Te_howMany b_Te_howMany 1 (some .int) :: gw
abbrev e_La_constructor : g_Me := (R_La, b_La_constructor, 7, (some .int), (fun _ _ _ _ => True), "constructor")
abbrev e_Fu_constructor : g_Me := (R_Fu, b_Fu_constructor, 5, (some .int), (fun _ _ _ _ => True), "constructor")
abbrev w_Fu_constructor : List Cond := Cond.code y_Fu_constructor b_Fu_constructor 5 (some .int) :: gw
abbrev e_Fu_areTypes : g_Me := (R_Fu, b_Fu_areTypes, 5, (some .boolean), (fun _ _ _ _ => True), "areTypes")
abbrev w_Fu_areTypes : List Cond := Cond.code y_Fu_areTypes b_Fu_areTypes 5 (some .boolean) :: gw
abbrev e_Fu_leadingPlaces : g_Me := (R_Fu, b_Fu_leadingPlaces, 3, (some .int), (fun _ _ _ _ => True), "leadingPlaces")
abbrev w_Fu_leadingPlaces : List Cond := Cond.code y_Fu_leadingPlaces b_Fu_leadingPlaces 3 (some .int) :: gw
abbrev e_Fu_pick : g_Me := (R_Fu, b_Fu_pick, 4, (some .int), (fun _ _ _ _ => True), "pick")
abbrev w_Fu_pick : List Cond := Cond.code y_Fu_pick b_Fu_pick 4 (some .int) :: gw
abbrev e_Sg_isFull : g_Me := (R_Sg, b_Sg_isFull, 1, (some .boolean), (fun _ _ _ _ => True), "isFull")
abbrev w_Sg_isFull : List Cond := Cond.code y_Sg_isFull b_Sg_isFull 1 (some .boolean) :: gw
abbrev e_Sg_declare : g_Me := (R_Sg, b_Sg_declare, 6, (some .int), (fun _ _ _ _ => True), "declare")
abbrev w_Sg_declare : List Cond := Cond.code y_Sg_declare b_Sg_declare 6 (some .int) :: gw
abbrev e_La_function : g_Me := (R_La, b_La_function, 7, (some .int), (fun _ _ _ _ => True), "function")
abbrev e_Fu_function : g_Me := (R_Fu, b_Fu_function, 5, (some .int), (fun _ _ _ _ => True), "function")
abbrev w_Fu_function : List Cond := Cond.code y_Fu_function b_Fu_function 5 (some .int) :: gw
abbrev e_La_variable : g_Me := (R_La, b_La_variable, 4, (some .int), (fun _ _ _ _ => True), "variable")
abbrev e_Fu_variable : g_Me := (R_Fu, b_Fu_variable, 2, (some .int), (fun _ _ _ _ => True), "variable")
abbrev w_Fu_variable : List Cond := Cond.code y_Fu_variable b_Fu_variable 2 (some .int) :: gw
abbrev e_Te_isFull : g_Me := (R_Te, b_Te_isFull, 1, (some .boolean), (fun _ _ _ _ => True), "isFull")
abbrev w_Te_isFull : List Cond := Cond.code y_Te_isFull b_Te_isFull 1 (some .boolean) :: gw
abbrev e_Te_addVariable : g_Me := (R_Te, b_Te_addVariable, 2, (some .int), (fun _ _ _ _ => True), "addVariable")
abbrev w_Te_addVariable : List Cond := Cond.code y_Te_addVariable b_Te_addVariable 2 (some .int) :: gw
abbrev e_La_make : g_Me := (R_La, b_La_make, 7, (some .int), (fun _ _ _ _ => True), "make")
abbrev e_Fu_make : g_Me := (R_Fu, b_Fu_make, 5, (some .int), (fun _ _ _ _ => True), "make")
abbrev w_Fu_make : List Cond := Cond.code y_Fu_make b_Fu_make 5 (some .int) :: gw
abbrev e_Sg_has : g_Me := (R_Sg, b_Sg_has, 2, (some .boolean), (fun _ _ _ _ => True), "has")
abbrev w_Sg_has : List Cond := Cond.code y_Sg_has b_Sg_has 2 (some .boolean) :: gw
abbrev e_Te_canJoin : g_Me := (R_Te, b_Te_canJoin, 9, (some .boolean), (fun _ _ _ _ => True), "canJoin")
abbrev w_Te_canJoin : List Cond := Cond.code y_Te_canJoin b_Te_canJoin 9 (some .boolean) :: gw
abbrev e_Jm_max : g_Me := (R_Jm, b_Jm_max, 2, (some .int), (fun _ _ _ _ => True), "max")
abbrev w_Jm_max : List Cond := Cond.code y_Jm_max b_Jm_max 2 (some .int) :: gw
abbrev e_Te_addMade : g_Me := (R_Te, b_Te_addMade, 6, (some .int), (fun _ _ _ _ => True), "addMade")
abbrev w_Te_addMade : List Cond := Cond.code y_Te_addMade b_Te_addMade 6 (some .int) :: gw
abbrev e_Te_join : g_Me := (R_Te, b_Te_join, 10, (some .int), (fun _ _ _ _ => True), "join")
abbrev w_Te_join : List Cond := Cond.code y_Te_join b_Te_join 10 (some .int) :: gw
abbrev e_La_call : g_Me := (R_La, b_La_call, 7, (some .int), (fun _ _ _ _ => True), "call")
abbrev e_Fu_call : g_Me := (R_Fu, b_Fu_call, 5, (some .int), (fun _ _ _ _ => True), "call")
abbrev w_Fu_call : List Cond := Cond.code y_Fu_call b_Fu_call 5 (some .int) :: gw
abbrev e_Te_addCalled : g_Me := (R_Te, b_Te_addCalled, 6, (some .int), (fun _ _ _ _ => True), "addCalled")
abbrev w_Te_addCalled : List Cond := Cond.code y_Te_addCalled b_Te_addCalled 6 (some .int) :: gw
abbrev e_La_clause : g_Me := (R_La, b_La_clause, 8, (some .int), (fun _ _ _ _ => True), "clause")
abbrev e_Fu_clause : g_Me := (R_Fu, b_Fu_clause, 6, (some .int), (fun _ _ _ _ => True), "clause")
abbrev w_Fu_clause : List Cond := Cond.code y_Fu_clause b_Fu_clause 6 (some .int) :: gw
abbrev e_Cl_isWellFormed : g_Me := (R_Cl, b_Cl_isWellFormed, 9, (some .boolean), (fun _ _ _ _ => True), "isWellFormed")
abbrev w_Cl_isWellFormed : List Cond := Cond.code y_Cl_isWellFormed b_Cl_isWellFormed 9 (some .boolean) :: gw
abbrev e_Te_isPattern : g_Me := (R_Te, b_Te_isPattern, 2, (some .boolean), (fun _ _ _ _ => True), "isPattern")
abbrev w_Te_isPattern : List Cond := Cond.code y_Te_isPattern b_Te_isPattern 2 (some .boolean) :: gw
abbrev e_Te_variables : g_Me := (R_Te, b_Te_variables, 2, (some .int), (fun _ _ _ _ => True), "variables")
abbrev w_Te_variables : List Cond := Cond.code y_Te_variables b_Te_variables 2 (some .int) :: gw
abbrev e_Cl_isFull : g_Me := (R_Cl, b_Cl_isFull, 2, (some .boolean), (fun _ _ _ _ => True), "isFull")
abbrev w_Cl_isFull : List Cond := Cond.code y_Cl_isFull b_Cl_isFull 2 (some .boolean) :: gw
abbrev e_Cl_add : g_Me := (R_Cl, b_Cl_add, 7, (some .int), (fun _ _ _ _ => True), "add")
abbrev w_Cl_add : List Cond := Cond.code y_Cl_add b_Cl_add 7 (some .int) :: gw
abbrev e_La_arc : g_Me := (R_La, b_La_arc, 7, (some .int), (fun _ _ _ _ => True), "arc")
abbrev e_Fu_arc : g_Me := (R_Fu, b_Fu_arc, 7, (some .int), (fun _ _ _ _ => True), "arc")
abbrev w_Fu_arc : List Cond := Cond.code y_Fu_arc b_Fu_arc 7 (some .int) :: gw
abbrev e_Cl_has : g_Me := (R_Cl, b_Cl_has, 2, (some .boolean), (fun _ _ _ _ => True), "has")
abbrev w_Cl_has : List Cond := Cond.code y_Cl_has b_Cl_has 2 (some .boolean) :: gw
abbrev e_En_callInBody : g_Me := (R_En, b_En_callInBody, 3, (some .int), (fun _ _ _ _ => True), "callInBody")
abbrev w_En_callInBody : List Cond := Cond.code y_En_callInBody b_En_callInBody 3 (some .int) :: gw
abbrev e_La_run : g_Me := (R_La, b_La_run, 7, (some .int), (fun _ _ _ _ => True), "run")
abbrev e_Fu_run : g_Me := (R_Fu, b_Fu_run, 5, (some .int), (fun _ _ _ _ => True), "run")
abbrev w_Fu_run : List Cond := Cond.code y_Fu_run b_Fu_run 5 (some .int) :: gw
abbrev e_Fu_areArguments : g_Me := (R_Fu, b_Fu_areArguments, 6, (some .boolean), (fun _ _ _ _ => True), "areArguments")
abbrev w_Fu_areArguments : List Cond := Cond.code y_Fu_areArguments b_Fu_areArguments 6 (some .boolean) :: gw
abbrev e_Ma_perform : g_Me := (R_Ma, b_Ma_perform, 6, (some .int), (fun _ _ _ _ => True), "perform")
abbrev w_Ma_perform : List Cond := Cond.code y_Ma_perform b_Ma_perform 6 (some .int) :: gw
abbrev e_Va_forgetMade : g_Me := (R_Va, b_Va_forgetMade, 1, none, (fun _ _ _ _ => True), "forgetMade")
abbrev w_Va_forgetMade : List Cond := Cond.code y_Va_forgetMade b_Va_forgetMade 1 none :: gw
abbrev e_Ma_hold : g_Me := (R_Ma, b_Ma_hold, 2, none, (fun _ _ _ _ => True), "hold")
abbrev w_Ma_hold : List Cond := Cond.code y_Ma_hold b_Ma_hold 2 none :: gw
abbrev e_Ma_step : g_Me := (R_Ma, b_Ma_step, 6, none, (fun _ _ _ _ => True), "step")
abbrev w_Ma_step : List Cond := Cond.code y_Ma_step b_Ma_step 6 none :: gw
abbrev e_Ma_matchesAll : g_Me := (R_Ma, b_Ma_matchesAll, 5, (some .boolean), (fun _ _ _ _ => True), "matchesAll")
abbrev w_Ma_matchesAll : List Cond := Cond.code y_Ma_matchesAll b_Ma_matchesAll 5 (some .boolean) :: gw
abbrev e_Ma_matches : g_Me := (R_Ma, b_Ma_matches, 5, (some .boolean), (fun _ _ _ _ => True), "matches")
abbrev w_Ma_matches : List Cond := Cond.code y_Ma_matches b_Ma_matches 5 (some .boolean) :: gw
abbrev e_Va_maker : g_Me := (R_Va, b_Va_maker, 2, (some .int), (fun _ _ _ _ => True), "maker")
abbrev w_Va_maker : List Cond := Cond.code y_Va_maker b_Va_maker 2 (some .int) :: gw
abbrev e_Va_part : g_Me := (R_Va, b_Va_part, 3, (some .int), (fun _ _ _ _ => True), "part")
abbrev w_Va_part : List Cond := Cond.code y_Va_part b_Va_part 3 (some .int) :: gw
abbrev e_Ma_open : g_Me := (R_Ma, b_Ma_open, 3, none, (fun _ _ _ _ => True), "open")
abbrev w_Ma_open : List Cond := Cond.code y_Ma_open b_Ma_open 3 none :: gw
abbrev e_Ma_turn : g_Me := (R_Ma, b_Ma_turn, 4, none, (fun _ _ _ _ => True), "turn")
abbrev w_Ma_turn : List Cond := Cond.code y_Ma_turn b_Ma_turn 4 none :: gw
abbrev e_Ma_build : g_Me := (R_Ma, b_Ma_build, 4, none, (fun _ _ _ _ => True), "build")
abbrev w_Ma_build : List Cond := Cond.code y_Ma_build b_Ma_build 4 none :: gw
abbrev e_Va_isFull : g_Me := (R_Va, b_Va_isFull, 1, (some .boolean), (fun _ _ _ _ => True), "isFull")
abbrev w_Va_isFull : List Cond := Cond.code y_Va_isFull b_Va_isFull 1 (some .boolean) :: gw
abbrev e_Va_add : g_Me := (R_Va, b_Va_add, 5, (some .int), (fun _ _ _ _ => True), "add")
abbrev w_Va_add : List Cond := Cond.code y_Va_add b_Va_add 5 (some .int) :: gw
abbrev e_Va_size : g_Me := (R_Va, b_Va_size, 2, (some .int), (fun _ _ _ _ => True), "size")
abbrev w_Va_size : List Cond := Cond.code y_Va_size b_Va_size 2 (some .int) :: gw
abbrev e_Te_size : g_Me := (R_Te, b_Te_size, 2, (some .int), (fun _ _ _ _ => True), "size")
abbrev w_Te_size : List Cond := Cond.code y_Te_size b_Te_size 2 (some .int) :: gw
abbrev e_Ma_writeAnswer : g_Me := (R_Ma, b_Ma_writeAnswer, 5, none, (fun _ _ _ _ => True), "writeAnswer")
abbrev w_Ma_writeAnswer : List Cond := Cond.code y_Ma_writeAnswer b_Ma_writeAnswer 5 none :: gw
abbrev e_Va_width : g_Me := (R_Va, b_Va_width, 2, (some .int), (fun _ _ _ _ => True), "width")
abbrev w_Va_width : List Cond := Cond.code y_Va_width b_Va_width 2 (some .int) :: gw
abbrev e_La_answer : g_Me := (R_La, b_La_answer, 4, (some .int), (fun _ _ _ _ => True), "answer")
abbrev e_Fu_answer : g_Me := (R_Fu, b_Fu_answer, 2, (some .int), (fun _ _ _ _ => True), "answer")
abbrev w_Fu_answer : List Cond := Cond.code y_Fu_answer b_Fu_answer 2 (some .int) :: gw
abbrev e_Ma_answerSize : g_Me := (R_Ma, b_Ma_answerSize, 1, (some .int), (fun _ _ _ _ => True), "answerSize")
abbrev w_Ma_answerSize : List Cond := Cond.code y_Ma_answerSize b_Ma_answerSize 1 (some .int) :: gw
abbrev e_Ma_answerAt : g_Me := (R_Ma, b_Ma_answerAt, 2, (some .int), (fun _ _ _ _ => True), "answerAt")
abbrev w_Ma_answerAt : List Cond := Cond.code y_Ma_answerAt b_Ma_answerAt 2 (some .int) :: gw
abbrev e_Mo_init : g_Me := (R_Mo, b_Mo_init, 1, none, (fun _ _ _ _ => True), "<init>")
abbrev w_Mo_init : List Cond := Cond.code y_Mo_init b_Mo_init 1 none :: gw
abbrev e_Mo_thrown : g_Me := (R_Mo, b_Mo_thrown, 1, (some .int), (fun _ _ _ _ => True), "thrown")
abbrev w_Mo_thrown : List Cond := Cond.code y_Mo_thrown b_Mo_thrown 1 (some .int) :: gw
abbrev e_Mo_constructor : g_Me := (R_Mo, b_Mo_constructor, 5, (some .int), (fun _ _ _ _ => True), "constructor")
abbrev w_Mo_constructor : List Cond := Cond.code y_Mo_constructor b_Mo_constructor 5 (some .int) :: gw
abbrev e_Mo_wrongTypes : g_Me := (R_Mo, b_Mo_wrongTypes, 7, (some .boolean), (fun _ _ _ _ => True), "wrongTypes")
abbrev w_Mo_wrongTypes : List Cond := Cond.code y_Mo_wrongTypes b_Mo_wrongTypes 7 (some .boolean) :: gw
abbrev e_Mo_outside : g_Me := (R_Mo, b_Mo_outside, 2, (some .boolean), (fun _ _ _ _ => True), "outside")
abbrev w_Mo_outside : List Cond := Cond.code y_Mo_outside b_Mo_outside 2 (some .boolean) :: gw
abbrev e_Mo_many : g_Me := (R_Mo, b_Mo_many, 3, (some .int), (fun _ _ _ _ => True), "many")
abbrev w_Mo_many : List Cond := Cond.code y_Mo_many b_Mo_many 3 (some .int) :: gw
abbrev e_Mo_function : g_Me := (R_Mo, b_Mo_function, 5, (some .int), (fun _ _ _ _ => True), "function")
abbrev w_Mo_function : List Cond := Cond.code y_Mo_function b_Mo_function 5 (some .int) :: gw
abbrev e_Mo_variable : g_Me := (R_Mo, b_Mo_variable, 2, (some .int), (fun _ _ _ _ => True), "variable")
abbrev w_Mo_variable : List Cond := Cond.code y_Mo_variable b_Mo_variable 2 (some .int) :: gw
abbrev e_Mo_make : g_Me := (R_Mo, b_Mo_make, 5, (some .int), (fun _ _ _ _ => True), "make")
abbrev w_Mo_make : List Cond := Cond.code y_Mo_make b_Mo_make 5 (some .int) :: gw
abbrev e_Mo_build : g_Me := (R_Mo, b_Mo_build, 11, (some .int), (fun _ _ _ _ => True), "build")
abbrev w_Mo_build : List Cond := Cond.code y_Mo_build b_Mo_build 11 (some .int) :: gw
abbrev e_Mo_isTerm : g_Me := (R_Mo, b_Mo_isTerm, 2, (some .boolean), (fun _ _ _ _ => True), "isTerm")
abbrev w_Mo_isTerm : List Cond := Cond.code y_Mo_isTerm b_Mo_isTerm 2 (some .boolean) :: gw
abbrev e_Mo_call : g_Me := (R_Mo, b_Mo_call, 5, (some .int), (fun _ _ _ _ => True), "call")
abbrev w_Mo_call : List Cond := Cond.code y_Mo_call b_Mo_call 5 (some .int) :: gw
abbrev e_Mo_clause : g_Me := (R_Mo, b_Mo_clause, 9, (some .int), (fun _ _ _ _ => True), "clause")
abbrev w_Mo_clause : List Cond := Cond.code y_Mo_clause b_Mo_clause 9 (some .int) :: gw
abbrev e_Mo_isClause : g_Me := (R_Mo, b_Mo_isClause, 8, (some .boolean), (fun _ _ _ _ => True), "isClause")
abbrev w_Mo_isClause : List Cond := Cond.code y_Mo_isClause b_Mo_isClause 8 (some .boolean) :: gw
abbrev e_Mo_isPattern : g_Me := (R_Mo, b_Mo_isPattern, 3, (some .boolean), (fun _ _ _ _ => True), "isPattern")
abbrev w_Mo_isPattern : List Cond := Cond.code y_Mo_isPattern b_Mo_isPattern 3 (some .boolean) :: gw
abbrev e_Mo_push : g_Me := (R_Mo, b_Mo_push, 3, none, (fun _ _ _ _ => True), "push")
abbrev w_Mo_push : List Cond := Cond.code y_Mo_push b_Mo_push 3 none :: gw
abbrev e_Mo_pushBelow : g_Me := (R_Mo, b_Mo_pushBelow, 3, none, (fun _ _ _ _ => True), "pushBelow")
abbrev w_Mo_pushBelow : List Cond := Cond.code y_Mo_pushBelow b_Mo_pushBelow 3 none :: gw
abbrev e_Mo_places : g_Me := (R_Mo, b_Mo_places, 3, (some .int), (fun _ _ _ _ => True), "places")
abbrev w_Mo_places : List Cond := Cond.code y_Mo_places b_Mo_places 3 (some .int) :: gw
abbrev e_Mo_isBody : g_Me := (R_Mo, b_Mo_isBody, 3, (some .boolean), (fun _ _ _ _ => True), "isBody")
abbrev w_Mo_isBody : List Cond := Cond.code y_Mo_isBody b_Mo_isBody 3 (some .boolean) :: gw
abbrev e_Mo_check : g_Me := (R_Mo, b_Mo_check, 3, (some .int), (fun _ _ _ _ => True), "check")
abbrev w_Mo_check : List Cond := Cond.code y_Mo_check b_Mo_check 3 (some .int) :: gw
abbrev e_Mo_allInhabited : g_Me := (R_Mo, b_Mo_allInhabited, 5, (some .boolean), (fun _ _ _ _ => True), "allInhabited")
abbrev w_Mo_allInhabited : List Cond := Cond.code y_Mo_allInhabited b_Mo_allInhabited 5 (some .boolean) :: gw
abbrev e_Mo_allTyped : g_Me := (R_Mo, b_Mo_allTyped, 4, (some .boolean), (fun _ _ _ _ => True), "allTyped")
abbrev w_Mo_allTyped : List Cond := Cond.code y_Mo_allTyped b_Mo_allTyped 4 (some .boolean) :: gw
abbrev e_Mo_isTyped : g_Me := (R_Mo, b_Mo_isTyped, 8, (some .boolean), (fun _ _ _ _ => True), "isTyped")
abbrev w_Mo_isTyped : List Cond := Cond.code y_Mo_isTyped b_Mo_isTyped 8 (some .boolean) :: gw
abbrev e_Mo_isCovered : g_Me := (R_Mo, b_Mo_isCovered, 7, (some .boolean), (fun _ _ _ _ => True), "isCovered")
abbrev w_Mo_isCovered : List Cond := Cond.code y_Mo_isCovered b_Mo_isCovered 7 (some .boolean) :: gw
abbrev e_Mo_stands : g_Me := (R_Mo, b_Mo_stands, 7, (some .int), (fun _ _ _ _ => True), "stands")
abbrev w_Mo_stands : List Cond := Cond.code y_Mo_stands b_Mo_stands 7 (some .int) :: gw
abbrev e_Mo_wants : g_Me := (R_Mo, b_Mo_wants, 5, (some .int), (fun _ _ _ _ => True), "wants")
abbrev w_Mo_wants : List Cond := Cond.code y_Mo_wants b_Mo_wants 5 (some .int) :: gw
abbrev e_Mo_splitAt : g_Me := (R_Mo, b_Mo_splitAt, 8, (some .int), (fun _ _ _ _ => True), "splitAt")
abbrev w_Mo_splitAt : List Cond := Cond.code y_Mo_splitAt b_Mo_splitAt 8 (some .int) :: gw
abbrev e_Mo_typeAt : g_Me := (R_Mo, b_Mo_typeAt, 4, (some .int), (fun _ _ _ _ => True), "typeAt")
abbrev w_Mo_typeAt : List Cond := Cond.code y_Mo_typeAt b_Mo_typeAt 4 (some .int) :: gw
abbrev e_Mo_isEnding : g_Me := (R_Mo, b_Mo_isEnding, 4, (some .boolean), (fun _ _ _ _ => True), "isEnding")
abbrev w_Mo_isEnding : List Cond := Cond.code y_Mo_isEnding b_Mo_isEnding 4 (some .boolean) :: gw
abbrev e_Mo_callGraphs : g_Me := (R_Mo, b_Mo_callGraphs, 8, none, (fun _ _ _ _ => True), "callGraphs")
abbrev w_Mo_callGraphs : List Cond := Cond.code y_Mo_callGraphs b_Mo_callGraphs 8 none :: gw
abbrev e_Mo_callOf : g_Me := (R_Mo, b_Mo_callOf, 5, (some .int), (fun _ _ _ _ => True), "callOf")
abbrev w_Mo_callOf : List Cond := Cond.code y_Mo_callOf b_Mo_callOf 5 (some .int) :: gw
abbrev e_Mo_arcOf : g_Me := (R_Mo, b_Mo_arcOf, 5, (some .int), (fun _ _ _ _ => True), "arcOf")
abbrev w_Mo_arcOf : List Cond := Cond.code y_Mo_arcOf b_Mo_arcOf 5 (some .int) :: gw
abbrev e_Mo_inside : g_Me := (R_Mo, b_Mo_inside, 7, (some .int), (fun _ _ _ _ => True), "inside")
abbrev w_Mo_inside : List Cond := Cond.code y_Mo_inside b_Mo_inside 7 (some .int) :: gw
abbrev e_Mo_alike : g_Me := (R_Mo, b_Mo_alike, 6, (some .boolean), (fun _ _ _ _ => True), "alike")
abbrev w_Mo_alike : List Cond := Cond.code y_Mo_alike b_Mo_alike 6 (some .boolean) :: gw
abbrev e_Mo_addGraph : g_Me := (R_Mo, b_Mo_addGraph, 5, none, (fun _ _ _ _ => True), "addGraph")
abbrev w_Mo_addGraph : List Cond := Cond.code y_Mo_addGraph b_Mo_addGraph 5 none :: gw
abbrev e_Mo_composed : g_Me := (R_Mo, b_Mo_composed, 10, (some .int), (fun _ _ _ _ => True), "composed")
abbrev w_Mo_composed : List Cond := Cond.code y_Mo_composed b_Mo_composed 10 (some .int) :: gw
abbrev e_Mo_arcAt : g_Me := (R_Mo, b_Mo_arcAt, 3, (some .int), (fun _ _ _ _ => True), "arcAt")
abbrev w_Mo_arcAt : List Cond := Cond.code y_Mo_arcAt b_Mo_arcAt 3 (some .int) :: gw
abbrev e_Mo_graphs : g_Me := (R_Mo, b_Mo_graphs, 1, (some .int), (fun _ _ _ _ => True), "graphs")
abbrev w_Mo_graphs : List Cond := Cond.code y_Mo_graphs b_Mo_graphs 1 (some .int) :: gw
abbrev e_Mo_arc : g_Me := (R_Mo, b_Mo_arc, 8, (some .int), (fun _ _ _ _ => True), "arc")
abbrev w_Mo_arc : List Cond := Cond.code y_Mo_arc b_Mo_arc 8 (some .int) :: gw
abbrev e_Mo_isValue : g_Me := (R_Mo, b_Mo_isValue, 3, (some .boolean), (fun _ _ _ _ => True), "isValue")
abbrev w_Mo_isValue : List Cond := Cond.code y_Mo_isValue b_Mo_isValue 3 (some .boolean) :: gw
abbrev e_Mo_isClosed : g_Me := (R_Mo, b_Mo_isClosed, 3, (some .boolean), (fun _ _ _ _ => True), "isClosed")
abbrev w_Mo_isClosed : List Cond := Cond.code y_Mo_isClosed b_Mo_isClosed 3 (some .boolean) :: gw
abbrev e_Mo_run : g_Me := (R_Mo, b_Mo_run, 7, (some .int), (fun _ _ _ _ => True), "run")
abbrev w_Mo_run : List Cond := Cond.code y_Mo_run b_Mo_run 7 (some .int) :: gw
abbrev e_Mo_give : g_Me := (R_Mo, b_Mo_give, 3, none, (fun _ _ _ _ => True), "give")
abbrev w_Mo_give : List Cond := Cond.code y_Mo_give b_Mo_give 3 none :: gw
abbrev e_Mo_doLater : g_Me := (R_Mo, b_Mo_doLater, 3, none, (fun _ _ _ _ => True), "doLater")
abbrev w_Mo_doLater : List Cond := Cond.code y_Mo_doLater b_Mo_doLater 3 none :: gw
abbrev e_Mo_evaluate : g_Me := (R_Mo, b_Mo_evaluate, 5, none, (fun _ _ _ _ => True), "evaluate")
abbrev w_Mo_evaluate : List Cond := Cond.code y_Mo_evaluate b_Mo_evaluate 5 none :: gw
abbrev e_Mo_hold : g_Me := (R_Mo, b_Mo_hold, 6, none, (fun _ _ _ _ => True), "hold")
abbrev w_Mo_hold : List Cond := Cond.code y_Mo_hold b_Mo_hold 6 none :: gw
abbrev e_Mo_finished : g_Me := (R_Mo, b_Mo_finished, 3, (some .boolean), (fun _ _ _ _ => True), "finished")
abbrev w_Mo_finished : List Cond := Cond.code y_Mo_finished b_Mo_finished 3 (some .boolean) :: gw
abbrev e_Mo_enter : g_Me := (R_Mo, b_Mo_enter, 7, (some .boolean), (fun _ _ _ _ => True), "enter")
abbrev w_Mo_enter : List Cond := Cond.code y_Mo_enter b_Mo_enter 7 (some .boolean) :: gw
abbrev e_Mo_matches : g_Me := (R_Mo, b_Mo_matches, 8, (some .boolean), (fun _ _ _ _ => True), "matches")
abbrev w_Mo_matches : List Cond := Cond.code y_Mo_matches b_Mo_matches 8 (some .boolean) :: gw
abbrev e_Mo_write : g_Me := (R_Mo, b_Mo_write, 4, none, (fun _ _ _ _ => True), "write")
abbrev w_Mo_write : List Cond := Cond.code y_Mo_write b_Mo_write 4 none :: gw
abbrev e_Mo_answer : g_Me := (R_Mo, b_Mo_answer, 2, (some .int), (fun _ _ _ _ => True), "answer")
abbrev w_Mo_answer : List Cond := Cond.code y_Mo_answer b_Mo_answer 2 (some .int) :: gw
abbrev e_Mo_count : g_Me := (R_Mo, b_Mo_count, 2, (some .int), (fun _ _ _ _ => True), "count")
abbrev w_Mo_count : List Cond := Cond.code y_Mo_count b_Mo_count 2 (some .int) :: gw
