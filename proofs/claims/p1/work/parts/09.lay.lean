/-! the cells of the two objects and of the law's own array, in the order in which they are made -/
def LX : g_L := [.inr (0, [some (some 1), some (some 5), some (some 9), some (some 19), some (some 25), some (some 27), some (some 30), some (some 34), none, none]), .inr (1, [none, some (some 2), some (some 3), some (some 4), none]), .inl (0, 8), .inl (0, 8), .inl (0, 24), .inr (1, [none, some (some 6), some (some 7), some (some 8), none]), .inl (0, 6), .inl (0, 6), .inl (0, 18), .inr (2, [some (some 10), some (some 11), some (some 12), some (some 13), some (some 14), some (some 15), some (some 16), some (some 17), some (some 18), none]), .inl (0, 100), .inl (0, 100), .inl (0, 100), .inl (0, 300), .inl (0, 100), .inl (0, 100), .inl (0, 100), .inl (1, 100), .inl (1, 100), .inr (3, [some (some 5), some (some 9), some (some 20), some (some 21), some (some 22), some (some 23), some (some 24), none]), .inl (0, 24), .inl (0, 72), .inl (0, 24), .inl (0, 36), .inl (0, 6), .inr (4, [some (some 1), some (some 5), some (some 9), some (some 19), some (some 26)]), .inl (0, 8), .inr (5, [some (some 1), some (some 5), some (some 9), some (some 19), some (some 28), some (some 29)]), .inl (0, 72), .inl (0, 12), .inr (6, [some (some 5), some (some 9), some (some 19), some (some 31), none, some (some 32), none, none, some (some 33)]), .inl (0, 40), .inl (0, 200), .inl (0, 512), .inr (8, [some (some 5), some (some 9), some (some 19), some (some 35), some (some 39), some (some 40), some (some 41), none, some (some 42), none, some (some 43), none, none, some (some 44), none]), .inr (7, [some (some 1), some (some 9), some (some 36), some (some 37), some (some 38), none]), .inl (0, 600), .inl (0, 1800), .inl (0, 600), .inl (0, 1001), .inl (0, 1001), .inl (0, 1001), .inl (0, 2005), .inl (0, 1600), .inl (0, 60), .inr (9, [none, some (some 46), some (some 47), some (some 48), none, some (some 49), some (some 50), some (some 51), none, some (some 52), some (some 53), some (some 54), some (some 55), none, some (some 56), some (some 57), some (some 58), none, none, some (some 59), some (some 60), some (some 61), none, some (some 62), some (some 63), some (some 64), some (some 65), some (some 66), some (some 67), none, some (some 68), some (some 69), some (some 70), none, none, none, some (some 71), some (some 72), none, some (some 73), some (some 74), some (some 75), none, some (some 76), none]), .inl (0, 8), .inl (0, 8), .inl (0, 24), .inl (0, 6), .inl (0, 6), .inl (0, 18), .inl (0, 100), .inl (0, 300), .inl (0, 100), .inl (0, 100), .inl (0, 24), .inl (0, 72), .inl (0, 24), .inl (0, 201), .inl (0, 201), .inl (0, 201), .inl (0, 200), .inl (0, 200), .inl (1, 8), .inl (0, 8), .inl (1, 3), .inl (0, 1200), .inl (0, 730), .inl (0, 2190), .inl (0, 730), .inl (0, 3700), .inl (0, 3700), .inl (0, 2500), .inl (0, 1640), .inl (0, 3), .inl (0, 60), .inl (2, 1)]
theorem lx_0 : LX[0]? = some (.inr (0, [some (some 1), some (some 5), some (some 9), some (some 19), some (some 25), some (some 27), some (some 30), some (some 34), none, none])) := rfl
theorem lx_1 : LX[1]? = some (.inr (1, [none, some (some 2), some (some 3), some (some 4), none])) := rfl
theorem lx_2 : LX[2]? = some (.inl (0, 8)) := rfl
theorem lx_3 : LX[3]? = some (.inl (0, 8)) := rfl
theorem lx_4 : LX[4]? = some (.inl (0, 24)) := rfl
theorem lx_5 : LX[5]? = some (.inr (1, [none, some (some 6), some (some 7), some (some 8), none])) := rfl
theorem lx_6 : LX[6]? = some (.inl (0, 6)) := rfl
theorem lx_7 : LX[7]? = some (.inl (0, 6)) := rfl
theorem lx_8 : LX[8]? = some (.inl (0, 18)) := rfl
theorem lx_9 : LX[9]? = some (.inr (2, [some (some 10), some (some 11), some (some 12), some (some 13), some (some 14), some (some 15), some (some 16), some (some 17), some (some 18), none])) := rfl
theorem lx_10 : LX[10]? = some (.inl (0, 100)) := rfl
theorem lx_11 : LX[11]? = some (.inl (0, 100)) := rfl
theorem lx_12 : LX[12]? = some (.inl (0, 100)) := rfl
theorem lx_13 : LX[13]? = some (.inl (0, 300)) := rfl
theorem lx_14 : LX[14]? = some (.inl (0, 100)) := rfl
theorem lx_15 : LX[15]? = some (.inl (0, 100)) := rfl
theorem lx_16 : LX[16]? = some (.inl (0, 100)) := rfl
theorem lx_17 : LX[17]? = some (.inl (1, 100)) := rfl
theorem lx_18 : LX[18]? = some (.inl (1, 100)) := rfl
theorem lx_19 : LX[19]? = some (.inr (3, [some (some 5), some (some 9), some (some 20), some (some 21), some (some 22), some (some 23), some (some 24), none])) := rfl
theorem lx_20 : LX[20]? = some (.inl (0, 24)) := rfl
theorem lx_21 : LX[21]? = some (.inl (0, 72)) := rfl
theorem lx_22 : LX[22]? = some (.inl (0, 24)) := rfl
theorem lx_23 : LX[23]? = some (.inl (0, 36)) := rfl
theorem lx_24 : LX[24]? = some (.inl (0, 6)) := rfl
theorem lx_25 : LX[25]? = some (.inr (4, [some (some 1), some (some 5), some (some 9), some (some 19), some (some 26)])) := rfl
theorem lx_26 : LX[26]? = some (.inl (0, 8)) := rfl
theorem lx_27 : LX[27]? = some (.inr (5, [some (some 1), some (some 5), some (some 9), some (some 19), some (some 28), some (some 29)])) := rfl
theorem lx_28 : LX[28]? = some (.inl (0, 72)) := rfl
theorem lx_29 : LX[29]? = some (.inl (0, 12)) := rfl
theorem lx_30 : LX[30]? = some (.inr (6, [some (some 5), some (some 9), some (some 19), some (some 31), none, some (some 32), none, none, some (some 33)])) := rfl
theorem lx_31 : LX[31]? = some (.inl (0, 40)) := rfl
theorem lx_32 : LX[32]? = some (.inl (0, 200)) := rfl
theorem lx_33 : LX[33]? = some (.inl (0, 512)) := rfl
theorem lx_34 : LX[34]? = some (.inr (8, [some (some 5), some (some 9), some (some 19), some (some 35), some (some 39), some (some 40), some (some 41), none, some (some 42), none, some (some 43), none, none, some (some 44), none])) := rfl
theorem lx_35 : LX[35]? = some (.inr (7, [some (some 1), some (some 9), some (some 36), some (some 37), some (some 38), none])) := rfl
theorem lx_36 : LX[36]? = some (.inl (0, 600)) := rfl
theorem lx_37 : LX[37]? = some (.inl (0, 1800)) := rfl
theorem lx_38 : LX[38]? = some (.inl (0, 600)) := rfl
theorem lx_39 : LX[39]? = some (.inl (0, 1001)) := rfl
theorem lx_40 : LX[40]? = some (.inl (0, 1001)) := rfl
theorem lx_41 : LX[41]? = some (.inl (0, 1001)) := rfl
theorem lx_42 : LX[42]? = some (.inl (0, 2005)) := rfl
theorem lx_43 : LX[43]? = some (.inl (0, 1600)) := rfl
theorem lx_44 : LX[44]? = some (.inl (0, 60)) := rfl
theorem lx_45 : LX[45]? = some (.inr (9, [none, some (some 46), some (some 47), some (some 48), none, some (some 49), some (some 50), some (some 51), none, some (some 52), some (some 53), some (some 54), some (some 55), none, some (some 56), some (some 57), some (some 58), none, none, some (some 59), some (some 60), some (some 61), none, some (some 62), some (some 63), some (some 64), some (some 65), some (some 66), some (some 67), none, some (some 68), some (some 69), some (some 70), none, none, none, some (some 71), some (some 72), none, some (some 73), some (some 74), some (some 75), none, some (some 76), none])) := rfl
theorem lx_46 : LX[46]? = some (.inl (0, 8)) := rfl
theorem lx_47 : LX[47]? = some (.inl (0, 8)) := rfl
theorem lx_48 : LX[48]? = some (.inl (0, 24)) := rfl
theorem lx_49 : LX[49]? = some (.inl (0, 6)) := rfl
theorem lx_50 : LX[50]? = some (.inl (0, 6)) := rfl
theorem lx_51 : LX[51]? = some (.inl (0, 18)) := rfl
theorem lx_52 : LX[52]? = some (.inl (0, 100)) := rfl
theorem lx_53 : LX[53]? = some (.inl (0, 300)) := rfl
theorem lx_54 : LX[54]? = some (.inl (0, 100)) := rfl
theorem lx_55 : LX[55]? = some (.inl (0, 100)) := rfl
theorem lx_56 : LX[56]? = some (.inl (0, 24)) := rfl
theorem lx_57 : LX[57]? = some (.inl (0, 72)) := rfl
theorem lx_58 : LX[58]? = some (.inl (0, 24)) := rfl
theorem lx_59 : LX[59]? = some (.inl (0, 201)) := rfl
theorem lx_60 : LX[60]? = some (.inl (0, 201)) := rfl
theorem lx_61 : LX[61]? = some (.inl (0, 201)) := rfl
theorem lx_62 : LX[62]? = some (.inl (0, 200)) := rfl
theorem lx_63 : LX[63]? = some (.inl (0, 200)) := rfl
theorem lx_64 : LX[64]? = some (.inl (1, 8)) := rfl
theorem lx_65 : LX[65]? = some (.inl (0, 8)) := rfl
theorem lx_66 : LX[66]? = some (.inl (1, 3)) := rfl
theorem lx_67 : LX[67]? = some (.inl (0, 1200)) := rfl
theorem lx_68 : LX[68]? = some (.inl (0, 730)) := rfl
theorem lx_69 : LX[69]? = some (.inl (0, 2190)) := rfl
theorem lx_70 : LX[70]? = some (.inl (0, 730)) := rfl
theorem lx_71 : LX[71]? = some (.inl (0, 3700)) := rfl
theorem lx_72 : LX[72]? = some (.inl (0, 3700)) := rfl
theorem lx_73 : LX[73]? = some (.inl (0, 2500)) := rfl
theorem lx_74 : LX[74]? = some (.inl (0, 1640)) := rfl
theorem lx_75 : LX[75]? = some (.inl (0, 3)) := rfl
theorem lx_76 : LX[76]? = some (.inl (0, 60)) := rfl
theorem lx_77 : LX[77]? = some (.inl (2, 1)) := rfl
theorem g_hls {av : List g_v} {k : Nat} : ∀ (i : Nat) (v : g_v), (av.map some ++ List.replicate k none)[i]? = some (some v) → av[i]? = some v := by
  intro i v h
  by_cases hi : i < av.length
  · rw [List.getElem?_append_left (by simpa using hi), List.getElem?_map] at h
    cases h2 : av[i]? with
    | none => rw [h2] at h; cases h
    | some w => rw [h2] at h; simpa using h
  · rw [List.getElem?_append_right (by simpa using hi)] at h
    have := List.eq_of_mem_replicate (List.mem_of_getElem? h)
    cases this
theorem ev_retI {Me : g_Me} {R : Room} {pc mc ms nc ns : Nat} {ls : g_Ls} {L : g_L} {M M' : g_M} {z r : Int} {cc : ByteArray} {ret : Option FieldType} (h : decode cc pc = .ok (.ireturn, 1)) (hz : z = r) (hM : M = M') (hr : ret = some .int ∨ (ret = some .boolean ∧ (r = 0 ∨ r = 1))) (hc : nc ≤ mc := by first | exact Nat.le_refl _ | decide) (hs : ns ≤ ms := by first | exact Nat.le_refl _ | decide) : Ev Me R (g_fin cc ret mc ms L M' (some (g_i r))) pc ls [g_i z] L M nc ns := by
  subst hz
  subst hM
  exact ev_done ⟨rfl, rfl, hc, hs, rfl, h, hr⟩
theorem ev_retV {Me : g_Me} {R : Room} {pc mc ms nc ns : Nat} {ls : g_Ls} {L L' : g_L} {M M' : g_M} {cc : ByteArray} {ret : Option FieldType} (h : decode cc pc = .ok (.return_, 1)) (hM : M = M') (hL : L = L' := by rfl) (hr : ret = none := by rfl) (hc : nc ≤ mc := by first | exact Nat.le_refl _ | decide) (hs : ns ≤ ms := by first | exact Nat.le_refl _ | decide) : Ev Me R (g_fin cc ret mc ms L' M' none) pc ls [] L M nc ns := by
  subst hM
  subst hL
  exact ev_done ⟨rfl, rfl, hc, hs, rfl, h, hr⟩

