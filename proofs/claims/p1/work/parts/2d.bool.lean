section BOO
variable {Me : g_Me} {R : Room} {Fi : g_Fin} {pc q : Nat} {ls : g_Ls} {st : List g_v} {L : g_L} {M : g_M} {nc ns : Nat}
theorem ev_bne {c : Prop} [Decidable c] {off : Int} {tgt : Nat} (h : decode Me.2.1 pc = .ok (.ifCond .ne off, 3)) (ht : (pc : Int) + off = (tgt : Int)) (hq : pc + 3 = q) (kt : c → Ev Me R Fi tgt ls st L M nc ns) (kf : ¬ c → Ev Me R Fi q ls st L M nc ns) : Ev Me R Fi pc ls (g_i (if c then 1 else 0) :: st) L M nc ns :=
  ev_if_ne h ht hq (fun h1 => kt (Classical.byContradiction fun h2 => h1 (if_neg h2))) (fun h1 => kf (fun h2 => by rw [if_pos h2] at h1; cases h1))
theorem ev_beq {c : Prop} [Decidable c] {off : Int} {tgt : Nat} (h : decode Me.2.1 pc = .ok (.ifCond .eq off, 3)) (ht : (pc : Int) + off = (tgt : Int)) (hq : pc + 3 = q) (kt : ¬ c → Ev Me R Fi tgt ls st L M nc ns) (kf : c → Ev Me R Fi q ls st L M nc ns) : Ev Me R Fi pc ls (g_i (if c then 1 else 0) :: st) L M nc ns :=
  ev_if_eq h ht hq (fun h1 => kt (fun h2 => by rw [if_pos h2] at h1; cases h1)) (fun h1 => kf (Classical.byContradiction fun h2 => h1 (if_neg h2)))
abbrev s_t (t : Int) : Prop := 0 ≤ t ∧ t < 3
abbrev s_ok (t a b c : Int) : Prop := (0 ≤ t ∧ t < 3) ∧ (a = -1 ∨ ((0 ≤ a ∧ a < 3) ∧ (b = -1 ∨ ((0 ≤ b ∧ b < 3) ∧ (c = -1 ∨ (0 ≤ c ∧ c < 3))))))
/-- how many places stand before the first -1 -/
abbrev s_w (a b c : Int) : Int := if a = -1 then 0 else if b = -1 then 1 else if c = -1 then 2 else 3
end BOO
