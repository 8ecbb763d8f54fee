/-! values as trees: node c is tag c, its parts append .. nil -/
abbrev u_F : Type := Std.Format
def u_sz : u_F → Nat
  | .tag _ l => 1 + u_sz l
  | .append a l => u_sz a + u_sz l
  | _ => 0
def u_pr : u_F → List Nat
  | .tag c l => c :: u_pr l
  | .append a l => u_pr a ++ u_pr l
  | _ => []
theorem u_pr_len : ∀ t : u_F, (u_pr t).length = u_sz t
  | .tag _ l => by rw [u_pr, u_sz, List.length_cons, u_pr_len l, Nat.add_comm]
  | .append a l => by rw [u_pr, u_sz, List.length_append, u_pr_len a, u_pr_len l]
  | .nil => rfl
  | .line => rfl
  | .align _ => rfl
  | .text _ => rfl
  | .nest _ _ => rfl
  | .group _ _ => rfl
/-- the k-th of a row of parts -/
def u_ch : u_F → Nat → u_F
  | .append a _, 0 => a
  | .append _ l, k + 1 => u_ch l k
  | _, _ => .nil
def u_ls : List u_F → u_F
  | [] => .nil
  | a :: l => .append a (u_ls l)
theorem u_ch_ls : ∀ (l : List u_F) (k : Nat) (a : u_F), l[k]? = some a → u_ch (u_ls l) k = a
  | [], k, a, h => by simp at h
  | b :: l, 0, a, h => by simpa [u_ls, u_ch] using h
  | b :: l, k + 1, a, h => by
    rw [u_ls, u_ch]
    exact u_ch_ls l k a (by simpa using h)
/-- the number x stands for a tree (true), or from its i-th part on for a row of parts (false) -/
def u_rp (mk wt : Nat → Int) (pt : Nat → Nat → Int) (wd : Nat → Int) (ok : Nat → Prop) : u_F → Bool → Nat → Nat → Prop
  | .tag c l, true, x, _ => ok x ∧ mk x = (c : Int) ∧ wt x = ((1 + u_sz l : Nat) : Int) ∧ u_rp mk wt pt wd ok l false x 0
  | .append a l, false, x, i => (∃ y : Nat, pt x i = (y : Int) ∧ u_rp mk wt pt wd ok a true y 0) ∧ i < 3 ∧ u_rp mk wt pt wd ok l false x (i + 1)
  | .nil, false, x, i => wd (mk x).toNat = (i : Int)
  | _, _, _, _ => False
theorem u_rp_nd {mk wt : Nat → Int} {pt : Nat → Nat → Int} {wd : Nat → Int} {ok : Nat → Prop} {t : u_F} {x i : Nat} (h : u_rp mk wt pt wd ok t true x i) : ∃ (c : Nat) (l : u_F), t = .tag c l ∧ ok x ∧ mk x = (c : Int) ∧ wt x = ((1 + u_sz l : Nat) : Int) ∧ u_rp mk wt pt wd ok l false x 0 := by
  match t, h with
  | .tag c l, h => exact ⟨c, l, rfl, h⟩
  | .append _ _, h => exact absurd h id
  | .nil, h => exact absurd h id
  | .line, h => exact absurd h id
  | .align _, h => exact absurd h id
  | .text _, h => exact absurd h id
  | .nest _ _, h => exact absurd h id
  | .group _ _, h => exact absurd h id
theorem u_rp_rw {mk wt : Nat → Int} {pt : Nat → Nat → Int} {wd : Nat → Int} {ok : Nat → Prop} {t : u_F} {x i : Nat} (h : u_rp mk wt pt wd ok t false x i) : (t = .nil ∧ wd (mk x).toNat = (i : Int)) ∨ ∃ (a l : u_F), t = .append a l ∧ (∃ y : Nat, pt x i = (y : Int) ∧ u_rp mk wt pt wd ok a true y 0) ∧ i < 3 ∧ u_rp mk wt pt wd ok l false x (i + 1) := by
  match t, h with
  | .tag c l, h => exact absurd h id
  | .append a l, h => exact Or.inr ⟨a, l, rfl, h⟩
  | .nil, h => exact Or.inl ⟨rfl, h⟩
  | .line, h => exact absurd h id
  | .align _, h => exact absurd h id
  | .text _, h => exact absurd h id
  | .nest _ _, h => exact absurd h id
  | .group _ _, h => exact absurd h id
theorem u_rp_le {mk wt : Nat → Int} {pt : Nat → Nat → Int} {wd : Nat → Int} {ok : Nat → Prop} : ∀ (n : Nat) (l : u_F) (x i : Nat), u_rp mk wt pt wd ok l false x i → n + i = 3 → (i : Int) ≤ wd (mk x).toNat ∧ wd (mk x).toNat ≤ 3 := by
  intro n
  induction n with
  | zero =>
    intro l x i h hn
    rcases u_rp_rw h with ⟨-, h1⟩ | ⟨a, l, -, -, h1, -⟩
    · omega
    · omega
  | succ n ih =>
    intro l x i h hn
    rcases u_rp_rw h with ⟨-, h1⟩ | ⟨a, l, -, -, h1, h2⟩
    · omega
    · have := ih l x (i + 1) h2 (by omega)
      omega
/-- the k-th part -/
theorem u_rp_ch {mk wt : Nat → Int} {pt : Nat → Nat → Int} {wd : Nat → Int} {ok : Nat → Prop} : ∀ (k : Nat) (l : u_F) (x i : Nat), u_rp mk wt pt wd ok l false x i → ((i + k : Nat) : Int) < wd (mk x).toNat → ∃ y : Nat, pt x (i + k) = (y : Int) ∧ u_rp mk wt pt wd ok (u_ch l k) true y 0 := by
  intro k
  induction k with
  | zero =>
    intro l x i h hw
    rcases u_rp_rw h with ⟨-, h1⟩ | ⟨a, l, rfl, h1, -, -⟩
    · simp at hw; omega
    · exact h1
  | succ k ih =>
    intro l x i h hw
    rcases u_rp_rw h with ⟨-, h1⟩ | ⟨a, l, rfl, -, -, h2⟩
    · omega
    · rw [show i + (k + 1) = i + 1 + k by omega] at hw ⊢
      exact ih l x (i + 1) h2 hw
/-- it stays when values are added -/
theorem u_rp_mo {mk mk' wt wt' : Nat → Int} {pt pt' : Nat → Nat → Int} {wd : Nat → Int} {ok ok' : Nat → Prop} (hm : ∀ x, ok x → ok' x ∧ mk' x = mk x ∧ wt' x = wt x ∧ ∀ i, i < 3 → pt' x i = pt x i) : ∀ (t : u_F) (b : Bool) (x i : Nat), (b = false → ok x) → u_rp mk wt pt wd ok t b x i → u_rp mk' wt' pt' wd ok' t b x i
  | .tag c l, true, x, i, _, h => by
    obtain ⟨h1, h2, h4, h3⟩ := h
    obtain ⟨g1, g2, g4, g3⟩ := hm x h1
    exact ⟨g1, by rw [g2]; exact h2, by rw [g4]; exact h4, u_rp_mo hm l false x 0 (fun _ => h1) h3⟩
  | .append a l, false, x, i, hx, h => by
    obtain ⟨⟨y, h1, h2⟩, h3, h4⟩ := h
    obtain ⟨g1, g2, -, g3⟩ := hm x (hx rfl)
    exact ⟨⟨y, by rw [g3 i h3]; exact h1, u_rp_mo hm a true y 0 (fun h9 => absurd h9 (by decide)) h2⟩, h3, u_rp_mo hm l false x (i + 1) hx h4⟩
  | .nil, false, x, i, hx, h => by
    obtain ⟨g1, g2, -, g3⟩ := hm x (hx rfl)
    show wd (mk' x).toNat = (i : Int)
    rw [g2]
    exact h
  | .tag _ _, false, _, _, _, h => absurd h id
  | .append _ _, true, _, _, _, h => absurd h id
  | .nil, true, _, _, _, h => absurd h id
  | .line, b, _, _, _, h => by cases b <;> exact absurd h id
  | .align _, b, _, _, _, h => by cases b <;> exact absurd h id
  | .text _, b, _, _, _, h => by cases b <;> exact absurd h id
  | .nest _ _, b, _, _, _, h => by cases b <;> exact absurd h id
  | .group _ _, b, _, _, _, h => by cases b <;> exact absurd h id
/-- a row of parts that are there -/
theorem u_rp_ls {mk wt : Nat → Int} {pt : Nat → Nat → Int} {wd : Nat → Int} {ok : Nat → Prop} {x : Nat} : ∀ (l : List u_F) (i : Nat), (∀ (k : Nat) (a : u_F), l[k]? = some a → ∃ y : Nat, pt x (i + k) = (y : Int) ∧ u_rp mk wt pt wd ok a true y 0) → i + l.length ≤ 3 → wd (mk x).toNat = ((i + l.length : Nat) : Int) → u_rp mk wt pt wd ok (u_ls l) false x i
  | [], i, _, _, hw => by
    show wd (mk x).toNat = (i : Int)
    simpa using hw
  | a :: l, i, h, h3, hw => by
    rw [List.length_cons] at h3 hw
    refine ⟨h 0 a rfl, by omega, u_rp_ls l (i + 1) (fun k b hk => ?_) (by omega) (by rw [hw]; omega)⟩
    have := h (k + 1) b (by simpa using hk)
    rwa [show i + (k + 1) = i + 1 + k by omega] at this
/-! the machine, on trees -/
/-- a pattern against a tree: whether it matches, and what its variables stand for -/
def u_mf (M : g_M) : Nat → Nat → u_F → (Nat → u_F) → Bool × (Nat → u_F)
  | 0, _, _, b => (false, b)
  | f + 1, p, t, b => if M 52 p < 8 then (true, fun v => if v = (M 52 p).toNat then t else b v) else
    match t with
    | .tag c l => if M 52 p - 8 = (c : Int) then (List.range (q_w M p).toNat).foldl (fun r k => if r.1 = true then u_mf M f (M 53 (3 * p + k)).toNat (u_ch l k) r.2 else r) (true, b) else (false, b)
    | _ => (false, b)
/-- the patterns of a clause against the arguments -/
def u_mc (M : g_M) (c : Nat) (as : Nat → u_F) (b : Nat → u_F) (w : Nat) : Bool × (Nat → u_F) := (List.range w).foldl (fun r k => if r.1 = true then u_mf M ((M 57 (3 * c + k)).toNat + 1) (M 57 (3 * c + k)).toNat (as k) r.2 else r) (true, b)
/-- the first clause of f that matches -/
def u_en (M : g_M) (f w : Nat) (as : Nat → u_F) (b : Nat → u_F) (n : Nat) : Option Nat × (Nat → u_F) := (List.range n).foldl (fun r c => if r.1.isSome = true then r else if M 56 c = f then (if (u_mc M c as r.2 w).1 = true then some c else none, (u_mc M c as r.2 w).2) else r) (none, b)
/-- what is open, what is held, what variables stand for, steps, what was built -/
abbrev u_S : Type := List (Int × Nat) × List u_F × (Nat → Nat → u_F) × Nat × Nat
def u_op (M : g_M) (t : Nat) : Int := if M 52 t < 16 then -1 - (M 52 t - 8) else -11 - (M 52 t - 16)
/-- one step: the state behind it, and whether the run ended there -/
def u_st (M : g_M) : u_S → u_S × Bool
  | ([], H, B, st, bu) => (([], H, B, st, bu), false)
  | ((t, fr) :: K, H, B, st, bu) =>
    if 0 ≤ t then
      (if M 52 t.toNat < 8 then ((K, B fr (M 52 t.toNat).toNat :: H, B, st, bu), false)
       else (((q_kids M t.toNat).map (fun y : Nat => ((y : Int), fr)) ++ (u_op M t.toNat, fr) :: K, H, B, st, bu), false))
    else if t ≤ -11 then
      (if st = 200 then (((t, fr) :: K, H, B, st, bu), true)
       else
        match u_en M (-11 - t).toNat (M 50 (-11 - t).toNat).toNat (fun k => (H[(M 50 (-11 - t).toNat).toNat - 1 - k]?).getD .nil) (B (st + 1)) (M 45 13).toNat with
        | (none, b) => ((K, H.drop (M 50 (-11 - t).toNat).toNat, (fun q => if q = st + 1 then b else B q), st + 1, bu), true)
        | (some c, b) => (((M 58 c, st + 1) :: K, H.drop (M 50 (-11 - t).toNat).toNat, (fun q => if q = st + 1 then b else B q), st + 1, bu), false))
    else
      (if bu = 600 then (((t, fr) :: K, H, B, st, bu), true)
       else if 60 < u_sz (.tag (-1 - t).toNat (u_ls (H.take (M 47 (-1 - t).toNat).toNat).reverse)) then ((K, H, B, st, bu + 1), true)
       else ((K, .tag (-1 - t).toNat (u_ls (H.take (M 47 (-1 - t).toNat).toNat).reverse) :: H.drop (M 47 (-1 - t).toNat).toNat, B, st, bu + 1), false))
/-- n steps, none of which ends the run -/
def u_R (M : g_M) : Nat → u_S → u_S → Prop
  | 0, s, s' => s = s'
  | n + 1, s, s' => s.1 ≠ [] ∧ (u_st M s).2 = false ∧ u_R M n (u_st M s).1 s'
/-- how a run ends: its steps, and its value if it has one -/
def u_O (M : g_M) (s : u_S) (st : Nat) (v : Option u_F) : Prop := ∃ n s', u_R M n s s' ∧ ((s'.1 = [] ∧ st = s'.2.2.2.1 ∧ v = s'.2.1.head?) ∨ (s'.1 ≠ [] ∧ (u_st M s').2 = true ∧ st = (u_st M s').1.2.2.2.1 ∧ v = none))
theorem u_R_tr {M : g_M} : ∀ (n m : Nat) (s s1 s2 : u_S), u_R M n s s1 → u_R M m s1 s2 → u_R M (n + m) s s2
  | 0, m, s, s1, s2, h, h2 => by rw [Nat.zero_add]; rw [show s = s1 from h]; exact h2
  | n + 1, m, s, s1, s2, h, h2 => by
    rw [Nat.succ_add]
    exact ⟨h.1, h.2.1, u_R_tr n m _ s1 s2 h.2.2 h2⟩
theorem u_R_1 {M : g_M} {s : u_S} (h1 : s.1 ≠ []) (h2 : (u_st M s).2 = false) : u_R M 1 s (u_st M s).1 := ⟨h1, h2, rfl⟩
theorem u_R_det {M : g_M} : ∀ (n m : Nat) (s s1 s2 : u_S), u_R M n s s1 → u_R M m s s2 → n ≤ m → u_R M (m - n) s1 s2
  | 0, m, s, s1, s2, h, h2, _ => by rw [← show s = s1 from h]; exact h2
  | n + 1, 0, s, s1, s2, _, _, hl => by omega
  | n + 1, m + 1, s, s1, s2, h, h2, hl => by
    rw [Nat.succ_sub_succ]
    exact u_R_det n m _ s1 s2 h.2.2 h2.2.2 (by omega)
theorem u_O_un {M : g_M} {s : u_S} {st st' : Nat} {v v' : Option u_F} (h : u_O M s st v) (h' : u_O M s st' v') : st = st' ∧ v = v' := by
  obtain ⟨n, a, h1, h2⟩ := h
  obtain ⟨m, b, g1, g2⟩ := h'
  have key : ∀ (n m : Nat) (a b : u_S), u_R M n s a → u_R M m s b → (a.1 = [] ∨ (u_st M a).2 = true) → n ≤ m → a = b := by
    intro n m a b k1 k2 k3 k4
    have k5 := u_R_det n m s a b k1 k2 k4
    match hd : m - n, k5 with
    | 0, k5 => exact k5
    | d + 1, k5 =>
      rcases k3 with k3 | k3
      · exact absurd k3 k5.1
      · rw [k5.2.1] at k3; exact absurd k3 (by decide)
  have ta : a.1 = [] ∨ (u_st M a).2 = true := h2.elim (fun h => Or.inl h.1) (fun h => Or.inr h.2.1)
  have tb : b.1 = [] ∨ (u_st M b).2 = true := g2.elim (fun h => Or.inl h.1) (fun h => Or.inr h.2.1)
  have e : a = b := by
    rcases Nat.le_total n m with hl | hl
    · exact key n m a b h1 g1 ta hl
    · exact (key m n b a g1 h1 tb hl).symm
  subst e
  rcases h2 with ⟨p1, p2, p3⟩ | ⟨p1, p2, p3, p4⟩
  · rcases g2 with ⟨q1, q2, q3⟩ | ⟨q1, -⟩
    · exact ⟨by rw [p2, q2], by rw [p3, q3]⟩
    · exact absurd p1 q1
  · rcases g2 with ⟨q1, -⟩ | ⟨q1, q2, q3, q4⟩
    · exact absurd q1 p1
    · exact ⟨by rw [p3, q3], by rw [p4, q4]⟩
/-- what comes before a run's end -/
theorem u_O_R {M : g_M} {n : Nat} {s s1 : u_S} {st : Nat} {v : Option u_F} (h : u_R M n s s1) (h2 : u_O M s1 st v) : u_O M s st v := by
  obtain ⟨m, s', g1, g2⟩ := h2
  exact ⟨n + m, s', u_R_tr n m s s1 s' h g1, g2⟩
