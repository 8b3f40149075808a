section EQL
variable {ty : Nat} {le tp : Nat → Int32}
/-- the letters are the same, and letters -/
def TL (ty : Nat) (le tp : Nat → Int32) : Prop := ty ≤ 80 ∧ ∀ j, j < ty → le j = tp j ∧ ∃ c : Nat, 32 ≤ c ∧ c ≤ 126 ∧ tp j = nI c
/-- the reading, letter by letter, from a place on -/
abbrev rdK (ty : Nat) : Int32 → Int32 → Nat → (Nat → Int32) → (Nat → Int32) → (Nat → Int32) → (Nat → Int32) → (Nat → Int32) → (Nat → Int32) → Int32 × Int32 × Int32 × Nat × (Nat → Int32) × (Nat → Int32) × (Nat → Int32) × (Nat → Int32) × (Nat → Int32) × (Nat → Int32) := fun aw tk n kd dy nd co od wo => if aw = 2 then (nI n, aw, tk, n, kd, dy, nd, co, od, wo) else ((-20 : Int32) - nI ty, aw, tk, n, kd, dy, nd, co, od, wo)
abbrev rdA (ty : Nat) (le : Nat → Int32) (p : Nat) (aw tk : Int32) (n : Nat) (kd dy nd co od wo : Nat → Int32) := s_X3_readInto_L7 le (rdK ty) (ty - p) p aw tk n kd dy nd co od wo
theorem rd_is (tk : Int32) (n : Nat) (kd dy nd co od wo : Nat → Int32) : s_X3_readInto ty tk le n kd dy nd co od wo = rdA ty le 0 0 tk n kd dy nd co od wo := rfl
theorem rd_stop {p : Nat} (h : p = ty) (aw tk : Int32) (n : Nat) (kd dy nd co od wo : Nat → Int32) : rdA ty le p aw tk n kd dy nd co od wo = rdK ty aw tk n kd dy nd co od wo := by
  subst h
  show s_X3_readInto_L7 le (rdK p) (p - p) p aw tk n kd dy nd co od wo = _
  rw [Nat.sub_self]
  rfl
theorem rd_step {p : Nat} (h : p < ty) (aw tk : Int32) (n : Nat) (kd dy nd co od wo : Nat → Int32) : rdA ty le p aw tk n kd dy nd co od wo = if le p = 32 then rdA ty le (p + 1) aw tk n kd dy nd co od wo else (if (s_X3_takes aw tk n kd dy nd co od wo (le p)).1 = 0 then ((-20 : Int32) - (nI p), (s_X3_takes aw tk n kd dy nd co od wo (le p)).2.1, (s_X3_takes aw tk n kd dy nd co od wo (le p)).2.2.1, (s_X3_takes aw tk n kd dy nd co od wo (le p)).2.2.2.1, (s_X3_takes aw tk n kd dy nd co od wo (le p)).2.2.2.2.1, (s_X3_takes aw tk n kd dy nd co od wo (le p)).2.2.2.2.2.1, (s_X3_takes aw tk n kd dy nd co od wo (le p)).2.2.2.2.2.2.1, (s_X3_takes aw tk n kd dy nd co od wo (le p)).2.2.2.2.2.2.2.1, (s_X3_takes aw tk n kd dy nd co od wo (le p)).2.2.2.2.2.2.2.2.1, (s_X3_takes aw tk n kd dy nd co od wo (le p)).2.2.2.2.2.2.2.2.2) else rdA ty le (p + 1) (s_X3_takes aw tk n kd dy nd co od wo (le p)).2.1 (s_X3_takes aw tk n kd dy nd co od wo (le p)).2.2.1 (s_X3_takes aw tk n kd dy nd co od wo (le p)).2.2.2.1 (s_X3_takes aw tk n kd dy nd co od wo (le p)).2.2.2.2.1 (s_X3_takes aw tk n kd dy nd co od wo (le p)).2.2.2.2.2.1 (s_X3_takes aw tk n kd dy nd co od wo (le p)).2.2.2.2.2.2.1 (s_X3_takes aw tk n kd dy nd co od wo (le p)).2.2.2.2.2.2.2.1 (s_X3_takes aw tk n kd dy nd co od wo (le p)).2.2.2.2.2.2.2.2.1 (s_X3_takes aw tk n kd dy nd co od wo (le p)).2.2.2.2.2.2.2.2.2) := by
  obtain ⟨k, hk⟩ : ∃ k, ty - p = k + 1 := ⟨ty - p - 1, by omega⟩
  have e : ty - (p + 1) = k := by omega
  show s_X3_readInto_L7 le (rdK ty) (ty - p) p aw tk n kd dy nd co od wo = _
  rw [hk, show rdA ty le (p + 1) = s_X3_readInto_L7 le (rdK ty) (ty - (p + 1)) (p + 1) from rfl, e]
  rfl
theorem rd_skip (hT : TL ty le tp) (aw tk : Int32) (n : Nat) (kd dy nd co od wo : Nat → Int32) : ∀ (k p : Nat), p + k = ty → rdA ty le p aw tk n kd dy nd co od wo = rdA ty le (s_X7_here_L0 tp k p) aw tk n kd dy nd co od wo := by
  intro k
  induction k with
  | zero => intro p _; rfl
  | succ k ih =>
    intro p h
    have e := (hT.2 p (by omega)).1
    unfold s_X7_here_L0
    by_cases c : tp p = 32
    · rw [if_pos c, rd_step (by omega), e, if_pos c]
      exact ih (p + 1) (by omega)
    · rw [if_neg c]
/-- what the next letter is, and where -/
theorem here_at (hT : TL ty le tp) {p : Nat} (hp : p ≤ ty) (aw tk : Int32) (n : Nat) (kd dy nd co od wo : Nat → Int32) :
    rdA ty le p aw tk n kd dy nd co od wo = rdA ty le (s_X7_here ty p tp).2 aw tk n kd dy nd co od wo ∧ p ≤ (s_X7_here ty p tp).2 ∧
    (((s_X7_here ty p tp).2 = ty ∧ (s_X7_here ty p tp).1 = 0) ∨ ((s_X7_here ty p tp).2 < ty ∧ (s_X7_here ty p tp).1 = le (s_X7_here ty p tp).2 ∧ ¬ le (s_X7_here ty p tp).2 = 32 ∧ ∃ c : Nat, 32 ≤ c ∧ c ≤ 126 ∧ (s_X7_here ty p tp).1 = nI c)) := by
  have h1 := here_L (ty := ty) (tp := tp) (ty - p) p (by omega)
  have h2 := here_stop (ty := ty) (tp := tp) (ty - p) p (by omega)
  have hs := rd_skip hT aw tk n kd dy nd co od wo (ty - p) p (by omega)
  have h80 := hT.1
  rw [here_2]
  refine ⟨hs, h1.1, ?_⟩
  have e : (s_X7_here ty p tp).1 = if nI (s_X7_here_L0 tp (ty - p) p) < nI ty then tp (s_X7_here_L0 tp (ty - p) p) else 0 := by
    unfold s_X7_here
    split <;> rfl
  rw [e]
  generalize s_X7_here_L0 tp (ty - p) p = z at h1 h2
  by_cases c : z < ty
  · have hz := hT.2 z c
    rw [if_pos ((nI_ltI (by omega) (by omega)).mpr c)]
    refine Or.inr ⟨c, hz.1.symm, ?_, hz.2⟩
    rw [hz.1]
    exact h2.resolve_left (by omega)
  · rw [if_neg (fun q => c ((nI_ltI (by omega) (by omega)).mp q))]
    exact Or.inl ⟨by omega, rfl⟩
theorem here_fix (hT : TL ty le tp) {p : Nat} (hp : p ≤ ty) (h : p = ty ∨ ¬ le p = 32) : (s_X7_here ty p tp).2 = p := by
  rw [here_2]
  cases hk : ty - p with
  | zero => rfl
  | succ k =>
    have e := (hT.2 p (by omega)).1
    unfold s_X7_here_L0
    rw [← e, if_neg (h.resolve_left (by omega))]
/-- the kind's letter -/
abbrev kindOf (c : Int32) : Int32 := if c = (112 : Int32) then (0 : Int32) else (if c = (97 : Int32) then (1 : Int32) else (if c = (115 : Int32) then (2 : Int32) else (if c = (104 : Int32) then (3 : Int32) else (-4 : Int32))))
theorem rd_kind {p : Nat} (h : p < ty) (hl : ¬ le p = 32) (tk : Int32) (n : Nat) (kd dy nd co od wo : Nat → Int32) :
    (kindOf (le p) < 0 → (rdA ty le p 0 tk n kd dy nd co od wo).1 = (-20 : Int32) - nI p) ∧ (¬ kindOf (le p) < 0 → rdA ty le p 0 tk n kd dy nd co od wo = rdA ty le (p + 1) 1 (kindOf (le p)) n kd dy nd co od wo ∧ (kindOf (le p) = 0 ∨ kindOf (le p) = 1 ∨ kindOf (le p) = 2 ∨ kindOf (le p) = 3)) := by
  rw [rd_step h, if_neg hl]
  unfold s_X3_takes s_X3_takesKind
  rw [if_pos rfl]
  generalize le p = c
  by_cases c1 : c = 97
  · subst c1; exact ⟨fun z => absurd z (by decide), fun _ => ⟨rfl, by decide⟩⟩
  by_cases c2 : c = 104
  · subst c2; exact ⟨fun z => absurd z (by decide), fun _ => ⟨rfl, by decide⟩⟩
  by_cases c3 : c = 112
  · subst c3; exact ⟨fun z => absurd z (by decide), fun _ => ⟨rfl, by decide⟩⟩
  by_cases c4 : c = 115
  · subst c4; exact ⟨fun z => absurd z (by decide), fun _ => ⟨rfl, by decide⟩⟩
  have e : kindOf c = -4 := by
    show (if c = (112 : Int32) then (0 : Int32) else (if c = (97 : Int32) then (1 : Int32) else (if c = (115 : Int32) then (2 : Int32) else (if c = (104 : Int32) then (3 : Int32) else (-4 : Int32))))) = -4
    rw [if_neg c3, if_neg c1, if_neg c4, if_neg c2]
  rw [e, if_neg c1, if_neg c2, if_neg c3, if_neg c4]
  exact ⟨fun _ => rfl, fun z => absurd (by decide) z⟩
theorem rd_day {p : Nat} (h : p < ty) (hl : ¬ le p = 32) (tk : Int32) {n : Nat} (hn : n < 12) (kd dy nd co od wo : Nat → Int32) :
    (s_X6_isDay (le p - 65) = 0 → (rdA ty le p 1 tk n kd dy nd co od wo).1 = (-20 : Int32) - nI p) ∧ (¬ s_X6_isDay (le p - 65) = 0 → rdA ty le p 1 tk n kd dy nd co od wo = rdA ty le (p + 1) 2 tk (n + 1) (upd kd n tk) (upd dy n (le p - 65)) (upd nd n 0) (upd co n 1) (upd od n 4) (s_X5_add_L64 n 4 0 wo)) := by
  rw [rd_step h, if_neg hl]
  unfold s_X3_takes s_X3_takesDay
  rw [if_neg (show ¬ ((1 : Int32) = 0) from by decide), if_pos rfl]
  have c7 : nI n < (12 : Int32) := (nI_ltI (a := n) (b := 12) (by omega) (by omega)).mpr hn
  have e : s_X5_add n kd dy nd co od wo tk (le p - 65) 0 = ((1 : Int32), n + 1, upd kd n tk, upd dy n (le p - 65), upd nd n 0, upd co n 1, upd od n 4, s_X5_add_L64 n 4 0 wo) := by
    unfold s_X5_add
    rw [if_pos c7]
  rw [e]
  constructor
  · intro z
    rw [if_pos z]
    rfl
  · intro z
    rw [if_neg z]
    rfl
theorem rd_comma {p : Nat} (h : p < ty) (hl : le p = 44) (tk : Int32) {n : Nat} (hn : n ≤ 12) (kd dy nd co od wo : Nat → Int32) :
    (n < 12 → rdA ty le p 2 tk n kd dy nd co od wo = rdA ty le (p + 1) 0 tk n kd dy nd co od wo) ∧ (n = 12 → (rdA ty le p 2 tk n kd dy nd co od wo).1 = (-20 : Int32) - nI p) := by
  rw [rd_step h, if_neg (by rw [hl]; decide)]
  unfold s_X3_takes s_X3_takesComma
  rw [if_neg (show ¬ ((2 : Int32) = 0) from by decide), if_neg (show ¬ ((2 : Int32) = 1) from by decide), if_pos hl]
  constructor
  · intro z
    have z2 : nI n < (12 : Int32) := (nI_ltI (a := n) (b := 12) (by omega) (by omega)).mpr z
    rw [if_pos z2]
    rfl
  · intro z
    rw [z]
    rfl
theorem rd_need {p : Nat} (h : p < ty) (hl : ¬ le p = 32) (h44 : ¬ le p = 44) (tk : Int32) (n : Nat) (kd dy nd co od wo : Nat → Int32) :
    ((s_X3_takesNeed n dy nd (le p)).1 = 0 → (rdA ty le p 2 tk n kd dy nd co od wo).1 = (-20 : Int32) - nI p) ∧ (¬ (s_X3_takesNeed n dy nd (le p)).1 = 0 → rdA ty le p 2 tk n kd dy nd co od wo = rdA ty le (p + 1) 2 tk n kd dy (s_X3_takesNeed n dy nd (le p)).2 co od wo) := by
  rw [rd_step h, if_neg hl]
  unfold s_X3_takes
  rw [if_neg (show ¬ ((2 : Int32) = 0) from by decide), if_neg (show ¬ ((2 : Int32) = 1) from by decide), if_neg h44]
  constructor
  · intro z
    rw [if_pos z]
  · intro z
    rw [if_neg z]
/-- a letter that is no need's -/
theorem need_bad {n : Nat} (hn : n ≤ 12) (dy nd : Nat → Int32) {c : Nat} (h1 : 32 ≤ c) (h2 : c ≤ 126) (h : s_X7_in (nI c).toInt64 97 108 = 0) : (s_X3_takesNeed n dy nd (nI c)).1 = 0 := by
  have h3 : c < 97 ∨ 108 < c := by
    rcases Nat.lt_or_ge c 97 with q | q
    · exact Or.inl q
    · rcases Nat.lt_or_ge 108 c with q2 | q2
      · exact Or.inr q2
      · refine absurd h ?_
        rw [in32c (nI c) 97 108 (by decide) (by decide), if_neg (show ¬ (nI c < (97 : Int32)) from fun z => absurd ((nI_ltI (a := c) (b := 97) (by omega) (by omega)).mp z) (by omega)), if_neg (show ¬ ((108 : Int32) < nI c) from fun z => absurd ((nI_ltI (a := 108) (b := c) (by omega) (by omega)).mp z) (by omega))]
        decide
  have e : s_X5_has n (nI c - 97) = 0 := by
    unfold s_X5_has
    rcases h3 with q | q
    · rw [if_pos (show nI c - 97 < 0 from pk_sneg (a := c) (b := 97) (by omega) q)]
    · have e1 : nI c - 97 = nI (c - 97) := pk_sub (a := c) (b := 97) (by omega)
      rw [e1, if_neg (nI_pos (by omega)), if_neg (fun z => absurd ((nI_ltI (by omega) (by omega)).mp z) (by omega))]
  unfold s_X3_takesNeed
  split
  · rfl
  · first | rfl | (rw [if_pos e])
end EQL
