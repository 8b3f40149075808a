theorem or_nI (a b : Nat) : nI a ||| nI b = nI (a ||| b) := by
  apply Int32.toBitVec_inj.1
  show BitVec.ofNat 32 a ||| BitVec.ofNat 32 b = BitVec.ofNat 32 (a ||| b)
  apply BitVec.eq_of_getLsbD_eq
  intro i hi
  simp [hi]
theorem and_nI (a b : Nat) : nI a &&& nI b = nI (a &&& b) := by
  apply Int32.toBitVec_inj.1
  show BitVec.ofNat 32 a &&& BitVec.ofNat 32 b = BitVec.ofNat 32 (a &&& b)
  apply BitVec.eq_of_getLsbD_eq
  intro i hi
  simp [hi]
theorem sh1 : ∀ d, d < 31 → (1 : Int32) <<< (nI d &&& 31) = nI (2 ^ d) := by decide +kernel
theorem pow12 {d : Nat} (h : d < 12) : 2 ^ d < 4096 := by
  have h2 : 2 ^ d < 2 ^ 12 := Nat.pow_lt_pow_right (by decide) h
  exact h2
theorem or12 {a b : Nat} (ha : a < 4096) (hb : b < 4096) : a ||| b < 4096 := Nat.or_lt_two_pow (n := 12) ha hb
theorem powle {d n : Nat} (h : d < n) : 2 ^ d < 2 ^ n := Nat.pow_lt_pow_right (by decide) h
/-- an int that is a set of the first n deeds -/
def isSet (n : Nat) (x : Int32) : Prop := ∃ j : Nat, x = nI j ∧ j < 2 ^ n
theorem isSet_0 (n : Nat) : isSet n 0 := ⟨0, rfl, Nat.two_pow_pos n⟩
theorem isSet_or {n d : Nat} {x : Int32} (hn : n ≤ 12) (hd : d < n) (h : isSet n x) : isSet n (x ||| ((1 : Int32) <<< (nI d &&& 31))) := by
  obtain ⟨j, rfl, hj⟩ := h
  exact ⟨j ||| 2 ^ d, by rw [sh1 d (by omega), or_nI], Nat.or_lt_two_pow hj (powle hd)⟩
theorem isSet_nn {n : Nat} {x : Int32} (hn : n ≤ 12) (h : isSet n x) : ¬ x < 0 ∧ x.toNatClampNeg < 2 ^ n ∧ x.toNatClampNeg < 4096 := by
  obtain ⟨j, rfl, hj⟩ := h
  have h2 : 2 ^ n ≤ 2 ^ 12 := Nat.pow_le_pow_right (by decide) hn
  have h3 : (2 : Nat) ^ 12 = 4096 := by decide
  rw [nI_clamp (by omega)]
  exact ⟨nI_pos (by omega), hj, by omega⟩
theorem isSet_st {n : Nat} (hn : n ≤ 12) (la : Int32) (kd nd : Nat → Int32) (gone : Int32) : ∀ (k d : Nat) (a : Int32), d + k = n → isSet n a → isSet n (s_X5_standing_L4 la kd nd gone k d a) := by
  intro k
  induction k with
  | zero => intro d a _ h; exact h
  | succ k ih =>
    intro d a hk h
    unfold s_X5_standing_L4
    split
    · split
      · exact ih (d + 1) a (by omega) h
      · exact ih (d + 1) _ (by omega) (isSet_or hn (by omega) h)
    · exact ih (d + 1) a (by omega) h
theorem isSet_standing {n : Nat} (hn : n ≤ 12) (la : Int32) (kd nd : Nat → Int32) (gone : Int32) : isSet n (s_X5_standing n la kd nd gone) := isSet_st hn la kd nd gone n 0 0 (by omega) (isSet_0 n)
theorem isSet_od {n : Nat} (hn : n ≤ 12) (dy : Nat → Int32) (told : Int32) : ∀ (k d : Nat) (a : Int32), d + k = n → isSet n a → isSet n (s_X5_ofDay_L4 dy told k d a) := by
  intro k
  induction k with
  | zero => intro d a _ h; exact h
  | succ k ih =>
    intro d a hk h
    unfold s_X5_ofDay_L4
    split
    · exact ih (d + 1) _ (by omega) (isSet_or hn (by omega) h)
    · exact ih (d + 1) a (by omega) h
theorem isSet_ofDay {n : Nat} (hn : n ≤ 12) (dy : Nat → Int32) (told : Int32) : isSet n (s_X5_ofDay n dy told) := isSet_od hn dy told n 0 0 (by omega) (isSet_0 n)
theorem isSet_ne {n : Nat} (hn : n ≤ 12) (dy : Nat → Int32) (day : Int32) : ∀ (k d : Nat) (a : Int32), d + k ≤ n → isSet n a → isSet n (s_X5_needable_L5 dy day k d a) := by
  intro k
  induction k with
  | zero => intro d a _ h; exact h
  | succ k ih =>
    intro d a hk h
    unfold s_X5_needable_L5
    split
    · exact ih (d + 1) a (by omega) h
    · exact ih (d + 1) _ (by omega) (isSet_or hn (by omega) h)
theorem isSet_needable {n number : Nat} (hn : n ≤ 12) (h : number ≤ n) (dy : Nat → Int32) (day : Int32) : isSet n (s_X5_needable dy number day) := isSet_ne hn dy day number 0 0 (by omega) (isSet_0 n)
theorem dm_pred (j : Nat) : nI (j + 1) - (1 : Int32) = nI j := by rw [nI_succ, Int32.add_sub_cancel]
/-- the day before, -1 before the first -/
def dm : Nat → Int32
  | 0 => -1
  | j + 1 => nI j
theorem dm_sub (j : Nat) : nI j - (1 : Int32) = dm j := by
  cases j with
  | zero => rfl
  | succ j => exact dm_pred j
