section EQGCD
theorem shr64 (a s : Int64) (k : Nat) (hs : (s.toBitVec.smod 64).toNat = k) : (a >>> s).toInt = a.toInt >>> k := by
  show (a.toBitVec.sshiftRight (s.toBitVec.smod 64).toNat).toInt = _
  rw [hs, BitVec.toInt_sshiftRight]
  rfl
theorem sm63 : ∀ e, e < 25 → (((nI e).toInt64 &&& 63).toBitVec.smod 64).toNat = e := by decide +kernel
theorem bvand1 (y : BitVec 64) : y &&& 1#64 = 0#64 ↔ y.getLsbD 0 = false := by
  have h : (y &&& 1#64).toNat = y.toNat % 2 := by rw [BitVec.toNat_and]; exact Nat.and_one_is_mod _
  constructor
  · intro z
    rw [z] at h
    have h0 : (0#64 : BitVec 64).toNat = 0 := rfl
    rw [h0] at h
    show y.toNat.testBit 0 = false
    rw [Nat.testBit_zero, ← h]
    rfl
  · intro z
    apply BitVec.eq_of_toNat_eq
    rw [h]
    have z2 : y.toNat.testBit 0 = false := z
    rw [Nat.testBit_zero] at z2
    have h0 : (0#64 : BitVec 64).toNat = 0 := rfl
    rw [h0]
    have z3 : ¬ y.toNat % 2 = 1 := of_decide_eq_false z2
    omega
theorem bit64 (W : Int64) {h : Nat} (hh : h < 25) : ((W >>> ((nI h).toInt64 &&& 63)) &&& (1 : Int64) = 0) ↔ W.toBitVec.toNat.testBit h = false := by
  have e : (W >>> ((nI h).toInt64 &&& 63)).toBitVec = W.toBitVec.sshiftRight h := by
    show W.toBitVec.sshiftRight ((((nI h).toInt64 &&& 63).toBitVec.smod 64).toNat) = _
    rw [sm63 h hh]
  have b := bvand1 (W.toBitVec.sshiftRight h)
  have g : (W.toBitVec.sshiftRight h).getLsbD 0 = W.toBitVec.toNat.testBit h := by
    rw [BitVec.getLsbD_sshiftRight]
    rw [if_pos (by omega)]
    simp only [Nat.not_le.mpr (show 0 < 64 by decide), decide_false, Bool.not_false, Bool.true_and, Nat.add_zero]
    rfl
  rw [g] at b
  rw [← b]
  constructor
  · intro z
    have z2 := congrArg Int64.toBitVec z
    rw [Int64.toBitVec_and, e] at z2
    exact z2
  · intro z
    apply Int64.toBitVec_inj.mp
    rw [Int64.toBitVec_and, e]
    exact z
theorem parts_k : ∀ n, n < 13 → s_X1_parts (nI n) = lN (2 ^ (2 * n)) := by decide +kernel
theorem zbit {n : Nat} (hn : n ≤ 12) (M : Int64) {h : Nat} (hh : h < 25) : (lg_cmp (((M ||| (s_X1_parts (nI n))) >>> ((nI h).toInt64 &&& 63)) &&& (1 : Int64)) (0 : Int64) = 0) ↔ (M.toBitVec.toNat.testBit h = false ∧ ¬ 2 * n = h) := by
  rw [lcmp_eq, bit64 _ hh, parts_k n (by omega)]
  have e : (M ||| lN (2 ^ (2 * n))).toBitVec.toNat = M.toBitVec.toNat ||| 2 ^ (2 * n) := by
    rw [Int64.toBitVec_or, BitVec.toNat_or]
    congr 1
    exact Nat.mod_eq_of_lt (Nat.pow_lt_pow_right (by decide) (by omega))
  rw [e, Nat.testBit_or, Nat.testBit_two_pow]
  cases M.toBitVec.toNat.testBit h <;> simp
theorem halv {n : Nat} (hn : n ≤ 12) (M : Int64) : ∀ (k d : Nat), d + k = 24 → (∀ h, h < d → M.toBitVec.toNat.testBit h = false ∧ ¬ 2 * n = h) → ∃ H : Nat, s_X1_halvings_L10 M (nI n) (nI 24) k d = nI H ∧ (∀ h, h < H → M.toBitVec.toNat.testBit h = false) ∧ H ≤ 2 * n ∧ (H = 2 * n ∨ M.toBitVec.toNat.testBit H = true) := by
  intro k
  induction k with
  | zero =>
    intro d hd hz
    have e : d = 24 := by omega
    subst e
    have h2 : 24 ≤ 2 * n := by
      rcases Nat.lt_or_ge (2 * n) 24 with c | c
      · exact absurd rfl (hz (2 * n) c).2
      · exact c
    exact ⟨24, rfl, fun h hh => (hz h hh).1, h2, Or.inl (by omega)⟩
  | succ k ih =>
    intro d hd hz
    rw [s_X1_halvings_L10]
    have z := zbit hn M (h := d) (by omega)
    by_cases c : lg_cmp (((M ||| (s_X1_parts (nI n))) >>> ((nI d).toInt64 &&& 63)) &&& (1 : Int64)) (0 : Int64) = 0
    · rw [if_pos c]
      refine ih (d + 1) (by omega) (fun h hh => ?_)
      by_cases c2 : h = d
      · rw [c2]; exact z.mp c
      · exact hz h (by omega)
    · rw [if_neg c]
      have h2 : d ≤ 2 * n := by
        rcases Nat.lt_or_ge (2 * n) d with q | q
        · exact absurd rfl (hz (2 * n) q).2
        · exact q
      refine ⟨d, rfl, fun h hh => (hz h hh).1, h2, ?_⟩
      by_cases c2 : d = 2 * n
      · exact Or.inl c2
      · right
        cases hb : M.toBitVec.toNat.testBit d with
        | true => rfl
        | false => exact absurd (z.mpr ⟨hb, fun q => c2 q.symm⟩) c
theorem gcd_loop : ∀ (k a b : Nat), a ≤ k → a < 2 ^ 63 → b < 2 ^ 63 → (s_X7_expects_L224 k (lN a) (lN b)).2 = lN (Nat.gcd a b) := by
  intro k
  induction k with
  | zero =>
    intro a b h1 _ _
    have e : a = 0 := by omega
    subst e
    rw [Nat.gcd_zero_left]
    rfl
  | succ k ih =>
    intro a b h1 h2 h3
    rw [s_X7_expects_L224]
    by_cases c : a = 0
    · subst c
      rw [if_neg (fun z => absurd ((lcmp_gt _ _).mp z) (by decide)), Nat.gcd_zero_left]
    · have h0 : 0 < a := by omega
      have cpos : (0 : Int32) < lg_cmp (lN a) (0 : Int64) := (lcmp_gt _ _).mpr ((pk_lLT (a := 0) (by omega) h2).mpr h0)
      rw [if_pos cpos, pk_lRem h3 h0 h2]
      have hm := Nat.mod_lt b h0
      rw [ih (b % a) a (by omega) (by omega) h2, Nat.gcd_rec a b]
theorem gcd_main {H n w : Nat} (h1 : H ≤ 2 * n) (h2 : H = 2 * n ∨ w % 2 = 1) : Nat.gcd (2 ^ H * w) (2 ^ (2 * n)) = 2 ^ H := by
  have e : 2 ^ (2 * n) = 2 ^ H * 2 ^ (2 * n - H) := by rw [← Nat.pow_add]; congr 1; omega
  rw [e, Nat.gcd_mul_left]
  rcases h2 with c | c
  · have e0 : 2 * n - H = 0 := by omega
    rw [e0, Nat.pow_zero, Nat.gcd_one_right, Nat.mul_one]
  · have hc : Nat.Coprime w 2 := by
      show Nat.gcd w 2 = 1
      rw [Nat.gcd_comm, Nat.gcd_rec, c]
      exact Nat.gcd_one_left 2
    have hc2 : Nat.gcd w (2 ^ (2 * n - H)) = 1 := Nat.Coprime.pow_right _ hc
    rw [hc2, Nat.mul_one]
theorem low_zero {u H : Nat} : (∀ h, h < H → u.testBit h = false) → u % 2 ^ H = 0 := by
  induction H with
  | zero => intro _; rw [Nat.pow_zero]; exact Nat.mod_one u
  | succ H ih =>
    intro h
    have h1 := ih (fun x hx => h x (by omega))
    have h2 := h H (by omega)
    rw [Nat.testBit_eq_decide_div_mod_eq] at h2
    have h3 : ¬ u / 2 ^ H % 2 = 1 := of_decide_eq_false h2
    have h4 : u / 2 ^ H % 2 = 0 := by omega
    rw [Nat.mod_pow_succ, h1, h4, Nat.mul_zero]
theorem l7 : ∀ n, n < 13 → s_X7_expects_L7 n 0 1 = lN (2 ^ (2 * n)) := by decide +kernel
theorem bmod_id {x : Int} (h1 : -(2 ^ 63) ≤ x) (h2 : x < 2 ^ 63) : x.bmod (2 ^ 64) = x := by
  rw [Int.bmod_def]
  split <;> omega
theorem shr_div (M : Int64) {H : Nat} (hH : H < 25) {q : Int} (hq : M.toInt = 2 ^ H * q) (h1 : -(2 ^ 63) ≤ q) (h2 : q < 2 ^ 63) : M >>> ((nI H).toInt64 &&& 63) = M / lN (2 ^ H) := by
  have hp : 2 ^ H ≤ 2 ^ 24 := Nat.pow_le_pow_right (by decide) (by omega)
  have h24 : (2 : Nat) ^ 24 = 16777216 := by decide
  have hpos : (0 : Int) < 2 ^ H := Int.pow_pos (by decide)
  have hcast : ((2 ^ H : Nat) : Int) = 2 ^ H := by rw [Int.natCast_pow]; rfl
  apply Int64.toInt_inj.mp
  rw [shr64 M _ H (sm63 H hH), Int64.toInt_div, pk_lT (by omega), hcast, hq, Int.shiftRight_eq_div_pow, hcast, Int.mul_ediv_cancel_left _ (by omega), Int.mul_tdiv_cancel_left _ (by omega), bmod_id h1 h2]
end EQGCD
