section EQUL
variable {n pe : Nat} {td ys la ri : Int32} {kd dy nd co od wo kd' dy' nd' co' od' wo' : Nat → Int32}
theorem i64_two (M : Int64) : M.toInt = (M.toBitVec.toNat : Int) ∨ M.toInt = (M.toBitVec.toNat : Int) - 2 ^ 64 := by
  have h : M.toInt = if 2 * M.toBitVec.toNat < 2 ^ 64 then (M.toBitVec.toNat : Int) else (M.toBitVec.toNat : Int) - ((2 ^ 64 : Nat) : Int) := BitVec.toInt_eq_toNat_cond M.toBitVec
  rw [h]
  split
  · exact Or.inl rfl
  · exact Or.inr rfl
/-- the lowest terms, both ways -/
theorem lowest {n : Nat} (hn : n ≤ 12) (M : Int64) {H : Nat} (hz : ∀ h, h < H → M.toBitVec.toNat.testBit h = false) (hH : H ≤ 2 * n) (ho : H = 2 * n ∨ M.toBitVec.toNat.testBit H = true) :
    (∃ q : Int, M.toInt = 2 ^ H * q ∧ -(2 ^ 63) ≤ q ∧ q < 2 ^ 63) ∧ (s_X7_expects_L224 (s_X7_expects_m219_0 M).toNatClampNeg (s_X7_expects_m219_0 M) (lN (2 ^ (2 * n)))).2 = lN (2 ^ H) := by
  have hu := low_zero hz
  have hp24 : 2 ^ (2 * n) ≤ 2 ^ 24 := Nat.pow_le_pow_right (by decide) (by omega)
  have h24 : (2 : Nat) ^ 24 = 16777216 := by decide
  have hpos := Nat.two_pow_pos H
  have e64 : (2 : Nat) ^ 64 = 2 ^ H * 2 ^ (64 - H) := by rw [← Nat.pow_add]; congr 1; omega
  have ev : (2 : Nat) ^ (64 - H) = 2 * 2 ^ (63 - H) := by rw [← Nat.pow_succ']; congr 1; omega
  have hlt : M.toBitVec.toNat < 2 ^ 64 := M.toBitVec.isLt
  rw [Nat.testBit_eq_decide_div_mod_eq] at ho
  have hu2 : M.toBitVec.toNat = 2 ^ H * (M.toBitVec.toNat / 2 ^ H) := by
    have := Nat.div_add_mod M.toBitVec.toNat (2 ^ H)
    omega
  have htwo := i64_two M
  have hlo := Int64.le_toInt M
  have hhi := Int64.toInt_lt M
  generalize M.toBitVec.toNat / 2 ^ H = v at hu2 ho
  generalize M.toBitVec.toNat = u at hu2 htwo hlt
  have ho2 : H = 2 * n ∨ v % 2 = 1 := ho.imp id (fun z => of_decide_eq_true z)
  have hcast : ((2 ^ H : Nat) : Int) = 2 ^ H := by rw [Int.natCast_pow]; rfl
  -- the number as a multiple
  have hq : ∃ q : Int, M.toInt = 2 ^ H * q ∧ (H = 2 * n ∨ q % 2 = 1) := by
    rcases htwo with z | z
    · refine ⟨(v : Int), ?_, ho2.imp id (fun y => by omega)⟩
      rw [z, hu2, Int.natCast_mul, hcast]
    · refine ⟨(v : Int) - ((2 ^ (64 - H) : Nat) : Int), ?_, ho2.imp id (fun y => by omega)⟩
      rw [z, hu2, Int.natCast_mul, hcast, Int.mul_sub]
      have e5 : (2 : Int) ^ 64 = 2 ^ H * ((2 ^ (64 - H) : Nat) : Int) := by
        have := congrArg (fun z : Nat => (z : Int)) e64
        rw [← hcast, ← Int.natCast_mul, ← e64]
        rfl
      rw [e5]
  obtain ⟨q, hq1, hq2⟩ := hq
  have hpI : (1 : Int) ≤ 2 ^ H := by rw [← hcast]; omega
  have hqb : -(2 ^ 63) ≤ q ∧ q < 2 ^ 63 := by
    rw [hq1] at hlo hhi
    constructor
    · refine Decidable.byContradiction fun z => ?_
      have h1 : q + 1 ≤ -(2 ^ 63) := by omega
      have h2 : 2 ^ H * q ≤ 1 * q := Int.mul_le_mul_of_nonpos_right hpI (by omega)
      omega
    · refine Decidable.byContradiction fun z => ?_
      have h2 : 1 * q ≤ 2 ^ H * q := Int.mul_le_mul_of_nonneg_right hpI (by omega)
      omega
  refine ⟨⟨q, hq1, hqb.1, hqb.2⟩, ?_⟩
  -- the greatest common divisor
  have hgcd : ∀ a : Nat, a < 2 ^ 63 → (a : Int) = 2 ^ H * q ∨ (a : Int) = -(2 ^ H * q) → (s_X7_expects_L224 (lN a).toNatClampNeg (lN a) (lN (2 ^ (2 * n)))).2 = lN (2 ^ H) := by
    intro a ha hab
    have ek : (lN a).toNatClampNeg = a := by show (lN a).toInt.toNat = a; rw [pk_lT ha]; rfl
    rw [ek, gcd_loop a a (2 ^ (2 * n)) (Nat.le_refl _) ha (by omega)]
    have ea : a = 2 ^ H * q.natAbs := by
      have h3 : (a : Int).natAbs = (2 ^ H * q).natAbs := by
        rcases hab with z | z
        · rw [z]
        · rw [z, Int.natAbs_neg]
      rw [Int.natAbs_natCast, Int.natAbs_mul, ← hcast, Int.natAbs_natCast] at h3
      exact h3
    rw [ea, gcd_main hH (hq2.imp id (fun z => by omega))]
  unfold s_X7_expects_m219_0
  by_cases c : lg_cmp M 0 < 0
  · rw [if_pos c]
    have hneg : M.toInt < 0 := by
      have := Int64.lt_iff_toInt_lt.mp ((lcmp_lt _ _).mp c)
      have e0 : (0 : Int64).toInt = 0 := by decide
      omega
    by_cases cm : M.toInt = -(2 ^ 63)
    · have eM : M = -9223372036854775808 := Int64.toInt_inj.mp (by rw [cm]; decide)
      have e2 : H = 2 * n := by
        rcases hq2 with z | z
        · exact z
        · refine Decidable.byContradiction fun y => ?_
          rw [cm] at hq1
          have e63 : (2 : Int) ^ 63 = 2 ^ H * (2 * 2 ^ (62 - H)) := by
            rw [← Int.mul_assoc, Int.mul_comm (2 ^ H) 2, Int.mul_assoc, ← Int.pow_add, ← Int.pow_succ']
            congr 1
            omega
          have h5 : 2 ^ H * (-(2 * 2 ^ (62 - H))) = 2 ^ H * q := by rw [Int.mul_neg, ← e63]; exact hq1
          have h6 := Int.eq_of_mul_eq_mul_left (by omega) h5
          omega
      rw [eM, e2]
      rfl
    · have ha : (-M.toInt).toNat < 2 ^ 63 := by omega
      have eN : -M = lN (-M.toInt).toNat := by
        apply Int64.toInt_inj.mp
        rw [pk_lT ha, Int64.toInt_neg, bmod_id (by omega) (by omega)]
        omega
      rw [eN]
      exact hgcd _ ha (Or.inr (by rw [← hq1]; omega))
  · rw [if_neg c]
    have hnn : ¬ M < 0 := fun z => c ((lcmp_lt _ _).mpr z)
    obtain ⟨a, ha, e⟩ := pk_lOf hnn
    rw [e]
    refine hgcd a ha (Or.inl ?_)
    rw [← hq1, e, pk_lT ha]
theorem rn_ul (h : RN pe n td ys la ri kd dy nd co od wo kd' dy' nd' co' od' wo') : s_X6_upper pe n la kd nd od wo = (s_X7_expects pe n la kd' nd' od' wo').1 ∧ s_X6_lower pe n la kd nd od wo = (s_X7_expects pe n la kd' nd' od' wo').2 := by
  have hn := h.hn
  obtain ⟨H, e1, hz, hH, ho⟩ := halv hn (s_X1_mean pe la kd nd od wo n 0 0 0) 24 0 (by omega) (fun x hx => by omega)
  obtain ⟨⟨q, hq1, hq2, hq3⟩, hg⟩ := lowest hn (s_X1_mean pe la kd nd od wo n 0 0 0) hz hH ho
  have e2 : s_X1_halvings (s_X1_mean pe la kd nd od wo n 0 0 0) (nI n) = nI H := e1
  have hp24 : 2 ^ (2 * n) ≤ 2 ^ 24 := Nat.pow_le_pow_right (by decide) (by omega)
  have h24 : (2 : Nat) ^ 24 = 16777216 := by decide
  unfold s_X6_upper s_X6_lower s_X7_expects
  rw [eq_mean h.ag hn h.hp, l7 n (by omega), hg, e2]
  refine ⟨shr_div _ (by omega) hq1 hq2 hq3, ?_⟩
  rw [parts_k n (by omega)]
  have hp : 2 ^ (2 * n - H) ≤ 2 ^ 24 := Nat.pow_le_pow_right (by decide) (by omega)
  obtain ⟨g, hg1, hg2⟩ : ∃ g : Nat, g = 2 ^ (2 * n - H) ∧ g ≤ 16777216 := ⟨_, rfl, by omega⟩
  refine shr_div _ (by omega) (q := (g : Int)) ?_ (by omega) (by omega)
  rw [pk_lT (by omega)]
  have e : 2 ^ (2 * n) = 2 ^ H * 2 ^ (2 * n - H) := by rw [← Nat.pow_add]; congr 1; omega
  rw [e, ← hg1, Int.natCast_mul, Int.natCast_pow]
  rfl
end EQUL
