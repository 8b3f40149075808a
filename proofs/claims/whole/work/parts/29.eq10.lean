section EQN
variable {n pe : Nat} {td ys la ri : Int32} {kd dy nd co od wo kd' dy' nd' co' od' wo' : Nat → Int32} {ln sz ln' sz' : Nat → Int32} {it it' : Nat → Int64}
theorem cp101 (it : Nat → Int64) (sa i : Int32) : ∀ (k d : Nat) (mo : Nat → Int64) (p : Nat), (s_X7_copy_L101 it sa i k d mo) p = if d ≤ p ∧ p < d + k then it ((16 * sa.toNatClampNeg + i.toNatClampNeg) + p) else mo p := by
  intro k
  induction k with
  | zero => intro d mo p; rw [if_neg (by omega)]; rfl
  | succ k ih =>
    intro d mo p
    unfold s_X7_copy_L101
    rw [ih]
    by_cases c : p = d
    · subst c; rw [if_neg (by omega), if_pos (by omega), pk_uLs]
    · rw [pk_uLn c]
      by_cases c2 : d + 1 ≤ p ∧ p < d + 1 + k
      · rw [if_pos c2, if_pos (by omega)]
      · rw [if_neg c2, if_neg (by omega)]
theorem cp138 (sb j : Int32) (mo : Nat → Int64) : ∀ (k d : Nat) (it : Nat → Int64) (p : Nat), (s_X7_copy_L138 sb j mo k d it) p = if (16 * sb.toNatClampNeg + j.toNatClampNeg) + d ≤ p ∧ p < (16 * sb.toNatClampNeg + j.toNatClampNeg) + d + k then mo (p - (16 * sb.toNatClampNeg + j.toNatClampNeg)) else it p := by
  intro k
  induction k with
  | zero => intro d it p; rw [if_neg (by omega)]; rfl
  | succ k ih =>
    intro d it p
    unfold s_X7_copy_L138
    rw [ih]
    by_cases c : p = (16 * sb.toNatClampNeg + j.toNatClampNeg) + d
    · subst c; rw [if_neg (by omega), if_pos (by omega), pk_uLs, Nat.add_sub_cancel_left]
    · rw [pk_uLn c]
      by_cases c2 : (16 * sb.toNatClampNeg + j.toNatClampNeg) + (d + 1) ≤ p ∧ p < (16 * sb.toNatClampNeg + j.toNatClampNeg) + (d + 1) + k
      · rw [if_pos c2, if_pos (by omega)]
      · rw [if_neg c2, if_neg (by omega)]
theorem rs_copy (h : RS ln sz it ln' sz' it') (mo : Nat → Int64) (sa i sb j m : Int32) : (s_X6_copy ln sz it sa i sb j m).1 = (s_X7_copy ln' sz' it' mo sa i sb j m).1 ∧ RS ln sz (s_X6_copy ln sz it sa i sb j m).2 ln' sz' (s_X7_copy ln' sz' it' mo sa i sb j m).2.1 := by
  unfold s_X6_copy s_X7_copy
  rw [eq_isSheet, eq_isSheet]
  by_cases c1 : s_X6_isSheet sa = 0
  · rw [if_pos c1, if_pos c1]; exact ⟨rfl, h⟩
  rw [if_neg c1, if_neg c1]
  by_cases c2 : s_X6_isSheet sb = 0
  · rw [if_pos c2, if_pos c2]; exact ⟨rfl, h⟩
  rw [if_neg c2, if_neg c2]
  have ha := (isSheet_nat c1).2
  have hb := (isSheet_nat c2).2
  by_cases c3 : ln sa.toNatClampNeg = -1
  · rw [if_pos ((lane_holds _ _).mpr c3), if_pos ((lane_neg h ha).mpr c3)]; exact ⟨rfl, h⟩
  rw [if_neg (fun z => c3 ((lane_holds _ _).mp z)), if_neg (fun z => c3 ((lane_neg h ha).mp z))]
  by_cases c4 : ln sb.toNatClampNeg = -1
  · rw [if_pos ((lane_holds _ _).mpr c4), if_pos ((lane_neg h hb).mpr c4)]; exact ⟨rfl, h⟩
  rw [if_neg (fun z => c4 ((lane_holds _ _).mp z)), if_neg (fun z => c4 ((lane_neg h hb).mp z)), ← (h _ ha).1, ← (h _ hb).1]
  by_cases c5 : ln sa.toNatClampNeg = ln sb.toNatClampNeg
  · rw [if_pos c5, if_pos c5]
    by_cases c6 : m < 0
    · rw [if_pos c6]
      have e : s_X2_reaches sz sa.toNatClampNeg i m = 0 := by
        unfold s_X2_reaches
        rw [if_pos c6]
        split <;> rfl
      rw [if_pos e]; exact ⟨rfl, h⟩
    · rw [if_neg c6]
      obtain ⟨mn, hmn, rfl⟩ := nI_of c6
      have n0 : ¬ ((0 : Int32) < 0) := by decide
      have n13 : (-13 : Int32) < 0 := by decide
      rw [why_reach h ha hmn c3, why_reach h hb hmn c4, if_pos rfl, if_pos rfl]
      by_cases c7 : s_X2_reaches sz sa.toNatClampNeg i (nI mn) = 0
      · rw [if_pos c7, if_pos c7, if_pos n13]; exact ⟨rfl, h⟩
      · rw [if_neg c7, if_neg c7, if_neg n0]
        by_cases c8 : s_X2_reaches sz sb.toNatClampNeg j (nI mn) = 0
        · rw [if_pos c8, if_pos c8, if_pos n13]; exact ⟨rfl, h⟩
        · rw [if_neg c8, if_neg c8, if_neg n0]
          have ri := reach_i h.hz ha c7
          have rj := reach_i h.hz hb c8
          rw [nI_clamp hmn] at ri rj ⊢
          refine ⟨rfl, ?_⟩
          intro r hr
          obtain ⟨h1, h2, h3, h4, h5⟩ := h r hr
          refine ⟨h1, h2, h3, h4, fun z => ⟨(h5 z).1, fun x hx => ?_⟩⟩
          dsimp only
          rw [cp138]
          unfold va_cpy
          by_cases c : r = sb.toNatClampNeg ∧ j.toNatClampNeg ≤ x ∧ x < j.toNatClampNeg + mn
          · rw [if_pos (by omega), if_pos (by omega), cp101, if_pos (by omega)]
            have e := ((h _ ha).2.2.2.2 c3).2 (i.toNatClampNeg + (x - j.toNatClampNeg)) (by omega)
            have e1 : sa.toNatClampNeg * 16 + i.toNatClampNeg + (16 * r + x - (sb.toNatClampNeg * 16 + j.toNatClampNeg)) = 16 * sa.toNatClampNeg + (i.toNatClampNeg + (x - j.toNatClampNeg)) := by omega
            have e2 : 16 * sa.toNatClampNeg + i.toNatClampNeg + (16 * r + x - (16 * sb.toNatClampNeg + j.toNatClampNeg)) = 16 * sa.toNatClampNeg + (i.toNatClampNeg + (x - j.toNatClampNeg)) := by omega
            rw [e1, e2]
            exact e
          · rw [if_neg (by omega), if_neg (by omega)]
            exact (h5 z).2 x hx
  · rw [if_neg c5, if_neg c5]; exact ⟨rfl, h⟩
/-- the letters typed -/
def RT (ty : Nat) (le tp : Nat → Int32) : Prop := ty ≤ 80 ∧ ∀ j, j < ty → le j = tp j ∧ ∃ c : Nat, 32 ≤ c ∧ c ≤ 126 ∧ tp j = nI c
theorem rt_type {ty : Nat} {le tp : Nat → Int32} (h : RT ty le tp) (x : Int32) : (s_X6_type ty le x).1 = (s_X7_type ty tp x).1 ∧ (s_X7_type ty tp x).2.1 = (s_X6_type ty le x).2.1 ∧ RT (s_X6_type ty le x).2.1 (s_X6_type ty le x).2.2 (s_X7_type ty tp x).2.2 := by
  have h80 := h.1
  unfold s_X6_type s_X7_type
  rw [in32c x 32 126 (by decide) (by decide)]
  by_cases c1 : x < 32
  · rw [if_pos c1, if_pos c1, if_pos rfl]; exact ⟨rfl, rfl, h⟩
  rw [if_neg c1, if_neg c1]
  by_cases c2 : 126 < x
  · rw [if_pos c2, if_pos c2, if_pos rfl]; exact ⟨rfl, rfl, h⟩
  rw [if_neg c2, if_neg c2, if_neg (show ¬ ((1 : Int32) = 0) from by decide)]
  have hx : ∃ c : Nat, 32 ≤ c ∧ c ≤ 126 ∧ x = nI c := by
    have h0 : ¬ x < 0 := fun z => c1 (by
      have h1 := Int32.lt_iff_toInt_lt.mp z
      have e0 : (0 : Int32).toInt = 0 := by decide
      have e1 : (32 : Int32).toInt = 32 := by decide
      exact Int32.lt_iff_toInt_lt.mpr (by omega))
    obtain ⟨c, hc, e⟩ := in04 (N := 126) (by omega) h0 c2
    refine ⟨c, ?_, hc, e⟩
    rw [e] at c1
    have h3 : ¬ c < 32 := fun z => c1 ((nI_ltI (b := 32) (by omega) (by omega)).mpr z)
    omega
  obtain ⟨c, hc1, hc2, rfl⟩ := hx
  have e1 : ((nI c).toUInt32 % 65536).toInt32 = nI c := by
    rw [pk_char, pk_tn (by omega), Nat.mod_eq_of_lt (by omega)]
  have e2 : vp_nar .char (nI c) = nI c := e1
  rw [e1]
  unfold s_X3_add
  by_cases c5 : ty = 80
  · have c6 : nI ty = (80 : Int32) := by rw [c5]; rfl
    have c7 : ¬ nI ty < nI 80 := by rw [c5]; decide
    rw [if_neg c7, if_pos c6, if_pos rfl]
    exact ⟨rfl, rfl, h⟩
  · have c6 : ¬ nI ty = (80 : Int32) := fun z => c5 ((nI_eq (b := 80) (by omega) (by omega)).mp z)
    have c7 : nI ty < nI 80 := (nI_ltI (by omega) (by omega)).mpr (by omega)
    rw [if_pos c7, if_neg c6]
    dsimp only
    rw [if_neg (show ¬ ((1 : Int32) = 0) from by decide)]
    refine ⟨rfl, rfl, by show ty + 1 ≤ 80; omega, ?_⟩
    intro j hj
    show upd le ty (vp_nar .char (nI c)) j = upd tp ty (nI c) j ∧ ∃ c2 : Nat, 32 ≤ c2 ∧ c2 ≤ 126 ∧ upd tp ty (nI c) j = nI c2
    by_cases q : j = ty
    · subst q
      rw [upd_at, upd_at, e2]
      exact ⟨rfl, c, hc1, hc2, rfl⟩
    · rw [upd_ne _ _ q, upd_ne _ _ q]
      exact h.2 j (by have : j < ty + 1 := hj; omega)
theorem bv_within64 (a b : BitVec 64) : a &&& ~~~b = 0#64 ↔ a &&& b = a := by
  constructor
  · intro h
    apply BitVec.eq_of_getLsbD_eq
    intro i hi
    have h2 : (a &&& ~~~b).getLsbD i = false := by rw [h]; exact BitVec.getLsbD_zero
    rw [BitVec.getLsbD_and, BitVec.getLsbD_not] at h2
    rw [BitVec.getLsbD_and]
    revert h2
    simp only [hi, decide_true, Bool.true_and]
    cases a.getLsbD i <;> cases b.getLsbD i <;> decide
  · intro h
    apply BitVec.eq_of_getLsbD_eq
    intro i hi
    have h2 : (a &&& b).getLsbD i = a.getLsbD i := by rw [h]
    rw [BitVec.getLsbD_and] at h2
    rw [BitVec.getLsbD_and, BitVec.getLsbD_not, BitVec.getLsbD_zero]
    revert h2
    simp only [hi, decide_true, Bool.true_and]
    cases a.getLsbD i <;> cases b.getLsbD i <;> decide
theorem within64 {n : Nat} (hn : n ≤ 12) (v : Int64) : v &&& ((s_X5_all n).toInt64 ^^^ (-1 : Int64)) = 0 ↔ ∃ k : Nat, k < 2 ^ n ∧ v = lN k := by
  have h12 := pw_le hn
  rw [all_nI hn, nI_l (by omega)]
  have em : (-1 : Int64).toBitVec = BitVec.allOnes 64 := by decide
  have hm : (lN (2 ^ n - 1)).toBitVec.toNat = 2 ^ n - 1 := Nat.mod_eq_of_lt (a := 2 ^ n - 1) (b := 2 ^ 64) (by omega)
  have e : (v &&& (lN (2 ^ n - 1) ^^^ (-1 : Int64))).toBitVec = v.toBitVec &&& ~~~(lN (2 ^ n - 1)).toBitVec := by rw [Int64.toBitVec_and, Int64.toBitVec_xor, em, BitVec.xor_allOnes]
  have h := bv_within64 v.toBitVec (lN (2 ^ n - 1)).toBitVec
  constructor
  · intro z
    have h1 := h.mp (by rw [← e, z]; rfl)
    have h2 := congrArg BitVec.toNat h1
    rw [BitVec.toNat_and, hm, Nat.and_two_pow_sub_one_eq_mod] at h2
    have h3 := Nat.mod_lt v.toBitVec.toNat (Nat.two_pow_pos n)
    refine ⟨v.toBitVec.toNat, by omega, ?_⟩
    apply Int64.toBitVec_inj.mp
    apply BitVec.eq_of_toNat_eq
    show _ = v.toBitVec.toNat % 2 ^ 64
    rw [Nat.mod_eq_of_lt (by omega)]
  · rintro ⟨k, hk, rfl⟩
    have hk2 : (lN k).toBitVec.toNat = k := Nat.mod_eq_of_lt (a := k) (b := 2 ^ 64) (by omega)
    apply Int64.toBitVec_inj.mp
    rw [e]
    show _ = 0#64
    apply h.mpr
    apply BitVec.eq_of_toNat_eq
    rw [BitVec.toNat_and, hm, hk2, Nat.and_two_pow_sub_one_eq_mod, Nat.mod_eq_of_lt hk]
theorem areDeeds64 {n : Nat} (hn : n ≤ 12) (v : Int64) : ¬ s_X7_areDeeds n v = 0 ↔ ∃ k : Nat, k < 2 ^ n ∧ v = lN k := by
  have h12 := pw_le hn
  have h := all_nI hn
  unfold s_X5_all at h
  unfold s_X7_areDeeds
  rw [h, nI_l (by omega), mIn_iff]
  constructor
  · rintro ⟨h1, h2⟩
    obtain ⟨k, hk, rfl⟩ := pk_lOf (x := v) (fun z => absurd h1 (Int64.not_le.mpr z))
    exact ⟨k, by have := (pk_lLE hk (by omega)).mp h2; omega, rfl⟩
  · rintro ⟨k, hk, rfl⟩
    exact ⟨(pk_lLE (a := 0) (by omega) (by omega)).mpr (by omega), (pk_lLE (by omega) (by omega)).mpr (by omega)⟩
theorem lcmp_eq (x y : Int64) : lg_cmp x y = 0 ↔ x = y := by
  unfold lg_cmp
  by_cases h : x > y
  · rw [if_pos h]; exact ⟨fun z => absurd z (by decide), fun z => absurd h (z ▸ Int64.lt_irrefl)⟩
  · rw [if_neg h]
    by_cases h2 : x = y
    · rw [if_pos h2]; exact ⟨fun _ => h2, fun _ => rfl⟩
    · rw [if_neg h2]; exact ⟨fun z => absurd z (by decide), fun z => absurd z h2⟩
end EQN
