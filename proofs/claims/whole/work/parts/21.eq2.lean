theorem i64_lt (a b : Int32) : a.toInt64 < b.toInt64 ↔ a < b := by
  rw [Int64.lt_iff_toInt_lt, Int32.toInt_toInt64, Int32.toInt_toInt64, Int32.lt_iff_toInt_lt]
theorem in32 (x lo hi : Int32) : s_X7_in x.toInt64 lo.toInt64 hi.toInt64 = if x < lo then 0 else if hi < x then 0 else 1 := by
  unfold s_X7_in
  simp only [lcmp_lt, lcmp_gt, i64_lt]
theorem in32c (x lo hi : Int32) {a b : Int64} (ha : a = lo.toInt64) (hb : b = hi.toInt64) : s_X7_in x.toInt64 a b = if x < lo then 0 else if hi < x then 0 else 1 := by
  rw [ha, hb, in32]
theorem eq_isDay (x : Int32) : s_X7_in x.toInt64 0 11 = s_X6_isDay x := in32c x 0 11 (by decide) (by decide)
theorem eq_isLen (x : Int32) : s_X7_in x.toInt64 0 4 = s_X6_isWalkLength x := in32c x 0 4 (by decide) (by decide)
theorem lt_flip {x a b : Int32} (h : b.toInt = a.toInt + 1) : (if a < x then (0 : Int32) else 1) = (if x < b then (1 : Int32) else 0) := by
  by_cases c : a < x
  · rw [if_pos c, if_neg]
    intro z
    have h1 := Int32.lt_iff_toInt_lt.mp c
    have h2 := Int32.lt_iff_toInt_lt.mp z
    omega
  · rw [if_neg c, if_pos]
    apply Int32.lt_iff_toInt_lt.mpr
    have h1 : ¬ a.toInt < x.toInt := fun z => c (Int32.lt_iff_toInt_lt.mpr z)
    omega
theorem eq_isEver (x : Int32) : s_X7_in x.toInt64 0 3 = s_X6_isEverPerson x := by
  rw [in32c x 0 3 (by decide) (by decide), lt_flip (b := (4 : Int32)) (by decide)]
  rfl
theorem eq_isSheet (x : Int32) : s_X7_isSheet x = s_X6_isSheet x := eq_isEver x
theorem eq_isLane (x : Int32) : s_X7_isLane x = s_X6_isLane x := eq_isEver x
theorem eq_isChoice (x : Int32) : s_X7_in x.toInt64 0 1 = s_X6_isChoice x := by
  rw [in32c x 0 1 (by decide) (by decide)]
  unfold s_X6_isChoice
  by_cases c0 : x = 0
  · subst c0; decide
  · rw [if_neg c0]
    by_cases c1 : x = 1
    · subst c1; decide
    · rw [if_neg c1]
      by_cases c2 : x < 0
      · rw [if_pos c2]
      · rw [if_neg c2, if_pos]
        obtain ⟨j, hj, rfl⟩ := nI_of c2
        have e1 : (1 : Int32) = nI 1 := rfl
        have h0 : ¬ j = 0 := fun z => c0 (by rw [z]; rfl)
        have h1 : ¬ j = 1 := fun z => c1 (by rw [z]; rfl)
        rw [e1]
        exact (nI_ltI (by omega) hj).mpr (by omega)
theorem nm1_toInt {n : Nat} (hn : n < 2 ^ 30) : (nI n - (1 : Int32)).toInt = (n : Int) - 1 := pk_sub_toInt (a := n) (b := 1) hn (by omega)
theorem eq_has {n : Nat} (hn : n < 2 ^ 30) (x : Int32) : s_X7_isDeed n x.toInt64 = s_X5_has n x := by
  unfold s_X7_isDeed
  rw [in32c x 0 (nI n - 1) (by decide) rfl, lt_flip (b := nI n) (by rw [nm1_toInt hn, nI_toInt (by omega)]; omega)]
  rfl
theorem eq_isOne {n : Nat} (hn : n < 2 ^ 30) (x : Int32) : s_X7_isOne n x = s_X5_isPerson n x := eq_has hn x
theorem all_nI {n : Nat} (hn : n ≤ 12) : s_X5_all n = nI (2 ^ n - 1) := by
  have h := pw_le hn
  have e1 : (1 : Int32) = nI 1 := rfl
  unfold s_X5_all
  rw [sh1 n (by omega), e1, pk_sub h.2]
theorem all_tn {n : Nat} (hn : n ≤ 12) : (nI (2 ^ n - 1)).toBitVec.toNat = 2 ^ n - 1 := pk_tn (by have := pw_le hn; omega)
theorem within_all {n : Nat} (hn : n ≤ 12) (x : Int32) : x &&& nI (2 ^ n - 1) = x ↔ isSet n x := by
  have h := pw_le hn
  constructor
  · intro e
    rw [pk_and x n (all_tn hn)] at e
    exact ⟨_, e.symm, Nat.mod_lt _ (Nat.two_pow_pos n)⟩
  · rintro ⟨j, rfl, hj⟩
    rw [pk_andN (by omega) n (all_tn hn), Nat.mod_eq_of_lt hj]
theorem isWithin_all {n : Nat} (hn : n ≤ 12) (x : Int32) : ¬ s_X6_isWithin x (s_X5_all n) = 0 ↔ isSet n x := by
  rw [← within_all hn, ← within_iff, all_nI hn]
  unfold s_X6_isWithin
  by_cases c : x &&& (nI (2 ^ n - 1) ^^^ (-1 : Int32)) = 0
  · rw [if_pos c]; exact ⟨fun _ => c, fun _ => by decide⟩
  · rw [if_neg c]; exact ⟨fun z => absurd rfl z, fun z => absurd z c⟩
theorem isSet_iff {n : Nat} (hn : n ≤ 12) (x : Int32) : isSet n x ↔ ¬ x < 0 ∧ ¬ nI (2 ^ n - 1) < x := by
  have h := pw_le hn
  constructor
  · rintro ⟨j, rfl, hj⟩
    exact ⟨nI_pos (by omega), fun z => absurd ((nI_ltI (by omega) (by omega)).mp z) (by omega)⟩
  · rintro ⟨h1, h2⟩
    obtain ⟨j, hj, rfl⟩ := nI_of h1
    refine ⟨j, rfl, ?_⟩
    have h3 : ¬ 2 ^ n - 1 < j := fun z => h2 ((nI_ltI (by omega) hj).mpr z)
    omega
theorem eq_areDeeds {n : Nat} (hn : n ≤ 12) (x : Int32) : s_X7_areDeeds n x.toInt64 = s_X6_isWithin x (s_X5_all n) := by
  have e : s_X7_areDeeds n x.toInt64 = if x < 0 then 0 else if nI (2 ^ n - 1) < x then 0 else 1 := by
    have h := all_nI hn
    unfold s_X5_all at h
    unfold s_X7_areDeeds
    rw [h]
    exact in32c x 0 _ (by decide) rfl
  rw [e]
  by_cases c : isSet n x
  · have h2 := (isSet_iff hn x).mp c
    rw [if_neg h2.1, if_neg h2.2]
    have h3 := (isWithin_all hn x).mpr c
    unfold s_X6_isWithin at h3 ⊢
    split
    · rfl
    · rename_i c2; exact absurd (if_neg c2) h3
  · have h3 : s_X6_isWithin x (s_X5_all n) = 0 := Decidable.byContradiction fun z => c ((isWithin_all hn x).mp z)
    rw [h3]
    split
    · rfl
    · split
      · rfl
      · rename_i c1 c2
        exact absurd ((isSet_iff hn x).mpr ⟨c1, c2⟩) c
theorem isIn_val (s d : Int32) : s_X6_isIn s d = (s >>> (d &&& 31)) &&& (1 : Int32) := by
  unfold s_X6_isIn
  rcases b01 (s >>> (d &&& 31)) with h | h
  · rw [if_pos h, h]
  · rw [if_neg (by rw [h]; decide), h]
theorem isIn_same (s d : Int32) : (if s_X6_isIn s d = 0 then (0 : Int32) else 1) = s_X6_isIn s d := by
  unfold s_X6_isIn
  split <;> rfl
theorem upd_self (f : Nat → Int32) (i : Nat) : upd f i (f i) = f := by
  funext j
  by_cases c : j = i
  · subst c; exact upd_at _ _ _
  · exact upd_ne _ _ c
theorem eq_people (pe : Nat) (m : Int32) : s_X7_people pe m = s_X6_people pe m := by
  unfold s_X7_people s_X6_people
  rw [in32c m 1 4 (by decide) (by decide)]
  by_cases c1 : m < 1
  · rw [if_pos c1, if_pos c1]; rfl
  · rw [if_neg c1, if_neg c1]
    by_cases c2 : 4 < m
    · rw [if_pos c2, if_pos c2]; rfl
    · rw [if_neg c2, if_neg c2]; rfl
/-- the year as both programs hold it -/
def RN (pe n : Nat) (td ys la ri : Int32) (kd dy nd co od wo kd' dy' nd' co' od' wo' : Nat → Int32) : Prop :=
  (1 ≤ pe ∧ pe ≤ 4) ∧ n ≤ 12 ∧ isSet n la ∧ isSet n ri ∧ (∃ y : Nat, y ≤ 9999 ∧ ys = nI y) ∧ (td = -1 ∨ ∃ d : Nat, d < 12 ∧ td = nI d) ∧ Ag n kd dy nd co od wo kd' dy' nd' co' od' wo'
section RNS
variable {n pe : Nat} {td ys la ri : Int32} {kd dy nd co od wo kd' dy' nd' co' od' wo' : Nat → Int32}
theorem RN.hp (h : RN pe n td ys la ri kd dy nd co od wo kd' dy' nd' co' od' wo') : 1 ≤ pe ∧ pe ≤ 4 := h.1
theorem RN.hn (h : RN pe n td ys la ri kd dy nd co od wo kd' dy' nd' co' od' wo') : n ≤ 12 := h.2.1
theorem RN.sla (h : RN pe n td ys la ri kd dy nd co od wo kd' dy' nd' co' od' wo') : isSet n la := h.2.2.1
theorem RN.sri (h : RN pe n td ys la ri kd dy nd co od wo kd' dy' nd' co' od' wo') : isSet n ri := h.2.2.2.1
theorem RN.sys (h : RN pe n td ys la ri kd dy nd co od wo kd' dy' nd' co' od' wo') : ∃ y : Nat, y ≤ 9999 ∧ ys = nI y := h.2.2.2.2.1
theorem RN.std (h : RN pe n td ys la ri kd dy nd co od wo kd' dy' nd' co' od' wo') : td = -1 ∨ ∃ d : Nat, d < 12 ∧ td = nI d := h.2.2.2.2.2.1
theorem RN.ag (h : RN pe n td ys la ri kd dy nd co od wo kd' dy' nd' co' od' wo') : Ag n kd dy nd co od wo kd' dy' nd' co' od' wo' := h.2.2.2.2.2.2
theorem rn_people (h : RN pe n td ys la ri kd dy nd co od wo kd' dy' nd' co' od' wo') (m : Int32) : (s_X6_people pe m).1 = (s_X7_people pe m).1 ∧ RN (s_X6_people pe m).2 n td ys la ri kd dy nd co od wo kd' dy' nd' co' od' wo' ∧ (s_X7_people pe m).2 = (s_X6_people pe m).2 := by
  rw [eq_people]
  refine ⟨rfl, ?_, rfl⟩
  unfold s_X6_people
  split
  · exact h
  · split
    · exact h
    · rename_i c1 c2
      exact ⟨(p4_nat c1 c2).2, h.2⟩
theorem has_lt (h : RN pe n td ys la ri kd dy nd co od wo kd' dy' nd' co' od' wo') {x : Int32} (c : ¬ s_X5_has n x = 0) : x = nI x.toNatClampNeg ∧ x.toNatClampNeg < n := has_nat h.hn c
theorem rn_told (h : RN pe n td ys la ri kd dy nd co od wo kd' dy' nd' co' od' wo') (deed what : Int32) : s_X6_told n la ri kd dy nd co od deed what = s_X7_told n la ri kd' dy' nd' co' od' deed what := by
  have hn := h.hn
  unfold s_X6_told s_X7_told
  rw [eq_has (by omega)]
  by_cases c : s_X5_has n deed = 0
  · rw [if_pos c, if_pos c]
  · rw [if_neg c, if_neg c]
    have hd := (has_lt h c).2
    rw [h.ag.ekd _ hd, h.ag.edy _ hd, h.ag.end' _ hd, h.ag.eco _ hd, h.ag.eod _ hd, eq_standing h.ag, isIn_same, isIn_same, isIn_val, isIn_val]
theorem rn_worthOf (h : RN pe n td ys la ri kd dy nd co od wo kd' dy' nd' co' od' wo') (deed p : Int32) : s_X6_worthOf n wo deed p = s_X7_worthOf n wo' deed p := by
  have hn := h.hn
  unfold s_X6_worthOf s_X7_worthOf s_X5_worthTo
  rw [eq_has (by omega), eq_isEver]
  by_cases c : s_X5_has n deed = 0
  · rw [if_pos c, if_pos c]
  · rw [if_neg c, if_neg c]
    by_cases c2 : s_X6_isEverPerson p = 0
    · rw [if_pos c2, if_pos c2]
    · rw [if_neg c2, if_neg c2, Nat.mul_comm]
      have hd := (has_lt h c).2
      have hp := (isEver_nat c2).2
      exact h.ag.ewo _ (by omega)
theorem rn_count (h : RN pe n td ys la ri kd dy nd co od wo kd' dy' nd' co' od' wo') (what : Int32) : s_X6_count pe n td ys la ri kd nd what = s_X7_count pe n la ri td ys kd' nd' what := by
  unfold s_X6_count s_X7_count
  rw [eq_standing h.ag]
theorem rn_bears (h : RN pe n td ys la ri kd dy nd co od wo kd' dy' nd' co' od' wo') (deed : Int32) : s_X6_bears pe n wo deed = s_X7_bears pe n wo' deed := by
  have hn := h.hn
  unfold s_X6_bears s_X7_bears
  rw [eq_has (by omega)]
  by_cases c : s_X5_has n deed = 0
  · rw [if_pos c, if_pos c]
  · rw [if_neg c, if_neg c, eq_bearer h.ag h.hp (has_lt h c).2]
theorem rn_value (h : RN pe n td ys la ri kd dy nd co od wo kd' dy' nd' co' od' wo') (sm : Int32) (vs : Nat → Int32) (p : Int32) : s_X6_value pe n la ri kd nd co wo p = (s_X7_value pe n la ri sm kd' nd' co' wo' vs p).1 := by
  have hp := h.hp
  unfold s_X6_value s_X7_value
  rw [eq_isOne (by omega)]
  by_cases c : p = -1
  · rw [if_pos c, if_pos c]
    exact (eq_cnt1 h.ag h.hp vs ri la).symm
  · rw [if_neg c, if_neg c]
    by_cases c2 : s_X5_isPerson pe p = 0
    · rw [if_pos c2, if_pos c2]
    · rw [if_neg c2, if_neg c2]
      have hq := isPerson_nat h.hp c2
      rw [if_neg (by rw [hq.1]; exact nI_pos (by omega))]
      exact (eq_cnt2 h.ag h.hp vs ri la hq.2).symm
theorem rn_last (h : RN pe n td ys la ri kd dy nd co od wo kd' dy' nd' co' od' wo') (set : Int32) : (s_X6_last n la set).1 = (s_X7_last n la set).1 ∧ RN pe n td ys (s_X6_last n la set).2 ri kd dy nd co od wo kd' dy' nd' co' od' wo' ∧ (s_X7_last n la set).2 = (s_X6_last n la set).2 := by
  have e : s_X7_last n la set = s_X6_last n la set := by
    unfold s_X7_last s_X6_last
    rw [eq_areDeeds h.hn]
  rw [e]
  refine ⟨rfl, ?_, rfl⟩
  unfold s_X6_last
  split
  · exact h
  · rename_i c
    exact ⟨h.1, h.2.1, (isWithin_all h.hn set).mp c, h.2.2.2⟩
theorem rn_back (h : RN pe n td ys la ri kd dy nd co od wo kd' dy' nd' co' od' wo') : (s_X6_back td).1 = (s_X7_back td).1 ∧ RN pe n (s_X6_back td).2 ys la ri kd dy nd co od wo kd' dy' nd' co' od' wo' ∧ (s_X7_back td).2 = (s_X6_back td).2 := by
  refine ⟨rfl, ?_, rfl⟩
  unfold s_X6_back
  split
  · exact h
  · rename_i c
    refine ⟨h.1, h.2.1, h.2.2.1, h.2.2.2.1, h.2.2.2.2.1, ?_, h.ag⟩
    rcases h.std with z | ⟨d, hd, rfl⟩
    · exact absurd (by rw [z]; decide) c
    · cases d with
      | zero => exact Or.inl (by decide)
      | succ k => exact Or.inr ⟨k, by omega, dm_pred k⟩
end RNS
