/-- what refuses no items of a sheet: where they lie -/
theorem reach_i {sz : Nat → Int32} {s : Nat} {i m : Int32} (hz : ∀ j, j < 4 → ∃ z : Nat, z ≤ 16 ∧ sz j = nI z) (hs : s < 4) (h : ¬ s_X2_reaches sz s i m = 0) : i = nI i.toNatClampNeg ∧ m = nI m.toNatClampNeg ∧ i.toNatClampNeg + m.toNatClampNeg ≤ 16 := by
  obtain ⟨z, hz1, hz2⟩ := hz s hs
  unfold s_X2_reaches at h
  rw [hz2] at h
  by_cases h1 : i < (0 : Int32)
  · rw [if_pos h1] at h; exact absurd rfl h
  by_cases h2 : m < (0 : Int32)
  · rw [if_neg h1, if_pos h2] at h; exact absurd rfl h
  by_cases h3 : nI z < i
  · rw [if_neg h1, if_neg h2, if_pos h3] at h; exact absurd rfl h
  by_cases h4 : (nI z) - i < m
  · rw [if_neg h1, if_neg h2, if_neg h3, if_pos h4] at h; exact absurd rfl h
  obtain ⟨a, ha, rfl⟩ := nI_of h1
  obtain ⟨b, hb, rfl⟩ := nI_of h2
  have h3' : a ≤ z := Nat.not_lt.mp (fun q => h3 ((nI_ltI (by omega) ha).mpr q))
  rw [pk_sub h3'] at h4
  have h4' : b ≤ z - a := Nat.not_lt.mp (fun q => h4 ((nI_ltI (by omega) hb).mpr q))
  rw [nI_clamp ha, nI_clamp hb]
  exact ⟨rfl, rfl, by omega⟩
theorem fault_sheet {ln sz : Nat → Int32} {sheet lane i m : Int32} (h : s_X2_faultOf ln sz sheet lane i m = 0) : sheet = nI sheet.toNatClampNeg ∧ sheet.toNatClampNeg < 4 := by
  refine isSheet_nat (fun z => ?_)
  unfold s_X2_faultOf at h
  rw [if_pos z] at h
  exact absurd h (by decide)
theorem fault_i {ln sz : Nat → Int32} {sheet lane i m : Int32} {mn : Nat} (hm : m = nI mn) (hmn : mn ≤ 16) (hz : ∀ j, j < 4 → ∃ z : Nat, z ≤ 16 ∧ sz j = nI z) (h : s_X2_faultOf ln sz sheet lane i m = 0) : i = nI i.toNatClampNeg ∧ i.toNatClampNeg + mn ≤ 16 := by
  have hs := fault_sheet h
  unfold s_X2_faultOf at h
  by_cases h1 : s_X6_isSheet sheet = 0
  · rw [if_pos h1] at h; exact absurd h (by decide)
  by_cases h2 : s_X6_isLane lane = 0
  · rw [if_neg h1, if_pos h2] at h; exact absurd h (by decide)
  by_cases h3 : s_X2_holds ln sheet.toNatClampNeg = 0
  · rw [if_neg h1, if_neg h2, if_pos h3] at h; exact absurd h (by decide)
  by_cases h4 : ln sheet.toNatClampNeg = lane
  · rw [if_neg h1, if_neg h2, if_neg h3, if_pos h4] at h
    by_cases h5 : s_X2_reaches sz sheet.toNatClampNeg i m = 0
    · rw [if_pos h5] at h; exact absurd h (by decide)
    · have r := reach_i hz hs.2 h5
      rw [hm, nI_clamp (by omega)] at r
      exact ⟨r.1, r.2.2⟩
  · rw [if_neg h1, if_neg h2, if_neg h3, if_neg h4] at h; exact absurd h (by decide)
