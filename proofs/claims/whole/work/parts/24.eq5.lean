section EQB
variable {n pe : Nat} {td ys la ri : Int32} {kd dy nd co od wo kd' dy' nd' co' od' wo' : Nat → Int32}
theorem most_inv (kd dy nd co wo : Nat → Int32) (la k fair : Int32) : ∀ (K d : Nat) (b s : Int32), s = s_X5_sumBy pe n la kd nd co wo b → (s_X4_most_L19 pe n la kd dy nd co wo k fair K d b s).2 = s_X5_sumBy pe n la kd nd co wo (s_X4_most_L19 pe n la kd dy nd co wo k fair K d b s).1 := by
  intro K
  induction K with
  | zero => intro d b s h; exact h
  | succ K ih =>
    intro d b s h
    unfold s_X4_most_L19
    (repeat' split) <;> first | exact ih _ _ _ h | exact ih _ _ _ rfl
theorem bestOf_all (A : Ag n kd dy nd co od wo kd' dy' nd' co' od' wo') (hn : n ≤ 12) (hp : 1 ≤ pe ∧ pe ≤ 4) (vs bs : Nat → Int32) (k fair old : Int32) :
    (s_X7_bestOf pe n kd' dy' nd' co' wo' vs bs k fair old).1 = s_X4_most pe n old kd dy nd co wo k fair ∧ (s_X7_bestOf pe n kd' dy' nd' co' wo' vs bs k fair old).2.2.1 = s_X5_sumBy pe n old kd nd co wo (s_X4_most pe n old kd dy nd co wo k fair) := by
  obtain ⟨S, hS, hS2⟩ := isSet_standing hn old kd nd (0 : Int32)
  have h12 := pw_le hn
  have hb : ∀ p, p < pe → (s_X7_bestOf_L17 pe n kd' nd' co' wo' vs old 4 0 bs) p = s_X5_valueBy pe n old kd nd co wo p 0 := by
    intro p hpp
    rw [best17, if_pos (by omega), eq_cnt2 A hp vs 0 old hpp]
  have r := eqm A hn hp k fair old hb hS hS2 (2 ^ n - 1) 1 0 (s_X7_counts pe n kd' nd' co' wo' vs 0 old).2 (s_X7_counts pe n kd' nd' co' wo' vs 0 old).1 (s_X7_counts pe n kd' nd' co' wo' vs 0 old).1 (by omega) (by omega)
  have e1 : S + 1 - 1 = S := by omega
  have e0 : nI 0 = (0 : Int32) := rfl
  rw [e1, e0] at r
  have m : s_X4_most pe n old kd dy nd co wo k fair = (s_X4_most_L19 pe n old kd dy nd co wo k fair S 1 0 (s_X7_counts pe n kd' nd' co' wo' vs 0 old).1).1 := by
    unfold s_X4_most
    rw [hS, nI_clamp (by omega), eq_cnt1 A hp]
  have i := most_inv (pe := pe) (n := n) kd dy nd co wo old k fair S 1 0 (s_X7_counts pe n kd' nd' co' wo' vs 0 old).1 (eq_cnt1 A hp vs 0 old)
  refine ⟨?_, ?_⟩
  · rw [m, r]; rfl
  · rw [m, ← i, r]; rfl
theorem rn_best (h : RN pe n td ys la ri kd dy nd co od wo kd' dy' nd' co' od' wo') (sm bt : Int32) (vs bs : Nat → Int32) (k fair what : Int32) : s_X6_best pe n la kd dy nd co wo k fair what = (s_X7_best pe n la sm bt kd' dy' nd' co' wo' vs bs k fair what).1 := by
  unfold s_X6_best s_X7_best
  rw [eq_isLen, eq_isChoice, eq_isChoice]
  have b1 := bestOf_all h.ag h.hn h.hp vs bs k 1 la
  have b0 := bestOf_all h.ag h.hn h.hp vs bs k 0 la
  rw [← b1.2, ← b1.1, ← b0.2, ← b0.1]
  (repeat' split) <;> rfl
theorem lt5 (x : Int32) : x < (5 : Int32) ↔ ¬ (4 : Int32) < x := by
  rw [Int32.lt_iff_toInt_lt, Int32.lt_iff_toInt_lt]
  have e1 : (5 : Int32).toInt = 5 := by decide
  have e2 : (4 : Int32).toInt = 4 := by decide
  omega
theorem eqf (A : Ag n kd dy nd co od wo kd' dy' nd' co' od' wo') (hn : n ≤ 12) (must no old : Int32) {S : Nat} (hS : s_X5_standing n old kd nd 0 = nI S) (hS2 : S < 2 ^ n) :
    ∀ (K d : Nat) (best size : Int32), d + K = 2 ^ n → ((best = -4 ∧ size = 5) ∨ (∃ b : Nat, b < 4096 ∧ best = nI b ∧ size = s_J6_bitCount_0f7a4 (nI b))) →
      (s_X4_fewest_L16 n old kd dy nd must no (S + 1 - d) d best size).1 = s_X7_wanted_L43 n old kd' dy' nd' must no K d best := by
  have h12 := pw_le hn
  intro K
  induction K with
  | zero =>
    intro d best size h _
    have e : S + 1 - d = 0 := by omega
    rw [e]
    rfl
  | succ K ih =>
    intro d best size h hi
    unfold s_X7_wanted_L43 s_X7_wanted_m97_0
    rw [eq_standing A, eq_standing A, hS, eq_size (j := d) (by omega)]
    by_cases c1 : nI d &&& (nI S ^^^ (-1 : Int32)) = 0
    · have hle := within_le (by omega) (by omega) c1
      have e : S + 1 - d = (S + 1 - (d + 1)) + 1 := by omega
      rw [if_pos c1, e]
      unfold s_X4_fewest_L16
      rw [hS, nI_clamp (by omega), eq_walk A, if_pos c1]
      have keep := ih (d + 1) best size (by omega) hi
      have take := ih (d + 1) (nI d) (s_J6_bitCount_0f7a4 (nI d)) (by omega) (Or.inr ⟨d, by omega, rfl, rfl⟩)
      by_cases c2 : 4 < s_J6_bitCount_0f7a4 (nI d)
      · rw [if_pos c2, if_pos c2, if_pos rfl, if_pos (show nI 0 = (0 : Int32) from rfl), ← keep]
        split <;> rfl
      · rw [if_neg c2, if_neg c2]
        have key : s_J6_bitCount_0f7a4 (nI d) < size ↔ ¬ (nI (if best = -4 then 1 else if s_J6_bitCount_0f7a4 (nI d) < s_X7_size best.toNatClampNeg then 1 else 0) = 0) := by
          rcases hi with ⟨hb, hs⟩ | ⟨b, hb1, hb2, hs⟩
          · rw [if_pos hb, hs, lt5]
            exact ⟨fun _ => by decide, fun _ => c2⟩
          · have hb3 : ¬ best = (-4 : Int32) := fun z => absurd (hb2.symm.trans z) (fun w => absurd (w ▸ nI_pos (n := b) (by omega)) (by decide))
            rw [if_neg hb3, hb2, nI_clamp (by omega), eq_size hb1, hs]
            by_cases c3 : s_J6_bitCount_0f7a4 (nI d) < s_J6_bitCount_0f7a4 (nI b)
            · rw [if_pos c3]; exact ⟨fun _ => by decide, fun _ => c3⟩
            · rw [if_neg c3]; exact ⟨fun z => absurd z c3, fun z => absurd rfl z⟩
        by_cases c3 : s_J6_bitCount_0f7a4 (nI d) < size
        · rw [if_pos c3, if_neg (key.mp c3)]
          by_cases c4 : s_X7_isWalk n dy' (nI d) (nI S) = 0
          · rw [if_pos c4, if_pos c4]; exact keep
          · rw [if_neg c4, if_neg c4]
            by_cases c5 : must &&& (s_X5_standing n old kd nd (nI d) ^^^ (-1 : Int32)) = 0
            · rw [if_pos c5, if_neg (fun z => (within_0 _ _).mp z c5)]
              by_cases c6 : no &&& s_X5_standing n old kd nd (nI d) = 0
              · rw [if_pos c6, if_pos c6]; exact take
              · rw [if_neg c6, if_neg c6]; exact keep
            · rw [if_neg c5, if_pos ((within_0 _ _).mpr c5)]; exact keep
        · rw [if_neg c3, if_pos (Decidable.byContradiction fun z => c3 (key.mpr z))]; exact keep
    · rw [if_neg c1, if_pos (show nI 0 = (0 : Int32) from rfl)]
      rcases Nat.lt_or_ge S d with z | z
      · have r := ih (d + 1) best size (by omega) hi
        have e : S + 1 - d = 0 := by omega
        have e2 : S + 1 - (d + 1) = 0 := by omega
        rw [e2] at r
        rw [e]
        exact r
      · have e : S + 1 - d = (S + 1 - (d + 1)) + 1 := by omega
        rw [e]
        unfold s_X4_fewest_L16
        rw [hS, nI_clamp (by omega), eq_walk A, if_neg c1, if_pos rfl]
        have keep := ih (d + 1) best size (by omega) hi
        rw [← keep]
        split <;> rfl
theorem rn_wanted (h : RN pe n td ys la ri kd dy nd co od wo kd' dy' nd' co' od' wo') (must no : Int32) : s_X6_wanted n la kd dy nd must no = s_X7_wanted n la kd' dy' nd' must no := by
  unfold s_X6_wanted s_X7_wanted
  rw [eq_areDeeds h.hn, eq_areDeeds h.hn]
  obtain ⟨S, hS, hS2⟩ := isSet_standing h.hn la kd nd (0 : Int32)
  have h12 := pw_le h.hn
  have r := eqf h.ag h.hn must no la hS hS2 (2 ^ n) 0 (-4) 5 (by omega) (Or.inl ⟨rfl, rfl⟩)
  rw [← r]
  unfold s_X4_fewest
  rw [hS, nI_clamp (by have := h.hn; omega)]
  rfl
theorem barg (g l what : Int32) : (if g < l then (-4 : Int32) else if 0 < g then (if what = 0 then (if l < 0 then 0 else l) else g) else -4) = (if l < 0 then (if g < 0 then (-4 : Int32) else if 0 < g then (if what = 0 then 0 else g) else -4) else (if g < l then (-4 : Int32) else if 0 < g then (if what = 0 then l else g) else -4)) := by
  have e0 : (0 : Int32).toInt = 0 := by decide
  by_cases c1 : l < 0
  · rw [if_pos c1, if_pos c1]
    by_cases c2 : g < l
    · rw [if_pos c2, if_pos (Int32.lt_iff_toInt_lt.mpr (by have h1 := Int32.lt_iff_toInt_lt.mp c1; have h2 := Int32.lt_iff_toInt_lt.mp c2; omega))]
    · rw [if_neg c2]
      by_cases c3 : g < 0
      · rw [if_pos c3, if_neg]
        intro z
        have h1 := Int32.lt_iff_toInt_lt.mp c3
        have h2 := Int32.lt_iff_toInt_lt.mp z
        omega
      · rw [if_neg c3]
  · rw [if_neg c1, if_neg c1]
theorem rn_bargain (h : RN pe n td ys la ri kd dy nd co od wo kd' dy' nd' co' od' wo') (sm : Int32) (vs : Nat → Int32) (deed first other what : Int32) : s_X6_bargain pe n la ri kd nd co wo deed first other what = (s_X7_bargain pe n la ri sm kd' nd' co' wo' vs deed first other what).1 := by
  have hn := h.hn
  have hp := h.hp
  unfold s_X6_bargain s_X7_bargain
  rw [eq_has (by omega), eq_isOne (by omega), eq_isOne (by omega), eq_isChoice, eq_standing h.ag]
  simp only [isIn_0]
  by_cases c1 : s_X5_has n deed = 0
  · rw [if_pos c1, if_pos c1]
  rw [if_neg c1, if_neg c1]
  by_cases c2 : s_X5_isPerson pe first = 0
  · rw [if_pos c2, if_pos c2]
  rw [if_neg c2, if_neg c2]
  by_cases c3 : s_X5_isPerson pe other = 0
  · rw [if_pos c3, if_pos c3]
  rw [if_neg c3, if_neg c3]
  by_cases c4 : first = other
  · rw [if_pos c4, if_pos c4]
  rw [if_neg c4, if_neg c4]
  by_cases c5 : s_X6_isChoice what = 0
  · rw [if_pos c5, if_pos c5]
  rw [if_neg c5, if_neg c5]
  by_cases c6 : (s_X5_standing n la kd nd ri >>> (deed &&& 31)) &&& (1 : Int32) = 0
  · rw [if_pos c6, if_pos c6]
  rw [if_neg c6, if_neg c6]
  have e1 := fun vs right => eq_cnt2 h.ag h.hp vs right la (isPerson_nat h.hp c2).2
  have e2 := fun vs right => eq_cnt2 h.ag h.hp vs right la (isPerson_nat h.hp c3).2
  simp only [e1, e2]
  rw [barg]
  (repeat' split) <;> rfl
end EQB
