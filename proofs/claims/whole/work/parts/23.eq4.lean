theorem sm31 : ∀ e, e < 31 → ((nI e &&& 31).toBitVec.smod 32).toNat = e := by decide +kernel
theorem bit_nI {j e : Nat} (hj : j < 2 ^ 31) (he : e < 31) : (nI j >>> (nI e &&& 31)) &&& (1 : Int32) = nI (j / 2 ^ e % 2) := by
  rw [pk_shrN hj (nI e &&& 31) e (sm31 e he)]
  have h : j / 2 ^ e ≤ j := Nat.div_le_self _ _
  exact pk_andN (n := j / 2 ^ e) (by omega) (m := (1 : Int32)) 1 (by decide)
theorem bit_0 {j e : Nat} (hj : j < 2 ^ 31) (he : e < 31) : ((nI j >>> (nI e &&& 31)) &&& (1 : Int32) = 0) ↔ j.testBit e = false := by
  rw [bit_nI hj he, Nat.testBit_eq_decide_div_mod_eq]
  have e0 : (0 : Int32) = nI 0 := rfl
  rw [e0, nI_eq (by omega) (by omega)]
  by_cases c : j / 2 ^ e % 2 = 1
  · rw [c]; decide
  · have c2 : j / 2 ^ e % 2 = 0 := by omega
    rw [c2]; decide
theorem and_bit {j e : Nat} (hj : j < 2 ^ 31) (he : e < 31) : (nI j &&& ((1 : Int32) <<< (nI e &&& 31)) = 0) ↔ j.testBit e = false := by
  rw [sh1 e he, and_nI]
  have e0 : (0 : Int32) = nI 0 := rfl
  have h1 : j &&& 2 ^ e ≤ j := Nat.and_le_left
  rw [e0, nI_eq (by omega) (by omega)]
  constructor
  · intro z
    have h2 := congrArg (fun q => q.testBit e) z
    simp only [Nat.testBit_and, Nat.testBit_two_pow_self, Bool.and_true, Nat.zero_testBit] at h2
    exact h2
  · intro z
    apply Nat.eq_of_testBit_eq
    intro i
    rw [Nat.testBit_and, Nat.testBit_two_pow, Nat.zero_testBit]
    by_cases c : e = i
    · subst c; rw [z]; rfl
    · rw [decide_eq_false c, Bool.and_false]
section EQW
variable {n pe : Nat} {kd dy nd co od wo kd' dy' nd' co' od' wo' : Nat → Int32}
theorem eqw0 (f : Nat → Int32) (set : Int32) : ∀ (k d : Nat) (met : Int32), (s_X7_isWalk_L20 f set k d met 0).2 = 0 := by
  intro k
  induction k with
  | zero => intro d met; rfl
  | succ k ih =>
    intro d met
    unfold s_X7_isWalk_L20
    split
    · rw [if_pos rfl]; exact ih _ _
    · exact ih _ _
theorem eqw1 (A : Ag n kd dy nd co od wo kd' dy' nd' co' od' wo') (set : Int32) : ∀ (k d : Nat) (met : Int32), d + k = n → isSet 12 met → (s_X7_isWalk_L20 dy' set k d met 1).2 = s_X4_isWalk_L24 dy set (fun _ => 1) k d met := by
  intro k
  induction k with
  | zero => intro d met _ _; rfl
  | succ k ih =>
    intro d met h hm
    unfold s_X7_isWalk_L20 s_X4_isWalk_L24
    simp only [isIn_0]
    rw [← A.edy d (by omega)]
    obtain ⟨y, hy, ey⟩ := A.d12 d (by omega)
    obtain ⟨j, ej, hj⟩ := hm
    have h3 : (2 : Nat) ^ 12 = 4096 := by decide
    by_cases c : (set >>> (nI d &&& 31)) &&& (1 : Int32) = 0
    · rw [if_pos c, if_neg (fun z => (b01' _).mp z c)]
      exact ih _ _ (by omega) ⟨j, ej, hj⟩
    · rw [if_neg c, if_pos ((b01' _).mpr c), if_neg (show ¬ ((1 : Int32) = 0) from by decide), ey, ej]
      by_cases c2 : j.testBit y = false
      · rw [if_pos ((bit_0 (by omega) (by omega)).mpr c2), if_pos ((and_bit (by omega) (by omega)).mpr c2)]
        exact ih _ _ (by omega) (isSet_or (n := 12) (by omega) hy ⟨j, rfl, hj⟩)
      · rw [if_neg (fun z => c2 ((bit_0 (by omega) (by omega)).mp z)), if_neg (fun z => c2 ((and_bit (by omega) (by omega)).mp z))]
        exact eqw0 _ _ _ _ _
theorem eq_walk (A : Ag n kd dy nd co od wo kd' dy' nd' co' od' wo') (set S k : Int32) : s_X4_isWalk n dy set S k = if set &&& (S ^^^ (-1 : Int32)) = 0 then (if k < s_J6_bitCount_0f7a4 set then 0 else s_X7_isWalk n dy' set S) else 0 := by
  unfold s_X4_isWalk s_X7_isWalk s_X7_isWalk_m15_0
  by_cases c : set &&& (S ^^^ (-1 : Int32)) = 0
  · rw [if_pos c, if_neg (fun z => (within_0 _ _).mp z c), if_pos c]
    have e := eqw1 A set n 0 0 (by omega) (isSet_0 12)
    split
    · rfl
    · exact e.symm
  · rw [if_neg c, if_pos ((within_0 _ _).mpr c)]
theorem fair0 (la k fair old : Int32) (bs vs : Nat → Int32) (d : Nat) : ∀ (j e : Nat), (s_X7_bestOf_L150 pe n kd' nd' co' wo' fair old bs d vs j e 0) = 0 := by
  intro j
  induction j with
  | zero => intro e; rfl
  | succ j ih =>
    intro e
    unfold s_X7_bestOf_L150
    split
    · rfl
    · rw [if_pos rfl]; exact ih _
theorem fair1 (A : Ag n kd dy nd co od wo kd' dy' nd' co' od' wo') (hp : 1 ≤ pe ∧ pe ≤ 4) {fair old : Int32} (hf : ¬ fair = 0) {bs vs : Nat → Int32} (hb : ∀ p, p < pe → bs p = s_X5_valueBy pe n old kd nd co wo p 0) (d : Nat) : ∀ (j e : Nat), e + j = pe → s_X7_bestOf_L150 pe n kd' nd' co' wo' fair old bs d vs j e 1 = s_X4_isFair_L2 pe n old kd nd co wo (nI d) 1 j e := by
  intro j
  induction j with
  | zero => intro e _; rfl
  | succ j ih =>
    intro e h
    unfold s_X7_bestOf_L150 s_X4_isFair_L2
    rw [if_neg hf, if_neg (show ¬ ((1 : Int32) = 0) from by decide), eq_cnt2 A hp vs (nI d) old (p := e) (by omega), hb e (by omega)]
    split
    · exact fair0 old old fair old bs vs d _ _
    · exact ih _ (by omega)
theorem fairZ {old : Int32} (hp : 1 ≤ pe ∧ pe ≤ 4) (bs vs : Nat → Int32) (d : Nat) (iw : Int32) : s_X7_bestOf_L150 pe n kd' nd' co' wo' 0 old bs d vs pe 0 iw = iw := by
  obtain ⟨q, rfl⟩ : ∃ q, pe = q + 1 := ⟨pe - 1, by omega⟩
  show (if (0 : Int32) = 0 then iw else _) = iw
  rw [if_pos rfl]
theorem best17 (kd nd co wo vs : Nat → Int32) (old : Int32) : ∀ (k d : Nat) (bs : Nat → Int32) (p : Nat), (s_X7_bestOf_L17 pe n kd nd co wo vs old k d bs) p = if d ≤ p ∧ p < d + k then (s_X7_counts pe n kd nd co wo vs 0 old).2 p else bs p := by
  intro k
  induction k with
  | zero => intro d bs p; rw [if_neg (by omega)]; rfl
  | succ k ih =>
    intro d bs p
    unfold s_X7_bestOf_L17
    rw [ih]
    by_cases c : p = d
    · subst c; rw [if_neg (by omega), if_pos (by omega), upd_at]
    · rw [upd_ne _ _ c]
      by_cases c2 : d + 1 ≤ p ∧ p < d + 1 + k
      · rw [if_pos c2, if_pos (by omega)]
      · rw [if_neg c2, if_neg (by omega)]
theorem within_le {d s : Nat} (hd : d < 2 ^ 31) (hs : s < 2 ^ 31) (h : nI d &&& (nI s ^^^ (-1 : Int32)) = 0) : d ≤ s := by
  have h1 := (within_iff _ _).mp h
  rw [and_nI] at h1
  have h2 : d &&& s ≤ s := Nat.and_le_right
  have h3 : d &&& s ≤ d := Nat.and_le_left
  have h4 := (nI_eq (by omega) hd).mp h1
  omega
theorem eqm (A : Ag n kd dy nd co od wo kd' dy' nd' co' od' wo') (hn : n ≤ 12) (hp : 1 ≤ pe ∧ pe ≤ 4) (k fair old : Int32) {bs : Nat → Int32} (hb : ∀ p, p < pe → bs p = s_X5_valueBy pe n old kd nd co wo p 0) {S : Nat} (hS : s_X5_standing n old kd nd 0 = nI S) (hS2 : S < 2 ^ n) :
    ∀ (K d : Nat) (best : Nat) (vs : Nat → Int32) (sm bt : Int32), d + K = 2 ^ n → best < 4096 →
      s_X4_most_L19 pe n old kd dy nd co wo k fair (S + 1 - d) d (nI best) bt = (nI (s_X7_bestOf_L57 pe n kd' dy' nd' co' wo' k fair old bs K d best vs sm bt).1, (s_X7_bestOf_L57 pe n kd' dy' nd' co' wo' k fair old bs K d best vs sm bt).2.2.2) := by
  have h12 := pw_le hn
  intro K
  induction K with
  | zero =>
    intro d best vs sm bt h _
    have e : S + 1 - d = 0 := by omega
    rw [e]
    rfl
  | succ K ih =>
    intro d best vs sm bt h hbest
    unfold s_X7_bestOf_L57
    rw [eq_standing A, hS]
    by_cases c1 : nI d &&& (nI S ^^^ (-1 : Int32)) = 0
    · have hle := within_le (by omega) (by omega) c1
      have e : S + 1 - d = (S + 1 - (d + 1)) + 1 := by omega
      rw [if_pos c1, e]
      unfold s_X4_most_L19
      rw [hS, nI_clamp (by omega), eq_walk A, if_pos c1, eq_size (by omega)]
      by_cases c2 : k < s_J6_bitCount_0f7a4 (nI d)
      · rw [if_pos c2, if_pos c2, if_pos rfl]
        exact ih _ _ _ _ _ (by omega) hbest
      · rw [if_neg c2, if_neg c2]
        by_cases c3 : s_X7_isWalk n dy' (nI d) (nI S) = 0
        · rw [if_pos c3, if_pos c3]
          exact ih _ _ _ _ _ (by omega) hbest
        · rw [if_neg c3, if_neg c3]
          have take := ih (d + 1) d (s_X7_counts pe n kd' nd' co' wo' vs (nI d) old).2 (s_X7_counts pe n kd' nd' co' wo' vs (nI d) old).1 (s_X5_sumBy pe n old kd nd co wo (nI d)) (by omega) (by omega)
          have keep := ih (d + 1) best (s_X7_counts pe n kd' nd' co' wo' vs (nI d) old).2 (s_X7_counts pe n kd' nd' co' wo' vs (nI d) old).1 bt (by omega) hbest
          unfold s_X7_bestOf_m145_0
          rw [eq_cnt1 A hp] at take keep ⊢
          rw [eq_size (j := d) (by omega), eq_size (j := best) (by omega)]
          have acc : ∀ (b : Bool), (s_X7_bestOf_L150 pe n kd' nd' co' wo' fair old bs d vs pe 0 (nI (if b then 1 else 0)) = 0) ↔ ¬ (b = true ∧ (fair = 0 ∨ ¬ s_X4_isFair pe n old kd nd co wo (nI d) = 0)) := by
            intro b
            by_cases cf : fair = 0
            · rw [cf, fairZ hp]
              cases b with
              | false => exact ⟨fun _ z => absurd z.1 (by decide), fun _ => rfl⟩
              | true => exact ⟨fun z => absurd z (by decide), fun z => absurd ⟨rfl, Or.inl rfl⟩ z⟩
            · cases b with
              | false =>
                rw [show nI (if false then 1 else 0) = 0 from rfl, fair0 old old fair old bs vs d _ _]
                exact ⟨fun _ z => absurd z.1 (by decide), fun _ => rfl⟩
              | true =>
                rw [show nI (if true then 1 else 0) = 1 from rfl, fair1 A hp cf hb d pe 0 (by omega)]
                unfold s_X4_isFair
                exact ⟨fun z w => (w.2.resolve_left cf) z, fun z => Decidable.byContradiction fun w => z ⟨rfl, Or.inr w⟩⟩
          have fin : ∀ (b : Bool) (q : Nat), q = (if b then 1 else 0) → (if b = true then (if fair = 0 then s_X4_most_L19 pe n old kd dy nd co wo k fair (S + 1 - (d + 1)) (d + 1) (nI d) (s_X5_sumBy pe n old kd nd co wo (nI d)) else (if s_X4_isFair pe n old kd nd co wo (nI d) = 0 then s_X4_most_L19 pe n old kd dy nd co wo k fair (S + 1 - (d + 1)) (d + 1) (nI best) bt else s_X4_most_L19 pe n old kd dy nd co wo k fair (S + 1 - (d + 1)) (d + 1) (nI d) (s_X5_sumBy pe n old kd nd co wo (nI d)))) else s_X4_most_L19 pe n old kd dy nd co wo k fair (S + 1 - (d + 1)) (d + 1) (nI best) bt) = (nI (if s_X7_bestOf_L150 pe n kd' nd' co' wo' fair old bs d vs pe 0 (nI q) = 0 then s_X7_bestOf_L57 pe n kd' dy' nd' co' wo' k fair old bs K (d + 1) best (s_X7_counts pe n kd' nd' co' wo' vs (nI d) old).2 (s_X5_sumBy pe n old kd nd co wo (nI d)) bt else s_X7_bestOf_L57 pe n kd' dy' nd' co' wo' k fair old bs K (d + 1) d (s_X7_counts pe n kd' nd' co' wo' vs (nI d) old).2 (s_X5_sumBy pe n old kd nd co wo (nI d)) (s_X5_sumBy pe n old kd nd co wo (nI d))).1, (if s_X7_bestOf_L150 pe n kd' nd' co' wo' fair old bs d vs pe 0 (nI q) = 0 then s_X7_bestOf_L57 pe n kd' dy' nd' co' wo' k fair old bs K (d + 1) best (s_X7_counts pe n kd' nd' co' wo' vs (nI d) old).2 (s_X5_sumBy pe n old kd nd co wo (nI d)) bt else s_X7_bestOf_L57 pe n kd' dy' nd' co' wo' k fair old bs K (d + 1) d (s_X7_counts pe n kd' nd' co' wo' vs (nI d) old).2 (s_X5_sumBy pe n old kd nd co wo (nI d)) (s_X5_sumBy pe n old kd nd co wo (nI d))).2.2.2) := by
            intro b q hq
            subst hq
            have ha := acc b
            by_cases cb : b = true ∧ (fair = 0 ∨ ¬ s_X4_isFair pe n old kd nd co wo (nI d) = 0)
            · rw [if_neg (fun z => ha.mp z cb), if_pos cb.1, ← take]
              rcases cb.2 with z | z
              · rw [if_pos z]
              · rw [if_neg z]; split <;> rfl
            · rw [if_pos (ha.mpr cb), ← keep]
              by_cases cb1 : b = true
              · rw [if_pos cb1]
                have c5 : ¬ fair = 0 := fun z => cb ⟨cb1, Or.inl z⟩
                rw [if_neg c5, if_pos (Decidable.byContradiction fun z => cb ⟨cb1, Or.inr z⟩)]
              · rw [if_neg cb1]
          by_cases c4 : bt < s_X5_sumBy pe n old kd nd co wo (nI d)
          · have r := fin true 1 rfl
            rw [if_pos rfl] at r
            simp only [c4, if_true]
            split <;> exact r
          · simp only [c4, if_false]
            by_cases c5 : s_X5_sumBy pe n old kd nd co wo (nI d) = bt
            · simp only [c5, if_true]
              rw [c5] at fin
              by_cases c6 : s_J6_bitCount_0f7a4 (nI d) < s_J6_bitCount_0f7a4 (nI best)
              · have r := fin true 1 rfl
                rw [if_pos rfl] at r
                rw [if_pos c6, if_pos c6]
                exact r
              · have r := fin false 0 rfl
                rw [if_neg (by decide)] at r
                rw [if_neg c6, if_neg c6]
                exact r
            · have r := fin false 0 rfl
              rw [if_neg (by decide)] at r
              simp only [c5, if_false]
              split <;> exact r
    · rw [if_neg c1]
      rcases Nat.lt_or_ge S d with z | z
      · have e : S + 1 - d = S + 1 - (d + 1) := by omega
        rw [e]
        have e2 : S + 1 - (d + 1) = 0 := by omega
        have r := ih (d + 1) best vs sm bt (by omega) hbest
        rw [e2] at r ⊢
        exact r
      · have e : S + 1 - d = (S + 1 - (d + 1)) + 1 := by omega
        rw [e]
        unfold s_X4_most_L19
        rw [hS, nI_clamp (by omega), eq_walk A, if_neg c1, if_pos rfl]
        exact ih _ _ _ _ _ (by omega) hbest
end EQW
