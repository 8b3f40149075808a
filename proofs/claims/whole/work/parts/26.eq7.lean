section EQP
variable {n pe : Nat} {td ys la ri : Int32} {kd dy nd co od wo kd' dy' nd' co' od' wo' : Nat → Int32}
theorem unp0 (f : Nat → Int32) : ∀ (j d : Nat) (a : Int32), (∀ p, d ≤ p → p < d + j → f p = 0) → s_X0_fewestPayments_L4 f j d a = a := by
  intro j
  induction j with
  | zero => intro d a _; rfl
  | succ j ih =>
    intro d a h
    unfold s_X0_fewestPayments_L4
    rw [if_pos (h d (Nat.le_refl _) (by omega))]
    exact ih _ _ (fun p h1 h2 => h p (by omega) (by omega))
theorem unp1 {f : Nat → Int32} {ri : Int32} {co wo du : Nat → Int32} (hfg : ∀ p, p < 4 → (s_X7_owes pe n ri co wo du) p = f p) (hz : ∀ p, pe ≤ p → p < 4 → f p = 0) : ∀ (k d j : Nat) (a : Int32), d + k = pe → pe + j = 4 → s_X0_fewestPayments_L4 f (k + j) d a = s_X7_payments_L8 pe n ri co wo du k d a := by
  intro k
  induction k with
  | zero =>
    intro d j a h1 h2
    rw [Nat.zero_add]
    exact unp0 f j d a (fun p q1 q2 => hz p (by omega) (by omega))
  | succ k ih =>
    intro d j a h1 h2
    have e : k + 1 + j = (k + j) + 1 := by omega
    rw [e]
    unfold s_X0_fewestPayments_L4 s_X7_payments_L8
    rw [hfg d (by omega), Int32.or_zero]
    split
    · exact ih _ _ _ (by omega) (by omega)
    · exact ih _ _ _ (by omega) (by omega)
theorem unp_set {ri : Int32} {co wo du : Nat → Int32} : ∀ (k d : Nat) (a : Int32), d + k ≤ 4 → isSet 4 a → isSet 4 (s_X7_payments_L8 pe n ri co wo du k d a) := by
  intro k
  induction k with
  | zero => intro d a _ h; exact h
  | succ k ih =>
    intro d a h hs
    unfold s_X7_payments_L8
    split
    · exact ih _ _ (by omega) (isSet_or0 hs)
    · exact ih _ _ (by omega) (isSet_or (by omega) (by omega) hs)
theorem zsum {f g : Nat → Int32} (hfg : ∀ p, p < 4 → g p = f p) (set : Int32) : ∀ (k d : Nat) (a : Int32), d + k = 4 → s_X7_isZero_L4 g set k d a = s_X0_sumOf_L4 f set k d a := by
  intro k
  induction k with
  | zero => intro d a _; rfl
  | succ k ih =>
    intro d a h
    unfold s_X7_isZero_L4 s_X0_sumOf_L4
    simp only [isIn_0]
    rw [hfg d (by omega), Int32.add_zero]
    by_cases c : (set >>> (nI d &&& 31)) &&& (1 : Int32) = 0
    · rw [if_pos c, if_neg (fun z => (b01' _).mp z c)]; exact ih _ _ (by omega)
    · rw [if_neg c, if_pos ((b01' _).mpr c)]; exact ih _ _ (by omega)
theorem pay49 {f : Nat → Int32} {ri : Int32} {co wo du : Nat → Int32} (hfg : ∀ p, p < 4 → (s_X7_owes pe n ri co wo du) p = f p) {U : Nat} {S : Int32} (R : Nat → Int32) : ∀ (k d : Nat),
    (s_X7_payments_L49 pe n ri co wo du (nI U) (S - 1, R) k d).1 = S - s_X0_mostSets_L8 f U 1 k d ∨ (¬ s_X7_size (nI U).toNatClampNeg = S) := by
  intro k
  induction k with
  | zero => intro d; exact Or.inl rfl
  | succ k ih =>
    intro d
    unfold s_X7_payments_L49 s_X0_mostSets_L8
    by_cases c : nI d &&& (nI U ^^^ (-1 : Int32)) = 0
    · rw [if_pos c, if_neg (fun z => (within_0 _ _).mp z c)]
      have e : s_X7_isZero (s_X7_owes pe n ri co wo du) (nI d) = if s_X0_sumOf f (nI d) = 0 then 1 else 0 := by
        unfold s_X7_isZero s_X0_sumOf
        rw [zsum hfg (nI d) 4 0 0 (by omega)]
      rw [e]
      by_cases c2 : s_X0_sumOf f (nI d) = 0
      · rw [if_pos c2, if_pos c2, if_neg (show ¬ ((1 : Int32) = 0) from by decide)]
        by_cases c3 : s_X7_size (nI U).toNatClampNeg = S
        · exact Or.inl (by rw [c3])
        · exact Or.inr c3
      · rw [if_neg c2, if_neg c2, if_pos rfl]; exact ih _
    · rw [if_neg c, if_pos ((within_0 _ _).mpr c)]; exact ih _
theorem rn_payments (h : RN pe n td ys la ri kd dy nd co od wo kd' dy' nd' co' od' wo') (du du2 : Nat → Int32) : (s_X6_payments pe n ri co wo du).1 = (s_X7_payments pe n ri co' wo' du2).1 := by
  have hp := h.hp
  have hfg : ∀ p, p < 4 → (s_X7_owes pe n ri co' wo' du2) p = (s_X6_payments_L2 pe n ri co wo 4 0 du) p := by
    intro p h4
    rw [eq_owes h.ag hp ri du2 h4, pay2 hp ri co wo 4 0 du p (by omega), if_pos (show 0 ≤ p ∧ p < 4 from by omega)]
  have hz : ∀ p, pe ≤ p → p < 4 → (s_X6_payments_L2 pe n ri co wo 4 0 du) p = 0 := by
    intro p h1 h4
    rw [pay2 hp ri co wo 4 0 du p (by omega), if_pos (by omega), if_neg (by omega)]
  unfold s_X6_payments s_X7_payments s_X0_fewestPayments
  have e4 : (4 : Nat) = pe + (4 - pe) := by omega
  have u := unp1 hfg hz pe 0 (4 - pe) 0 (by omega) (by omega)
  rw [← e4] at u
  show s_J6_bitCount_0f7a4 _ - s_X0_mostSets _ _ = _
  rw [u]
  have hs := unp_set (pe := pe) (n := n) (ri := ri) (co := co') (wo := wo') (du := du2) pe 0 0 (by omega) (isSet_0 4)
  generalize s_X7_payments_L8 pe n ri co' wo' du2 pe 0 0 = O at hs ⊢
  have hS := eq_size_set (n := 12) (by omega) (isSet_up (by omega) hs)
  obtain ⟨U, rfl, hU⟩ := hs
  have h16 : (2 : Nat) ^ 4 = 16 := by decide
  unfold s_X0_mostSets
  rw [nI_clamp (by omega)]
  rw [nI_clamp (by omega)] at hS
  by_cases c : nI U = 0
  · rw [if_pos c, if_pos c, c]
    show s_J6_bitCount_0f7a4 0 - 0 = (0 : Int32)
    decide
  · rw [if_neg c, if_neg c]
    have r := pay49 hfg (U := U) (S := s_J6_bitCount_0f7a4 (nI U)) (s_X7_owes pe n ri co' wo' du2) (U - 1) 1
    rw [nI_clamp (by omega), hS] at r
    rw [hS]
    exact (r.resolve_right (fun z => z rfl)).symm
theorem xor_nI (a b : Nat) : nI a ^^^ nI b = nI (a ^^^ b) := by
  apply Int32.toBitVec_inj.mp
  apply BitVec.eq_of_toNat_eq
  show (a % 2 ^ 32) ^^^ (b % 2 ^ 32) = (a ^^^ b) % 2 ^ 32
  rw [Nat.xor_mod_two_pow]
theorem andnot_nI (a b : Nat) : nI a &&& (nI b ^^^ (-1 : Int32)) = nI (a ^^^ (a &&& b)) := by
  rw [← xor_nI, ← and_nI]
  generalize nI a = x
  generalize nI b = y
  apply Int32.toBitVec_inj.mp
  rw [Int32.toBitVec_and, Int32.toBitVec_xor, Int32.toBitVec_xor, Int32.toBitVec_and, i32_m1, BitVec.xor_allOnes]
  generalize x.toBitVec = x
  generalize y.toBitVec = y
  apply BitVec.eq_of_getLsbD_eq
  intro i hi
  rw [BitVec.getLsbD_and, BitVec.getLsbD_not, BitVec.getLsbD_xor, BitVec.getLsbD_and]
  simp only [hi, decide_true, Bool.true_and]
  cases x.getLsbD i <;> cases y.getLsbD i <;> decide
theorem lt_bit {t n i : Nat} (h : t < 2 ^ n) (hb : t.testBit i = true) : i < n := by
  rcases Nat.lt_or_ge i n with c | c
  · exact c
  · have h2 : 2 ^ n ≤ 2 ^ i := Nat.pow_le_pow_right (by decide) c
    rw [Nat.testBit_lt_two_pow (by omega)] at hb
    exact absurd hb (by decide)
theorem mask_and {L n : Nat} (hL : L < 2 ^ n) : (2 ^ n - 1) &&& L = L := by
  rw [Nat.and_comm, Nat.and_two_pow_sub_one_eq_mod, Nat.mod_eq_of_lt hL]
theorem oth_iff {t L n : Nat} (ht : t < 2 ^ n) : t &&& ((2 ^ n - 1) ^^^ L) = t ↔ t &&& L = 0 := by
  constructor
  · intro h
    apply Nat.eq_of_testBit_eq
    intro i
    have h2 := congrArg (fun z => z.testBit i) h
    simp only [Nat.testBit_and, Nat.testBit_xor, Nat.testBit_two_pow_sub_one] at h2
    rw [Nat.testBit_and, Nat.zero_testBit]
    cases c : t.testBit i with
    | false => rfl
    | true =>
      have hi := lt_bit ht c
      rw [c, decide_eq_true hi] at h2
      revert h2
      cases L.testBit i <;> decide
  · intro h
    apply Nat.eq_of_testBit_eq
    intro i
    have h2 := congrArg (fun z => z.testBit i) h
    simp only [Nat.testBit_and, Nat.zero_testBit] at h2
    simp only [Nat.testBit_and, Nat.testBit_xor, Nat.testBit_two_pow_sub_one]
    cases c : t.testBit i with
    | false => rfl
    | true =>
      have hi := lt_bit ht c
      rw [c] at h2
      rw [decide_eq_true hi]
      revert h2
      cases L.testBit i <;> decide
theorem and_m1 (x : Int32) : x &&& (-1 : Int32) = x := by
  apply Int32.toBitVec_inj.mp
  rw [Int32.toBitVec_and, i32_m1, BitVec.and_allOnes]
theorem fg0 (la : Int32) (kd dy nd : Nat → Int32) (w tol : Int32) (d : Nat) : ∀ (k e : Nat), s_X7_forgotten_L87 n la kd dy nd w tol d k e 0 = 0 := by
  intro k
  induction k with
  | zero => intro e; rfl
  | succ k ih =>
    intro e
    unfold s_X7_forgotten_L87
    rw [if_pos rfl, if_pos rfl]
    split <;> exact ih _
theorem is_01 (kd nd : Nat → Int32) (d : Nat) (s o : Int32) : s_X7_is kd nd d s o = 0 ∨ s_X7_is kd nd d s o = 1 := by
  unfold s_X7_is
  (repeat' split) <;> first | exact Or.inl rfl | exact Or.inr rfl
theorem fg1 (A : Ag n kd dy nd co od wo kd' dy' nd' co' od' wo') (hn : n ≤ 12) (la w : Int32) {t d L : Nat} (ht : t < 2 ^ n) (hL : L < 2 ^ n) (hl : s_X5_ofDay n dy w = nI L) (hd : d &&& L = d) : ∀ (k e : Nat), e + k = n →
    s_X7_forgotten_L87 n la kd' dy' nd' w (nI t) d k e 1 = s_X1_explains_L2 la kd nd (nI t ||| nI d) (nI ((2 ^ n - 1) ^^^ L)) 1 k e := by
  have h12 := pw_le hn
  have hd2 : d ≤ L := by rw [← hd]; exact Nat.and_le_right
  intro k
  induction k with
  | zero => intro e _; rfl
  | succ k ih =>
    intro e h
    unfold s_X7_forgotten_L87 s_X1_explains_L2
    have ho : (2 ^ n - 1) ^^^ L < 2 ^ n := Nat.xor_lt_two_pow (by omega) hL
    have hto : t ||| d < 2 ^ n := Nat.or_lt_two_pow ht (by omega)
    rw [eq_ofDay A, hl, if_neg (show ¬ ((1 : Int32) = 0) from by decide), if_neg (show ¬ ((1 : Int32) = 0) from by decide)]
    simp only [b01', isIn_0, bit_0 (j := (2 ^ n - 1) ^^^ L) (e := e) (by omega) (by omega), bit_0 (j := L) (e := e) (by omega) (by omega), bit_0 (j := t) (e := e) (by omega) (by omega)]
    rw [Nat.testBit_xor, Nat.testBit_two_pow_sub_one, decide_eq_true (show e < n from by omega)]
    have r := ih (e + 1) (by omega)
    rw [← eq_is (n := n) (la := la) (stand := nI t ||| nI d) (A.ekd e (by omega)) (A.end' e (by omega)) (A.k4 e (by omega)), or_nI, isIn_val, bit_nI (by omega) (by omega)]
    have hw : s_X5_wouldStand la kd nd e (nI (t ||| d)) = 0 ∨ s_X5_wouldStand la kd nd e (nI (t ||| d)) = 1 := by
      rw [eq_is (n := n) (la := la) (A.ekd e (by omega)) (A.end' e (by omega)) (A.k4 e (by omega))]
      exact is_01 _ _ _ _ _
    rw [or_nI] at r
    cases cL : L.testBit e with
    | true =>
      simp only [Bool.xor_self, Bool.true_eq_false, not_false_eq_true, if_true, ite_self]
      exact r
    | false =>
      have hb : (t ||| d) / 2 ^ e % 2 = if t.testBit e = true then 1 else 0 := by
        have h1 : (t ||| d).testBit e = t.testBit e := by
          have h2 : d.testBit e = false := by
            rw [← hd, Nat.testBit_and, cL, Bool.and_false]
          rw [Nat.testBit_or, h2, Bool.or_false]
        rw [Nat.testBit_eq_decide_div_mod_eq] at h1
        rw [← h1]
        by_cases c : (t ||| d) / 2 ^ e % 2 = 1
        · rw [c]; rfl
        · rw [if_neg (by simpa using c)]; omega
      rw [hb]
      have z0 := fg0 (n := n) la kd' dy' nd' w (nI t) d k (e + 1)
      cases ct : t.testBit e with
      | true =>
        simp only [Bool.xor_false, Bool.true_eq_false, not_true, not_false_eq_true, if_true, if_false]
        rcases hw with hw | hw
        · rw [hw, if_neg (by decide), if_neg (by decide)]; exact z0
        · rw [hw, if_pos (by decide), if_pos (by decide)]; exact r
      | false =>
        simp only [Bool.xor_false, Bool.true_eq_false, not_true, not_false_eq_true, if_true, if_false, Bool.false_eq_true]
        rcases hw with hw | hw
        · rw [hw, if_pos rfl, if_pos (by decide)]; exact r
        · rw [hw, if_neg (by decide), if_neg (by decide)]; exact z0
theorem fg60 (A : Ag n kd dy nd co od wo kd' dy' nd' co' od' wo') (hn : n ≤ 12) (la w : Int32) {t L : Nat} (ht : t < 2 ^ n) (hL : L < 2 ^ n) (hl : s_X5_ofDay n dy w = nI L) : ∀ (K d : Nat) (c s : Int32), d + K = 2 ^ n →
    s_X6_forgotten_L61 n la kd dy nd w (nI t) (L + 1 - d) d c s = s_X7_forgotten_L60 n la kd' dy' nd' w (nI t) K d c s := by
  have h12 := pw_le hn
  intro K
  induction K with
  | zero =>
    intro d c s h
    have e : L + 1 - d = 0 := by omega
    rw [e]
    rfl
  | succ K ih =>
    intro d c s h
    unfold s_X7_forgotten_L60
    rw [eq_ofDay A, hl]
    by_cases c1 : nI d &&& (nI L ^^^ (-1 : Int32)) = 0
    · have hle := within_le (by omega) (by omega) c1
      have hda : d &&& L = d := by
        have h1 := (within_iff _ _).mp c1
        have h2 : d &&& L ≤ d := Nat.and_le_left
        rw [and_nI] at h1
        exact (nI_eq (by omega) (by omega)).mp h1
      have e : L + 1 - d = (L + 1 - (d + 1)) + 1 := by omega
      rw [if_pos c1, e]
      unfold s_X6_forgotten_L61
      rw [hl, nI_clamp (by omega), if_neg (fun z => (within_0 _ _).mp z c1), all_nI hn, andnot_nI, mask_and hL]
      unfold s_X1_explains
      rw [← fg1 A hn la w ht hL hl hda n 0 (by omega), Int32.add_zero, and_m1]
      split
      · exact ih _ _ _ (by omega)
      · exact ih _ _ _ (by omega)
    · rw [if_neg c1]
      rcases Nat.lt_or_ge L d with z | z
      · have r := ih (d + 1) c s (by omega)
        have e : L + 1 - d = 0 := by omega
        have e2 : L + 1 - (d + 1) = 0 := by omega
        rw [e2] at r
        rw [e]
        exact r
      · have e : L + 1 - d = (L + 1 - (d + 1)) + 1 := by omega
        rw [e]
        unfold s_X6_forgotten_L61
        rw [hl, nI_clamp (by omega), if_pos ((within_0 _ _).mpr c1)]
        exact ih _ _ _ (by omega)
theorem rn_forgotten (h : RN pe n td ys la ri kd dy nd co od wo kd' dy' nd' co' od' wo') (w tol what : Int32) : s_X6_forgotten n la kd dy nd w tol what = s_X7_forgotten n la kd' dy' nd' w tol what := by
  have hn := h.hn
  have h12 := pw_le hn
  obtain ⟨L, hl, hL⟩ := isSet_ofDay hn dy w
  have ho : (2 ^ n - 1) ^^^ L < 2 ^ n := Nat.xor_lt_two_pow (by omega) hL
  unfold s_X6_forgotten s_X7_forgotten
  rw [eq_isDay, eq_areDeeds hn, eq_isChoice, eq_ofDay h.ag, hl, nI_clamp (by omega), all_nI hn, andnot_nI, mask_and hL]
  by_cases c1 : s_X6_isDay w = 0
  · rw [if_pos c1, if_pos c1]
  rw [if_neg c1, if_neg c1]
  have hw : ¬ s_X6_isWithin tol (nI ((2 ^ n - 1) ^^^ L)) = 0 ↔ ¬ s_X6_isWithin tol (nI (2 ^ n - 1)) = 0 ∧ tol &&& nI L = 0 := by
    have hall := isWithin_all hn tol
    rw [all_nI hn] at hall
    rw [hall, within_0, Decidable.not_not, within_iff]
    constructor
    · intro e
      have hs : isSet n tol := by
        rw [← within_all hn]
        have e2 : nI ((2 ^ n - 1) ^^^ L) &&& nI (2 ^ n - 1) = nI ((2 ^ n - 1) ^^^ L) := by
          rw [and_nI, Nat.and_two_pow_sub_one_eq_mod, Nat.mod_eq_of_lt ho]
        rw [← e, Int32.and_assoc, e2]
      refine ⟨hs, ?_⟩
      obtain ⟨t, rfl, ht⟩ := hs
      have h3 : t &&& ((2 ^ n - 1) ^^^ L) ≤ t := Nat.and_le_left
      rw [and_nI] at e ⊢
      have e3 := (nI_eq (by omega) (by omega)).mp e
      rw [(oth_iff ht).mp e3]
      rfl
    · rintro ⟨⟨t, rfl, ht⟩, e⟩
      have h3 : t &&& L ≤ t := Nat.and_le_left
      rw [and_nI] at e ⊢
      have e3 : t &&& L = 0 := (nI_eq (b := 0) (by omega) (by omega)).mp e
      rw [(oth_iff ht).mpr e3]
  by_cases c2 : s_X6_isChoice what = 0
  · rw [if_pos c2]
    split
    · rfl
    · split
      · rfl
      · rfl
  rw [if_neg c2]
  by_cases c3 : s_X6_isWithin tol (nI ((2 ^ n - 1) ^^^ L)) = 0
  · rw [if_pos c3]
    by_cases c4 : s_X6_isWithin tol (nI (2 ^ n - 1)) = 0
    · rw [if_pos c4]
    · rw [if_neg c4, if_neg (fun z => hw.mpr ⟨c4, z⟩ c3)]
  · have c4 := hw.mp c3
    rw [if_neg c3, if_neg c4.1, if_pos c4.2]
    have hall := isWithin_all hn tol
    rw [all_nI hn] at hall
    obtain ⟨t, rfl, ht⟩ := hall.mp c4.1
    have r := fg60 h.ag hn la w ht hL hl (2 ^ n) 0 0 (nI L) (by omega)
    have e : L + 1 - 0 = L + 1 := by omega
    rw [e] at r
    rw [r, if_neg c2]
end EQP
