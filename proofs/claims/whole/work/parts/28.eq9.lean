section EQS
variable {n pe : Nat} {td ys la ri : Int32} {kd dy nd co od wo kd' dy' nd' co' od' wo' : Nat → Int32}
theorem rk_restore {pek nk : Nat} {tdk ysk lak rik : Int32} {kdk dyk ndk cok odk wok : Nat → Int32} {im ii : Int32} {ig : Nat → Int32} (h : RN pe n td ys la ri kd dy nd co od wo kd' dy' nd' co' od' wo') (hk : RK pek nk tdk ysk lak rik kdk dyk ndk cok odk wok im ii ig) {r6 : Int32 × Nat × Nat × Int32 × Int32 × Int32 × Int32 × (Nat → Int32) × (Nat → Int32) × (Nat → Int32) × (Nat → Int32) × (Nat → Int32) × (Nat → Int32)} {r7 : Int32 × Nat × Nat × Int32 × Int32 × Int32 × Int32 × (Nat → Int32) × (Nat → Int32) × (Nat → Int32) × (Nat → Int32) × (Nat → Int32) × (Nat → Int32)}
    (e6 : s_X6_restore pe n td ys la ri kd dy nd co od wo pek nk tdk ysk lak rik kdk dyk ndk cok odk wok im = r6) (e7 : s_X7_restore pe n la ri td ys ii kd' dy' nd' co' od' wo' ig = r7) :
    r6.1 = r7.1 ∧ r7.2.1 = r6.2.1 ∧ r7.2.2.1 = r6.2.2.1 ∧ r7.2.2.2.1 = r6.2.2.2.2.2.1 ∧ r7.2.2.2.2.1 = r6.2.2.2.2.2.2.1 ∧ r7.2.2.2.2.2.1 = r6.2.2.2.1 ∧ r7.2.2.2.2.2.2.1 = r6.2.2.2.2.1 ∧
    RN r6.2.1 r6.2.2.1 r6.2.2.2.1 r6.2.2.2.2.1 r6.2.2.2.2.2.1 r6.2.2.2.2.2.2.1 r6.2.2.2.2.2.2.2.1 r6.2.2.2.2.2.2.2.2.1 r6.2.2.2.2.2.2.2.2.2.1 r6.2.2.2.2.2.2.2.2.2.2.1 r6.2.2.2.2.2.2.2.2.2.2.2.1 r6.2.2.2.2.2.2.2.2.2.2.2.2 r7.2.2.2.2.2.2.2.1 r7.2.2.2.2.2.2.2.2.1 r7.2.2.2.2.2.2.2.2.2.1 r7.2.2.2.2.2.2.2.2.2.2.1 r7.2.2.2.2.2.2.2.2.2.2.2.1 r7.2.2.2.2.2.2.2.2.2.2.2.2 := by
  obtain ⟨h1, -, -, h2⟩ := hk
  subst h1
  unfold s_X6_restore at e6
  unfold s_X7_restore at e7
  rcases h2 with h2 | ⟨h2, g0, g1, g2, g3, g4, g5, hr⟩
  · rw [if_pos h2] at e6 e7
    subst e6 e7
    exact ⟨rfl, rfl, rfl, rfl, rfl, rfl, rfl, h⟩
  · rw [if_neg (by rw [h2]; decide)] at e6 e7
    have hn := hr.hn
    have hp := hr.hp
    subst e6 e7
    refine ⟨rfl, ?_, ?_, g2, g3, g4, g5, hr.hp, hn, hr.sla, hr.sri, hr.sys, hr.std, ?_⟩
    · show (ig 0).toNatClampNeg = pek
      rw [g0, nI_clamp (by omega)]
    · show (ig 1).toNatClampNeg = nk
      rw [g1, nI_clamp (by omega)]
    · refine (hr.ag.cpy hn kd dy nd co od wo).congr ?_ ?_ ?_ ?_ ?_ ?_ <;> intro i hi
      · show _ = (s_X7_gives12_L2 ig 6 12 0 kd') i
        rw [gv12, if_pos (by omega)]
      · show _ = (s_X7_gives12_L2 ig 18 12 0 dy') i
        rw [gv12, if_pos (by omega)]
      · show _ = (s_X7_gives12_L2 ig 30 12 0 nd') i
        rw [gv12, if_pos (by omega)]
      · show _ = (s_X7_gives12_L2 ig 42 12 0 co') i
        rw [gv12, if_pos (by omega)]
      · show _ = (s_X7_gives12_L2 ig 54 12 0 od') i
        rw [gv12, if_pos (by omega)]
      · show _ = (s_X7_gives48_L2 ig 66 48 0 wo') i
        rw [gv48, if_pos (by omega)]
/-- the sheets as both programs hold them -/
def RS (ln sz : Nat → Int32) (it : Nat → Int64) (ln' sz' : Nat → Int32) (it' : Nat → Int64) : Prop :=
  ∀ s, s < 4 → ln s = ln' s ∧ (ln s = -1 ∨ ∃ k : Nat, k < 4 ∧ ln s = nI k) ∧ (∃ z : Nat, z ≤ 16 ∧ sz s = nI z) ∧ (∃ z : Nat, z ≤ 16 ∧ sz' s = nI z) ∧ (¬ ln s = -1 → sz s = sz' s ∧ ∀ i, i < 16 → it (16 * s + i) = it' (16 * s + i))
variable {ln sz ln' sz' : Nat → Int32} {it it' : Nat → Int64}
theorem RS.hz (h : RS ln sz it ln' sz' it') : ∀ j, j < 4 → ∃ z : Nat, z ≤ 16 ∧ sz j = nI z := fun j hj => (h j hj).2.2.1
theorem RS.hz' (h : RS ln sz it ln' sz' it') : ∀ j, j < 4 → ∃ z : Nat, z ≤ 16 ∧ sz' j = nI z := fun j hj => (h j hj).2.2.2.1
theorem lane_neg (h : RS ln sz it ln' sz' it') {s : Nat} (hs : s < 4) : ln' s < 0 ↔ ln s = -1 := by
  have q := h s hs
  rw [← q.1]
  rcases q.2.1 with z | ⟨k, hk, z⟩
  · rw [z]; decide
  · rw [z]
    exact ⟨fun w => absurd w (nI_pos (by omega)), fun w => absurd (w ▸ nI_pos (n := k) (by omega)) (by decide)⟩
theorem lane_holds (ln : Nat → Int32) (s : Nat) : s_X2_holds ln s = 0 ↔ ln s = -1 := by
  unfold s_X2_holds
  by_cases c : ln s = -1
  · rw [if_pos c]; exact ⟨fun _ => c, fun _ => rfl⟩
  · rw [if_neg c]; exact ⟨fun z => absurd z (by decide), fun z => absurd z c⟩
theorem reach_eq {sz : Nat → Int32} {s z mn : Nat} {i : Int32} (hz : z ≤ 16) (hs : sz s = nI z) (hm : mn < 2 ^ 31) : s_X2_reaches sz s i (nI mn) = 0 ↔ (i < 0 ∨ 0 < lg_cmp (i.toInt64 + (nI mn).toInt64) (nI z).toInt64) := by
  unfold s_X2_reaches
  by_cases c1 : i < 0
  · rw [if_pos c1]; exact ⟨fun _ => Or.inl c1, fun _ => rfl⟩
  · rw [if_neg c1, if_neg (nI_pos hm), hs, lcmp_gt]
    obtain ⟨a, ha, rfl⟩ := nI_of c1
    rw [nI_l ha, nI_l hm, nI_l (by omega), lN_add, pk_lLT (by omega) (by omega)]
    by_cases c2 : nI z < nI a
    · have c3 := (nI_ltI (by omega) ha).mp c2
      rw [if_pos c2]
      exact ⟨fun _ => Or.inr (by omega), fun _ => rfl⟩
    · have c3 : ¬ z < a := fun q => c2 ((nI_ltI (by omega) ha).mpr q)
      rw [if_neg c2, pk_sub (by omega)]
      by_cases c4 : nI (z - a) < nI mn
      · have c5 := (nI_ltI (by omega) hm).mp c4
        rw [if_pos c4]
        exact ⟨fun _ => Or.inr (by omega), fun _ => rfl⟩
      · have c5 : ¬ z - a < mn := fun q => c4 ((nI_ltI (by omega) hm).mpr q)
        rw [if_neg c4]
        exact ⟨fun q => absurd q (by decide), fun q => absurd (q.resolve_left c1) (by omega)⟩
theorem why_reach (h : RS ln sz it ln' sz' it') {s mn : Nat} (hs : s < 4) (hm : mn < 2 ^ 31) (hl : ¬ ln s = -1) (lane i : Int32) : s_X7_why ln' sz' s lane i (nI mn) = if ln s = lane then (if s_X2_reaches sz s i (nI mn) = 0 then -13 else 0) else -12 := by
  have q := h s hs
  obtain ⟨z, hz1, hz2⟩ := q.2.2.1
  have e := (q.2.2.2.2 hl).1
  unfold s_X7_why
  rw [if_neg (fun w => hl ((lane_neg h hs).mp w)), ← q.1, ← e, hz2]
  have r := reach_eq (i := i) hz1 hz2 hm
  by_cases c : ln s = lane
  · rw [if_pos c, if_pos c]
    by_cases c2 : s_X2_reaches sz s i (nI mn) = 0
    · rw [if_pos c2]
      rcases r.mp c2 with w | w
      · rw [if_pos w]
      · split <;> first | rfl | (rw [if_pos w])
    · rw [if_neg c2, if_neg (fun w => c2 (r.mpr (Or.inl w))), if_neg (fun w => c2 (r.mpr (Or.inr w)))]
  · rw [if_neg c, if_neg c]
theorem fault_eq (h : RS ln sz it ln' sz' it') {mn : Nat} (hm : mn < 2 ^ 31) (sheet lane i : Int32) : s_X2_faultOf ln sz sheet lane i (nI mn) = if s_X7_isSheet sheet = 0 then -1 else if s_X7_isLane lane = 0 then -1 else s_X7_why ln' sz' sheet.toNatClampNeg lane i (nI mn) := by
  unfold s_X2_faultOf
  rw [eq_isSheet, eq_isLane]
  by_cases c1 : s_X6_isSheet sheet = 0
  · rw [if_pos c1, if_pos c1]
  rw [if_neg c1, if_neg c1]
  by_cases c2 : s_X6_isLane lane = 0
  · rw [if_pos c2, if_pos c2]
  rw [if_neg c2, if_neg c2]
  have hs := (isSheet_nat c1).2
  by_cases c3 : ln sheet.toNatClampNeg = -1
  · rw [if_pos ((lane_holds _ _).mpr c3)]
    unfold s_X7_why
    rw [if_pos ((lane_neg h hs).mpr c3)]
  · rw [if_neg (fun z => c3 ((lane_holds _ _).mp z)), why_reach h hs hm c3]
theorem why_neg (ln sz : Nat → Int32) (s : Nat) (lane i m : Int32) : s_X7_why ln sz s lane i m = 0 ∨ s_X7_why ln sz s lane i m < 0 := by
  unfold s_X7_why
  (repeat' split) <;> first | exact Or.inl rfl | exact Or.inr (by decide)
/-- a call on a sheet: what is refused by both, and what isn't -/
theorem on_sheet (h : RS ln sz it ln' sz' it') {mn : Nat} (hm : mn < 2 ^ 31) (sheet lane i : Int32) :
    (s_X7_isSheet sheet = 0 ∧ s_X2_faultOf ln sz sheet lane i (nI mn) = -1) ∨ (¬ s_X7_isSheet sheet = 0 ∧ s_X7_isLane lane = 0 ∧ s_X2_faultOf ln sz sheet lane i (nI mn) = -1) ∨
    (¬ s_X7_isSheet sheet = 0 ∧ ¬ s_X7_isLane lane = 0 ∧ s_X7_why ln' sz' sheet.toNatClampNeg lane i (nI mn) < 0 ∧ s_X2_faultOf ln sz sheet lane i (nI mn) = s_X7_why ln' sz' sheet.toNatClampNeg lane i (nI mn) ∧ ¬ s_X2_faultOf ln sz sheet lane i (nI mn) = 0) ∨
    (¬ s_X7_isSheet sheet = 0 ∧ ¬ s_X7_isLane lane = 0 ∧ ¬ s_X7_why ln' sz' sheet.toNatClampNeg lane i (nI mn) < 0 ∧ s_X2_faultOf ln sz sheet lane i (nI mn) = 0 ∧ sheet.toNatClampNeg < 4 ∧ ¬ ln sheet.toNatClampNeg = -1) := by
  have e := fault_eq h hm sheet lane i
  by_cases c1 : s_X7_isSheet sheet = 0
  · rw [if_pos c1] at e; exact Or.inl ⟨c1, e⟩
  rw [if_neg c1] at e
  by_cases c2 : s_X7_isLane lane = 0
  · rw [if_pos c2] at e; exact Or.inr (Or.inl ⟨c1, c2, e⟩)
  rw [if_neg c2] at e
  have hs : sheet.toNatClampNeg < 4 := (isSheet_nat (by rw [← eq_isSheet]; exact c1)).2
  rcases why_neg ln' sz' sheet.toNatClampNeg lane i (nI mn) with w | w
  · refine Or.inr (Or.inr (Or.inr ⟨c1, c2, by rw [w]; decide, e.trans w, hs, fun z => ?_⟩))
    unfold s_X7_why at w
    rw [if_pos ((lane_neg h hs).mpr z)] at w
    exact absurd w (by decide)
  · exact Or.inr (Or.inr (Or.inl ⟨c1, c2, w, e, fun z => absurd (e ▸ z) (fun q => by rw [q] at w; exact absurd w (by decide))⟩))
theorem oneOf_eq {S T : Int32} (hn : n ≤ 12) (hS : isSet n S) (hT : isSet n T) (v : Int64) : s_X6_isOneOf v (S &&& T) = 0 ↔ (s_X7_isDeed n v = 0 ∨ (T &&& S) &&& ((1 : Int32) <<< (v.toInt32 &&& 31)) = 0) := by
  have h12 := pw_le hn
  obtain ⟨s, rfl, hs⟩ := hS
  obtain ⟨t, rfl, ht⟩ := hT
  have hle : s &&& t ≤ s := Nat.and_le_left
  have hin := mIn_iff v 0 ((nI n - (1 : Int32)).toInt64)
  have e1 : (nI n - (1 : Int32)).toInt64.toInt = (n : Int) - 1 := by rw [Int32.toInt_toInt64, nm1_toInt (by omega)]
  unfold s_X6_isOneOf s_X7_isDeed
  simp only [lcmp_lt]
  by_cases c1 : v < 0
  · rw [if_pos c1]
    refine ⟨fun _ => Or.inl (Decidable.byContradiction fun z => ?_), fun _ => rfl⟩
    exact absurd c1 (Int64.not_lt.mpr (hin.mp z).1)
  · rw [if_neg c1]
    obtain ⟨k, hk, rfl⟩ := pk_lOf c1
    have e12 : (12 : Int64) = lN 12 := rfl
    have hlt : k < n ↔ ¬ s_X7_in (lN k) 0 ((nI n - (1 : Int32)).toInt64) = 0 := by
      rw [hin, Int64.le_iff_toInt_le, Int64.le_iff_toInt_le, e1, pk_lT hk]
      have e0 : (0 : Int64).toInt = 0 := by decide
      omega
    rw [lN_i, and_nI, and_nI, Nat.and_comm t s]
    by_cases c2 : lN k < 12
    · have c3 : k < 12 := (pk_lLT (b := 12) hk (by omega)).mp c2
      rw [if_pos c2, and_bit (by omega) (by omega)]
      have e3 : (if s_X6_isIn (nI (s &&& t)) (nI k) = 0 then (0 : Int32) else 1) = 0 ↔ (s &&& t).testBit k = false := by
        rw [isIn_same, isIn_0, bit_0 (by omega) (by omega)]
      rw [e3]
      constructor
      · exact fun z => Or.inr z
      · rintro (z | z)
        · have c4 : ¬ k < n := fun w => hlt.mp w z
          have h2 : 2 ^ n ≤ 2 ^ k := Nat.pow_le_pow_right (by decide) (by omega)
          exact Nat.testBit_lt_two_pow (by omega)
        · exact z
    · have c3 : ¬ k < 12 := fun z => c2 ((pk_lLT (b := 12) hk (by omega)).mpr z)
      rw [if_neg c2]
      exact ⟨fun _ => Or.inl (Decidable.byContradiction fun z => c3 (by have := hlt.mpr z; omega)), fun _ => rfl⟩
theorem jd35 (A : Ag n kd dy nd co od wo kd' dy' nd' co' od' wo') (hn : n ≤ 12) (h : RS ln sz it ln' sz' it') {sheet i : Int32} (hs : sheet.toNatClampNeg < 4) (hl : ¬ ln sheet.toNatClampNeg = -1) (hi : i.toNatClampNeg + 12 ≤ 16) : ∀ (k d : Nat), d + k = 12 →
    s_X6_judged_L35 n la kd dy nd it sheet i (-4) k d = s_X7_judged_L49 n la kd' dy' nd' it' sheet i (-4) k d := by
  intro k
  induction k with
  | zero => intro d _; rfl
  | succ k ih =>
    intro d hd
    unfold s_X6_judged_L35 s_X7_judged_L49 s_X2_at
    have e : it' ((16 * sheet.toNatClampNeg + i.toNatClampNeg) + d) = it (sheet.toNatClampNeg * 16 + (i.toNatClampNeg + d)) := by
      rw [Nat.mul_comm _ 16, Nat.add_assoc]
      exact (((h _ hs).2.2.2.2 hl).2 _ (by omega)).symm
    rw [e, eq_standing A, eq_ofDay A]
    have o := oneOf_eq hn (isSet_standing hn la kd nd 0) (isSet_ofDay hn dy (11 - nI d)) (it (sheet.toNatClampNeg * 16 + (i.toNatClampNeg + d)))
    have r := ih (d + 1) (by omega)
    rw [r]
    by_cases c1 : lg_cmp (it (sheet.toNatClampNeg * 16 + (i.toNatClampNeg + d))) (-1) = 0
    · rw [if_pos c1, if_pos c1]
    · rw [if_neg c1, if_neg c1]
      by_cases c2 : s_X7_isDeed n (it (sheet.toNatClampNeg * 16 + (i.toNatClampNeg + d))) = 0
      · rw [if_pos c2, if_pos (o.mpr (Or.inl c2))]
      · rw [if_neg c2]
        split
        · rename_i c3
          rw [if_pos ((o.mp c3).resolve_left c2)]
        · rename_i c3
          rw [if_neg (fun z => c3 (o.mpr (Or.inr z)))]
theorem rs_judged (h : RN pe n td ys la ri kd dy nd co od wo kd' dy' nd' co' od' wo') (hs : RS ln sz it ln' sz' it') (sheet lane i : Int32) : s_X6_judged n la kd dy nd ln sz it sheet lane i = s_X7_judged n la kd' dy' nd' ln' sz' it' sheet lane i := by
  unfold s_X6_judged s_X7_judged
  have e12 : (12 : Int32) = nI 12 := rfl
  rw [e12]
  rcases on_sheet hs (mn := 12) (by omega) sheet lane i with ⟨a, b⟩ | ⟨a, a2, b⟩ | ⟨a, a2, a3, b, b2⟩ | ⟨a, a2, a3, b, h4, hl⟩
  · rw [if_pos a, b, if_neg (by decide)]
  · rw [if_neg a, if_pos a2, b, if_neg (by decide)]
  · rw [if_neg a, if_neg a2, if_pos a3, if_neg b2, b]
  · rw [if_neg a, if_neg a2, if_neg a3, if_pos b]
    have hi := fault_i (mn := 12) rfl (by omega) hs.hz b
    exact jd35 h.ag h.hn hs h4 hl hi.2 12 0 (by omega)
theorem RS.put (h : RS ln sz it ln' sz' it') {s i p q : Nat} (hs : s < 4) (hi : i < 16) (x : Int64) (hp : p = 16 * s + i) (hq : q = 16 * s + i) : RS ln sz (vp_updL it p x) ln' sz' (vp_updL it' q x) := by
  subst hp hq
  intro r hr
  obtain ⟨h1, h2, h3, h4, h5⟩ := h r hr
  refine ⟨h1, h2, h3, h4, fun z => ⟨(h5 z).1, fun j hj => ?_⟩⟩
  by_cases c : 16 * r + j = 16 * s + i
  · rw [c, pk_uLs, pk_uLs]
  · rw [pk_uLn c, pk_uLn c]; exact (h5 z).2 j hj
theorem puts_eq (ln : Nat → Int32) (it : Nat → Int64) (s i : Nat) (v : Int64) : s_X7_puts ln it s i v = vp_updL it (16 * s + i) (s_X2_lowest (ln s) v) := by
  unfold s_X7_puts s_X2_lowest
  (repeat' split) <;> rfl
theorem rs_item (h : RS ln sz it ln' sz' it') (sheet lane i : Int32) (v : Int64) : (s_X6_item ln sz it sheet lane i v).1 = (s_X7_item ln' sz' it' sheet lane i v).1 ∧ RS ln sz (s_X6_item ln sz it sheet lane i v).2 ln' sz' (s_X7_item ln' sz' it' sheet lane i v).2 := by
  unfold s_X6_item s_X7_item
  have e1 : (1 : Int32) = nI 1 := rfl
  rw [e1]
  rcases on_sheet h (mn := 1) (by omega) sheet lane i with ⟨a, b⟩ | ⟨a, a2, b⟩ | ⟨a, a2, a3, b, b2⟩ | ⟨a, a2, a3, b, h4, hl⟩
  · rw [if_pos a, b, if_neg (by decide)]; exact ⟨rfl, h⟩
  · rw [if_neg a, if_pos a2, b, if_neg (by decide)]; exact ⟨rfl, h⟩
  · rw [if_neg a, if_neg a2, if_pos a3, if_neg b2, b]; exact ⟨rfl, h⟩
  · rw [if_neg a, if_neg a2, if_neg a3, if_pos b, puts_eq, (h _ h4).1]
    have hi := fault_i (mn := 1) rfl (by omega) h.hz b
    exact ⟨rfl, h.put h4 (i := i.toNatClampNeg) (by omega) _ (by omega) rfl⟩
theorem fl30 (A : Ag n kd dy nd co od wo kd' dy' nd' co' od' wo') (hp : 1 ≤ pe ∧ pe ≤ 4) (vs : Nat → Int32) {sheet i : Int32} (hs : sheet.toNatClampNeg < 4) (hi : i.toNatClampNeg + pe ≤ 16) : ∀ (k d : Nat) (it it' : Nat → Int64), d + k = pe → RS ln sz it ln' sz' it' →
    RS ln sz (s_X6_film_L30 pe n la ri kd nd co wo ln sheet i k d it) ln' sz' (s_X7_film_L52 pe n la ri kd' nd' co' wo' vs ln' sheet i k d it') := by
  intro k
  induction k with
  | zero => intro d it it' _ h; exact h
  | succ k ih =>
    intro d it it' hd h
    unfold s_X6_film_L30 s_X7_film_L52
    rw [puts_eq, eq_cnt2 A hp vs ri la (p := d) (by omega), (h _ hs).1]
    exact ih (d + 1) _ _ (by omega) (h.put hs (i := i.toNatClampNeg + d) (by omega) _ (by omega) rfl)
theorem rs_film (h : RN pe n td ys la ri kd dy nd co od wo kd' dy' nd' co' od' wo') (hs : RS ln sz it ln' sz' it') (sm : Int32) (vs : Nat → Int32) (sheet lane i : Int32) :
    (s_X6_film pe n la ri kd nd co wo ln sz it sheet lane i).1 = (s_X7_film pe n la ri sm kd' nd' co' wo' vs ln' sz' it' sheet lane i).1 ∧ RS ln sz (s_X6_film pe n la ri kd nd co wo ln sz it sheet lane i).2 ln' sz' (s_X7_film pe n la ri sm kd' nd' co' wo' vs ln' sz' it' sheet lane i).2.2.2 := by
  have hp := h.hp
  unfold s_X6_film s_X7_film
  rcases on_sheet hs (mn := pe) (by omega) sheet lane i with ⟨a, b⟩ | ⟨a, a2, b⟩ | ⟨a, a2, a3, b, b2⟩ | ⟨a, a2, a3, b, h4, hl⟩
  · rw [if_pos a, b, if_neg (by decide)]; exact ⟨rfl, hs⟩
  · rw [if_neg a, if_pos a2, b, if_neg (by decide)]; exact ⟨rfl, hs⟩
  · rw [if_neg a, if_neg a2, if_pos a3, if_neg b2, b]; exact ⟨rfl, hs⟩
  · rw [if_neg a, if_neg a2, if_neg a3, if_pos b]
    have hi := fault_i (mn := pe) rfl (by omega) hs.hz b
    exact ⟨rfl, fl30 h.ag hp vs h4 hi.2 pe 0 it it' (by omega) hs⟩
theorem bg17 (s : Nat) : ∀ (k d : Nat) (f : Nat → Int64) (i : Nat), (s_X2_begin_L17 s k d f) i = if s * 16 + d ≤ i ∧ i < s * 16 + d + k then 0 else f i := by
  intro k
  induction k with
  | zero => intro d f i; rw [if_neg (by omega)]; rfl
  | succ k ih =>
    intro d f i
    unfold s_X2_begin_L17
    rw [ih]
    by_cases c : i = s * 16 + d
    · subst c; rw [if_neg (by omega), if_pos (by omega), pk_uLs]
    · rw [pk_uLn c]
      by_cases c2 : s * 16 + (d + 1) ≤ i ∧ i < s * 16 + (d + 1) + k
      · rw [if_pos c2, if_pos (by omega)]
      · rw [if_neg c2, if_neg (by omega)]
theorem sh46 (sheet : Int32) : ∀ (k d : Nat) (f : Nat → Int64) (i : Nat), (s_X7_sheet_L46 sheet k d f) i = if 16 * sheet.toNatClampNeg + d ≤ i ∧ i < 16 * sheet.toNatClampNeg + d + k then 0 else f i := by
  intro k
  induction k with
  | zero => intro d f i; rw [if_neg (by omega)]; rfl
  | succ k ih =>
    intro d f i
    unfold s_X7_sheet_L46
    rw [ih]
    by_cases c : i = 16 * sheet.toNatClampNeg + d
    · subst c; rw [if_neg (by omega), if_pos (by omega), pk_uLs]
    · rw [pk_uLn c]
      by_cases c2 : 16 * sheet.toNatClampNeg + (d + 1) ≤ i ∧ i < 16 * sheet.toNatClampNeg + (d + 1) + k
      · rw [if_pos c2, if_pos (by omega)]
      · rw [if_neg c2, if_neg (by omega)]
theorem rs_sheet (h : RS ln sz it ln' sz' it') (sheet lane m : Int32) : (s_X6_sheet ln sz it sheet lane m).1 = (s_X7_sheet ln' sz' it' sheet lane m).1 ∧ RS (s_X6_sheet ln sz it sheet lane m).2.1 (s_X6_sheet ln sz it sheet lane m).2.2.1 (s_X6_sheet ln sz it sheet lane m).2.2.2 (s_X7_sheet ln' sz' it' sheet lane m).2.1 (s_X7_sheet ln' sz' it' sheet lane m).2.2.1 (s_X7_sheet ln' sz' it' sheet lane m).2.2.2 := by
  unfold s_X6_sheet s_X7_sheet s_X2_begin
  rw [eq_isSheet, eq_isLane]
  by_cases c1 : s_X6_isSheet sheet = 0
  · rw [if_pos c1, if_pos c1]; exact ⟨rfl, h⟩
  rw [if_neg c1, if_neg c1]
  by_cases c2 : s_X6_isLane lane = 0
  · rw [if_pos c2, if_pos c2]; exact ⟨rfl, h⟩
  rw [if_neg c2, if_neg c2]
  by_cases c3 : 16 < m
  · rw [if_pos c3, if_pos c3]; exact ⟨rfl, h⟩
  rw [if_neg c3, if_neg c3]
  by_cases c4 : m < 0
  · rw [if_pos c4, if_pos c4]; exact ⟨rfl, h⟩
  rw [if_neg c4, if_neg c4]
  refine ⟨rfl, ?_⟩
  intro r hr
  have hm := in04 (N := 16) (by omega) c4 c3
  obtain ⟨h1, h2, h3, h4, h5⟩ := h r hr
  dsimp only
  by_cases c : r = sheet.toNatClampNeg
  · rw [c]
    simp only [upd_at]
    refine ⟨trivial, Or.inr ⟨_, (isLane_nat c2).2, (isLane_nat c2).1⟩, hm, hm, fun _ => ⟨by first | rfl | trivial, fun j hj => ?_⟩⟩
    rw [bg17, sh46, if_pos (by omega), if_pos (by omega)]
  · rw [upd_ne _ _ c, upd_ne _ _ c, upd_ne _ _ c, upd_ne _ _ c]
    refine ⟨h1, h2, h3, h4, fun z => ⟨(h5 z).1, fun j hj => ?_⟩⟩
    rw [bg17, sh46, if_neg (by omega), if_neg (by omega)]
    exact (h5 z).2 j hj
theorem rs_drop (h : RS ln sz it ln' sz' it') (sheet : Int32) : (s_X6_drop ln sz it sheet).1 = (s_X7_drop ln' sz' sheet).1 ∧ RS (s_X6_drop ln sz it sheet).2.1 (s_X6_drop ln sz it sheet).2.2.1 (s_X6_drop ln sz it sheet).2.2.2 (s_X7_drop ln' sz' sheet).2 sz' it' := by
  unfold s_X6_drop s_X7_drop s_X2_begin
  rw [eq_isSheet]
  by_cases c1 : s_X6_isSheet sheet = 0
  · rw [if_pos c1, if_pos c1]; exact ⟨rfl, h⟩
  rw [if_neg c1, if_neg c1]
  have hs := (isSheet_nat c1).2
  by_cases c3 : ln sheet.toNatClampNeg = -1
  · rw [if_pos ((lane_holds _ _).mpr c3), if_pos ((lane_neg h hs).mpr c3)]; exact ⟨rfl, h⟩
  rw [if_neg (fun z => c3 ((lane_holds _ _).mp z)), if_neg (fun z => c3 ((lane_neg h hs).mp z))]
  refine ⟨((h _ hs).2.2.2.2 c3).1, ?_⟩
  intro r hr
  obtain ⟨h1, h2, h3, h4, h5⟩ := h r hr
  dsimp only
  by_cases c : r = sheet.toNatClampNeg
  · rw [c]
    simp only [upd_at]
    refine ⟨by first | rfl | trivial, Or.inl (by first | rfl | trivial), ⟨0, by omega, rfl⟩, by rw [← c]; exact h4, fun z => absurd (by first | rfl | trivial) z⟩
  · rw [upd_ne _ _ c, upd_ne _ _ c, upd_ne _ _ c]
    refine ⟨h1, h2, h3, h4, fun z => ⟨(h5 z).1, fun j hj => ?_⟩⟩
    rw [bg17, if_neg (by omega)]
    exact (h5 z).2 j hj
end EQS
