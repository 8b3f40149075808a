theorem size_k : ∀ i, i < 64 → ∀ j, j < 64 → s_J6_bitCount_0f7a4 (nI (64 * i + j)) = s_X7_size (64 * i + j) := by decide +kernel
theorem eq_size {j : Nat} (h : j < 4096) : s_X7_size j = s_J6_bitCount_0f7a4 (nI j) := by
  have h1 := size_k (j / 64) (by omega) (j % 64) (by omega)
  have e : 64 * (j / 64) + j % 64 = j := by omega
  rw [e] at h1
  exact h1.symm
theorem isSet_lt {n : Nat} (hn : n ≤ 12) {x : Int32} (h : isSet n x) : x = nI x.toNatClampNeg ∧ x.toNatClampNeg < 4096 ∧ x.toNatClampNeg < 2 ^ n := by
  obtain ⟨j, rfl, hj⟩ := h
  have h2 := pw_le hn
  rw [nI_clamp (by omega)]
  exact ⟨rfl, by omega, hj⟩
theorem eq_size_set {n : Nat} (hn : n ≤ 12) {x : Int32} (h : isSet n x) : s_X7_size x.toNatClampNeg = s_J6_bitCount_0f7a4 x := by
  have h1 := isSet_lt hn h
  rw [eq_size h1.2.1, ← h1.1]
theorem isSet_up {n m : Nat} (h : n ≤ m) {x : Int32} (hx : isSet n x) : isSet m x := by
  obtain ⟨j, e, hj⟩ := hx
  exact ⟨j, e, Nat.lt_of_lt_of_le hj (Nat.pow_le_pow_right (by decide) h)⟩
section RNS2
variable {n pe : Nat} {td ys la ri : Int32} {kd dy nd co od wo kd' dy' nd' co' od' wo' : Nat → Int32}
theorem add64 (m : Nat) : ∀ (k d : Nat) (f : Nat → Int32) (i : Nat), (s_X5_add_L64 m k d f) i = if m * 4 + d ≤ i ∧ i < m * 4 + d + k then 0 else f i := by
  intro k
  induction k with
  | zero => intro d f i; rw [if_neg (by omega)]; rfl
  | succ k ih =>
    intro d f i
    unfold s_X5_add_L64
    rw [ih]
    by_cases c : i = m * 4 + d
    · subst c; rw [if_neg (by omega), if_pos (by omega), upd_at]
    · rw [upd_ne _ _ c]
      by_cases c2 : m * 4 + (d + 1) ≤ i ∧ i < m * 4 + (d + 1) + k
      · rw [if_pos c2, if_pos (by omega)]
      · rw [if_neg c2, if_neg (by omega)]
theorem adds53 (m : Nat) : ∀ (k d : Nat) (f : Nat → Int32) (i : Nat), (s_X7_adds_L53 m k d f) i = if 4 * m + d ≤ i ∧ i < 4 * m + d + k then 0 else f i := by
  intro k
  induction k with
  | zero => intro d f i; rw [if_neg (by omega)]; rfl
  | succ k ih =>
    intro d f i
    unfold s_X7_adds_L53
    rw [ih]
    by_cases c : i = 4 * m + d
    · subst c; rw [if_neg (by omega), if_pos (by omega), upd_at]
    · rw [upd_ne _ _ c]
      by_cases c2 : 4 * m + (d + 1) ≤ i ∧ i < 4 * m + (d + 1) + k
      · rw [if_pos c2, if_pos (by omega)]
      · rw [if_neg c2, if_neg (by omega)]
theorem upd2 {f g : Nat → Int32} (h : ∀ i, i < n → f i = g i) (v : Int32) : ∀ i, i < n + 1 → upd f n v i = upd g n v i := by
  intro i hi
  by_cases c : i = n
  · subst c; rw [upd_at, upd_at]
  · rw [upd_ne _ _ c, upd_ne _ _ c]; exact h i (by omega)
theorem Ag.add (A : Ag n kd dy nd co od wo kd' dy' nd' co' od' wo') {kind day : Int32} (need : Int32) (hk : kind = 0 ∨ kind = 1 ∨ kind = 2 ∨ kind = 3) (hd : ∃ d : Nat, d < 12 ∧ day = nI d) :
    Ag (n + 1) (upd kd n kind) (upd dy n day) (upd nd n need) (upd co n 1) (upd od n 4) (s_X5_add_L64 n 4 0 wo) (upd kd' n kind) (upd dy' n day) (upd nd' n need) (upd co' n 1) (upd od' n 4) (s_X7_adds_L53 n 4 0 wo') := by
  refine ⟨upd2 A.ekd _, upd2 A.edy _, upd2 A.end' _, upd2 A.eco _, upd2 A.eod _, ?_, ?_, ?_, ?_, ?_⟩
  · intro i hi
    rw [add64, adds53]
    by_cases c : n * 4 + 0 ≤ i ∧ i < n * 4 + 0 + 4
    · rw [if_pos c, if_pos (by omega)]
    · rw [if_neg c, if_neg (by omega)]; exact A.ewo i (by omega)
  · intro i hi
    by_cases c : i = n
    · subst c; rw [upd_at]; exact hk
    · rw [upd_ne _ _ c]; exact A.k4 i (by omega)
  · intro i hi
    by_cases c : i = n
    · subst c; rw [upd_at]; exact hd
    · rw [upd_ne _ _ c]; exact A.d12 i (by omega)
  · intro i hi
    by_cases c : i = n
    · subst c; rw [upd_at]; exact ⟨4, by omega, rfl⟩
    · rw [upd_ne _ _ c]; exact A.o4 i (by omega)
  · intro i hi
    rw [add64]
    by_cases c : n * 4 + 0 ≤ i ∧ i < n * 4 + 0 + 4
    · rw [if_pos c]; decide
    · rw [if_neg c]; exact A.w9 i (by omega)
theorem kind4 {x : Int32} (h1 : ¬ x < 0) (h2 : ¬ 3 < x) : x = 0 ∨ x = 1 ∨ x = 2 ∨ x = 3 := by
  obtain ⟨j, hj, rfl⟩ := nI_of h1
  have e : (3 : Int32) = nI 3 := rfl
  rw [e] at h2
  have h3 : ¬ 3 < j := fun z => h2 ((nI_ltI (by omega) hj).mpr z)
  have h4 : j = 0 ∨ j = 1 ∨ j = 2 ∨ j = 3 := by omega
  rcases h4 with rfl | rfl | rfl | rfl
  · exact Or.inl rfl
  · exact Or.inr (Or.inl rfl)
  · exact Or.inr (Or.inr (Or.inl rfl))
  · exact Or.inr (Or.inr (Or.inr rfl))
theorem day12 {x : Int32} (h : ¬ s_X6_isDay x = 0) : ∃ d : Nat, d < 12 ∧ x = nI d := by
  unfold s_X6_isDay at h
  by_cases c1 : x < 0
  · rw [if_pos c1] at h; exact absurd rfl h
  · rw [if_neg c1] at h
    by_cases c2 : 11 < x
    · rw [if_pos c2] at h; exact absurd rfl h
    · obtain ⟨j, hj, rfl⟩ := nI_of c1
      have e : (11 : Int32) = nI 11 := rfl
      rw [e] at c2
      have h3 : ¬ 11 < j := fun z => c2 ((nI_ltI (by omega) hj).mpr z)
      exact ⟨j, by omega, rfl⟩
theorem within_0 (a b : Int32) : s_X6_isWithin a b = 0 ↔ ¬ (a &&& (b ^^^ (-1 : Int32)) = 0) := by
  unfold s_X6_isWithin
  by_cases c : a &&& (b ^^^ (-1 : Int32)) = 0
  · rw [if_pos c]; exact ⟨fun z => absurd z (by decide), fun z => absurd c z⟩
  · rw [if_neg c]; exact ⟨fun _ => c, fun _ => rfl⟩
theorem rn_deed (h : RN pe n td ys la ri kd dy nd co od wo kd' dy' nd' co' od' wo') (kind day need : Int32) :
    (s_X6_deed n kd dy nd co od wo kind day need).1 = (s_X7_deed n kd' dy' nd' co' od' wo' kind day need).1 ∧
    (s_X7_deed n kd' dy' nd' co' od' wo' kind day need).2.1 = (s_X6_deed n kd dy nd co od wo kind day need).2.1 ∧
    RN pe (s_X6_deed n kd dy nd co od wo kind day need).2.1 td ys la ri (s_X6_deed n kd dy nd co od wo kind day need).2.2.1 (s_X6_deed n kd dy nd co od wo kind day need).2.2.2.1 (s_X6_deed n kd dy nd co od wo kind day need).2.2.2.2.1 (s_X6_deed n kd dy nd co od wo kind day need).2.2.2.2.2.1 (s_X6_deed n kd dy nd co od wo kind day need).2.2.2.2.2.2.1 (s_X6_deed n kd dy nd co od wo kind day need).2.2.2.2.2.2.2
      (s_X7_deed n kd' dy' nd' co' od' wo' kind day need).2.2.1 (s_X7_deed n kd' dy' nd' co' od' wo' kind day need).2.2.2.1 (s_X7_deed n kd' dy' nd' co' od' wo' kind day need).2.2.2.2.1 (s_X7_deed n kd' dy' nd' co' od' wo' kind day need).2.2.2.2.2.1 (s_X7_deed n kd' dy' nd' co' od' wo' kind day need).2.2.2.2.2.2.1 (s_X7_deed n kd' dy' nd' co' od' wo' kind day need).2.2.2.2.2.2.2 := by
  have hn := h.hn
  unfold s_X6_deed s_X7_deed
  rw [in32c kind 0 3 (by decide) (by decide), eq_isDay, eq_needable h.ag n (by omega)]
  by_cases c1 : kind < 0
  · rw [if_pos c1, if_pos c1, if_pos rfl]; exact ⟨rfl, rfl, h⟩
  · rw [if_neg c1, if_neg c1]
    by_cases c2 : 3 < kind
    · rw [if_pos c2, if_pos c2, if_pos rfl]; exact ⟨rfl, rfl, h⟩
    · rw [if_neg c2, if_neg c2, if_neg (show ¬ ((1 : Int32) = 0) from by decide)]
      by_cases c3 : s_X6_isDay day = 0
      · rw [if_pos c3, if_pos c3]; exact ⟨rfl, rfl, h⟩
      · rw [if_neg c3, if_neg c3]
        by_cases c4 : need &&& (s_X5_needable dy n day ^^^ (-1 : Int32)) = 0
        · rw [if_pos c4, if_neg (show ¬ s_X6_isWithin need (s_X5_needable dy n day) = 0 from fun z => (within_0 _ _).mp z c4)]
          by_cases c5 : n = 12
          · have c6 : nI n = (12 : Int32) := by rw [c5]; rfl
            rw [if_pos c6]
            have e : s_X5_add n kd dy nd co od wo kind day need = ((0 : Int32), n, kd, dy, nd, co, od, wo) := by
              unfold s_X5_add
              rw [if_neg (by rw [c6]; decide)]
            rw [e, if_pos rfl]
            exact ⟨rfl, rfl, h⟩
          · have c6 : ¬ nI n = (12 : Int32) := fun z => c5 ((nI_eq (a := n) (b := 12) (by omega) (by omega)).mp z)
            have c7 : nI n < (12 : Int32) := (nI_ltI (a := n) (b := 12) (by omega) (by omega)).mpr (by omega)
            rw [if_neg c6]
            have e : s_X5_add n kd dy nd co od wo kind day need = ((1 : Int32), n + 1, upd kd n kind, upd dy n day, upd nd n need, upd co n 1, upd od n 4, s_X5_add_L64 n 4 0 wo) := by
              unfold s_X5_add
              rw [if_pos c7]
            rw [e]
            dsimp only
            rw [if_neg (show ¬ ((1 : Int32) = 0) from by decide)]
            refine ⟨rfl, rfl, h.hp, ?_, isSet_up (by show n ≤ n + 1; omega) h.sla, isSet_up (by show n ≤ n + 1; omega) h.sri, h.sys, h.std, ?_⟩
            · show n + 1 ≤ 12
              omega
            · exact h.ag.add need (kind4 c1 c2) (day12 c3)
        · rw [if_neg c4, if_pos ((within_0 _ _).mpr c4)]; exact ⟨rfl, rfl, h⟩
theorem updk {f g : Nat → Int32} {N : Nat} (h : ∀ i, i < N → f i = g i) (k : Nat) (v : Int32) : ∀ i, i < N → upd f k v i = upd g k v i := by
  intro i hi
  by_cases c : i = k
  · subst c; rw [upd_at, upd_at]
  · rw [upd_ne _ _ c, upd_ne _ _ c]; exact h i hi
theorem in04 {x : Int32} {N : Nat} (hN : N < 2 ^ 30) (h1 : ¬ x < 0) (h2 : ¬ nI N < x) : ∃ c : Nat, c ≤ N ∧ x = nI c := by
  obtain ⟨j, hj, rfl⟩ := nI_of h1
  have h3 : ¬ N < j := fun z => h2 ((nI_ltI (by omega) hj).mpr z)
  exact ⟨j, by omega, rfl⟩
theorem rn_set (h : RN pe n td ys la ri kd dy nd co od wo kd' dy' nd' co' od' wo') (deed what v : Int32) :
    (s_X6_set n co od deed what v).1 = (s_X7_set n co' od' deed what v).1 ∧
    RN pe n td ys la ri kd dy nd (s_X6_set n co od deed what v).2.1 (s_X6_set n co od deed what v).2.2 wo kd' dy' nd' (s_X7_set n co' od' deed what v).2.1 (s_X7_set n co' od' deed what v).2.2 wo' := by
  have hn := h.hn
  unfold s_X6_set s_X7_set
  rw [eq_has (by omega), eq_isChoice, in32c v 0 9 (by decide) (by decide), in32c v 0 4 (by decide) (by decide)]
  by_cases c1 : s_X5_has n deed = 0
  · rw [if_pos c1]; simp only [c1, if_true]
    split <;> exact ⟨rfl, h⟩
  · simp only [c1, if_false]
    have hd := (has_lt h c1).2
    by_cases c2 : s_X6_isChoice what = 0
    · simp only [c2, if_true]
      split <;> exact ⟨rfl, h⟩
    · simp only [c2, if_false]
      by_cases c3 : what = 0
      · rw [if_pos c3, if_pos c3]
        by_cases c4 : v < 0
        · rw [if_pos c4, if_pos c4, if_pos rfl]; exact ⟨rfl, h⟩
        · rw [if_neg c4, if_neg c4]
          by_cases c5 : 9 < v
          · rw [if_pos c5, if_pos c5, if_pos rfl]; exact ⟨rfl, h⟩
          · rw [if_neg c5, if_neg c5, if_neg (by decide), upd_self]
            refine ⟨h.ag.eco _ hd, h.hp, hn, h.sla, h.sri, h.sys, h.std, ?_⟩
            exact ⟨h.ag.ekd, h.ag.edy, h.ag.end', updk h.ag.eco _ _, h.ag.eod, h.ag.ewo, h.ag.k4, h.ag.d12, h.ag.o4, h.ag.w9⟩
      · rw [if_neg c3, if_neg c3]
        by_cases c4 : v < 0
        · rw [if_pos c4, if_pos c4, if_pos rfl]; exact ⟨rfl, h⟩
        · rw [if_neg c4, if_neg c4]
          by_cases c5 : 4 < v
          · rw [if_pos c5, if_pos c5, if_pos rfl]; exact ⟨rfl, h⟩
          · rw [if_neg c5, if_neg c5, if_neg (by decide), upd_self]
            refine ⟨h.ag.eod _ hd, h.hp, hn, h.sla, h.sri, h.sys, h.std, ?_⟩
            refine ⟨h.ag.ekd, h.ag.edy, h.ag.end', h.ag.eco, updk h.ag.eod _ _, h.ag.ewo, h.ag.k4, h.ag.d12, ?_, h.ag.w9⟩
            intro i hi
            show ∃ c : Nat, c ≤ 4 ∧ upd od deed.toNatClampNeg v i = nI c
            by_cases c6 : i = deed.toNatClampNeg
            · rw [c6, upd_at]; exact in04 (N := 4) (by omega) c4 c5
            · rw [upd_ne _ _ c6]; exact h.ag.o4 i hi
theorem rn_worth (h : RN pe n td ys la ri kd dy nd co od wo kd' dy' nd' co' od' wo') (deed p v : Int32) :
    (s_X6_worth n wo deed p v).1 = (s_X7_worth n wo' deed p v).1 ∧ RN pe n td ys la ri kd dy nd co od (s_X6_worth n wo deed p v).2 kd' dy' nd' co' od' (s_X7_worth n wo' deed p v).2 := by
  have hn := h.hn
  unfold s_X6_worth s_X7_worth s_X5_worthTo
  rw [eq_has (by omega), eq_isEver, in32c v (-9) 9 (by decide) (by decide), Nat.mul_comm deed.toNatClampNeg 4]
  by_cases c1 : s_X5_has n deed = 0
  · rw [if_pos c1, if_pos c1]; exact ⟨rfl, h⟩
  · rw [if_neg c1, if_neg c1]
    have hd := (has_lt h c1).2
    by_cases c2 : s_X6_isEverPerson p = 0
    · rw [if_pos c2, if_pos c2]; exact ⟨rfl, h⟩
    · rw [if_neg c2, if_neg c2]
      have hp := (isEver_nat c2).2
      by_cases c4 : v < -9
      · rw [if_pos c4, if_pos c4, if_pos rfl]; exact ⟨rfl, h⟩
      · rw [if_neg c4, if_neg c4]
        by_cases c5 : 9 < v
        · rw [if_pos c5, if_pos c5, if_pos rfl]; exact ⟨rfl, h⟩
        · rw [if_neg c5, if_neg c5, if_neg (by decide)]
          refine ⟨h.ag.ewo _ (by omega), h.hp, hn, h.sla, h.sri, h.sys, h.std, ?_⟩
          refine ⟨h.ag.ekd, h.ag.edy, h.ag.end', h.ag.eco, h.ag.eod, updk h.ag.ewo _ _, h.ag.k4, h.ag.d12, h.ag.o4, ?_⟩
          intro i hi
          show -9 ≤ (upd wo (4 * deed.toNatClampNeg + p.toNatClampNeg) v i).toInt ∧ (upd wo (4 * deed.toNatClampNeg + p.toNatClampNeg) v i).toInt ≤ 9
          by_cases c6 : i = 4 * deed.toNatClampNeg + p.toNatClampNeg
          · rw [c6, upd_at]
            have e1 : (-9 : Int32).toInt = -9 := by decide
            have e2 : (9 : Int32).toInt = 9 := by decide
            have h1 : ¬ v.toInt < (-9 : Int32).toInt := fun z => c4 (Int32.lt_iff_toInt_lt.mpr z)
            have h2 : ¬ (9 : Int32).toInt < v.toInt := fun z => c5 (Int32.lt_iff_toInt_lt.mpr z)
            omega
          · rw [upd_ne _ _ c6]; exact h.ag.w9 i hi
theorem rn_right (h : RN pe n td ys la ri kd dy nd co od wo kd' dy' nd' co' od' wo') (deed : Int32) :
    (s_X6_right n td la ri kd dy nd deed).1 = (s_X7_right n la ri td kd' dy' nd' deed).1 ∧ (s_X7_right n la ri td kd' dy' nd' deed).2 = (s_X6_right n td la ri kd dy nd deed).2 ∧ RN pe n td ys la (s_X6_right n td la ri kd dy nd deed).2 kd dy nd co od wo kd' dy' nd' co' od' wo' := by
  have hn := h.hn
  unfold s_X6_right s_X7_right
  rw [eq_has (by omega), eq_standing h.ag, eq_standing h.ag, eq_ofDay h.ag, Int32.and_comm ri]
  simp only [isIn_0]
  by_cases c1 : s_X5_has n deed = 0
  · rw [if_pos c1, if_pos c1]; exact ⟨by first | rfl | trivial, by first | rfl | trivial, h⟩
  · rw [if_neg c1, if_neg c1]
    have hd := has_lt h c1
    rw [← h.ag.edy _ hd.2]
    by_cases c2 : dy deed.toNatClampNeg = td
    · simp only [c2, if_true]
      by_cases c3 : (s_X5_standing n la kd nd ri >>> (deed &&& 31)) &&& (1 : Int32) = 0
      · simp only [c3, if_true]
        split <;> exact ⟨by first | rfl | trivial, by first | rfl | trivial, h⟩
      · simp only [c3, if_false]
        split
        · refine ⟨by first | rfl | trivial, by first | rfl | trivial, h.hp, hn, h.sla, ?_, h.sys, h.std, h.ag⟩
          show isSet n (ri ||| ((1 : Int32) <<< (deed &&& 31)))
          rw [hd.1]
          exact isSet_or hn hd.2 h.sri
        · exact ⟨by first | rfl | trivial, by first | rfl | trivial, h⟩
    · simp only [c2, if_false]
      split <;> exact ⟨by first | rfl | trivial, by first | rfl | trivial, h⟩
theorem rn_year (h : RN pe n td ys la ri kd dy nd co od wo kd' dy' nd' co' od' wo') :
    (s_X6_year n td ys la ri kd nd).1 = (s_X7_year n la ri td ys kd' nd').1 ∧
    (s_X7_year n la ri td ys kd' nd').2 = ((s_X6_year n td ys la ri kd nd).2.2.2.1, (s_X6_year n td ys la ri kd nd).2.2.2.2, (s_X6_year n td ys la ri kd nd).2.1, (s_X6_year n td ys la ri kd nd).2.2.1) ∧
    RN pe n (s_X6_year n td ys la ri kd nd).2.1 (s_X6_year n td ys la ri kd nd).2.2.1 (s_X6_year n td ys la ri kd nd).2.2.2.1 (s_X6_year n td ys la ri kd nd).2.2.2.2 kd dy nd co od wo kd' dy' nd' co' od' wo' := by
  have hn := h.hn
  unfold s_X6_year s_X7_year
  rw [eq_standing h.ag, eq_standing h.ag, eq_size_set hn (isSet_standing hn _ _ _ _)]
  obtain ⟨y, hy, e⟩ := h.sys
  by_cases c : y = 9999
  · have c1 : ys = (9999 : Int32) := by rw [e, c]; rfl
    rw [if_pos c1, if_neg (by rw [c1]; decide)]
    exact ⟨rfl, rfl, h⟩
  · have c1 : ¬ ys = (9999 : Int32) := fun z => c ((nI_eq (a := y) (b := 9999) (by omega) (by omega)).mp (e ▸ z))
    have c2 : ys < (9999 : Int32) := by rw [e]; exact (nI_ltI (a := y) (b := 9999) (by omega) (by omega)).mpr (by omega)
    rw [if_neg c1, if_pos c2]
    refine ⟨rfl, rfl, h.hp, hn, isSet_standing hn _ _ _ _, isSet_0 n, ⟨y + 1, by omega, by show ys + 1 = _; rw [e, nI_1]⟩, Or.inr ⟨11, by omega, rfl⟩, h.ag⟩
end RNS2
