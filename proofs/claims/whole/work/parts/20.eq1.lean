/-- what the two programs' years have in common, below the number of deeds -/
def Ag (n : Nat) (kd dy nd co od wo kd' dy' nd' co' od' wo' : Nat → Int32) : Prop :=
  (∀ i, i < n → kd i = kd' i) ∧ (∀ i, i < n → dy i = dy' i) ∧ (∀ i, i < n → nd i = nd' i) ∧ (∀ i, i < n → co i = co' i) ∧ (∀ i, i < n → od i = od' i) ∧ (∀ i, i < 4 * n → wo i = wo' i) ∧ (∀ i, i < n → kd i = 0 ∨ kd i = 1 ∨ kd i = 2 ∨ kd i = 3) ∧ (∀ i, i < n → ∃ d : Nat, d < 12 ∧ dy i = nI d) ∧ (∀ i, i < n → ∃ c : Nat, c ≤ 4 ∧ od i = nI c) ∧ (∀ i, i < 4 * n → -9 ≤ (wo i).toInt ∧ (wo i).toInt ≤ 9)
section AGF
variable {n : Nat} {kd dy nd co od wo kd' dy' nd' co' od' wo' : Nat → Int32}
theorem Ag.ekd (A : Ag n kd dy nd co od wo kd' dy' nd' co' od' wo') : ∀ i, i < n → kd i = kd' i := A.1
theorem Ag.edy (A : Ag n kd dy nd co od wo kd' dy' nd' co' od' wo') : ∀ i, i < n → dy i = dy' i := A.2.1
theorem Ag.end' (A : Ag n kd dy nd co od wo kd' dy' nd' co' od' wo') : ∀ i, i < n → nd i = nd' i := A.2.2.1
theorem Ag.eco (A : Ag n kd dy nd co od wo kd' dy' nd' co' od' wo') : ∀ i, i < n → co i = co' i := A.2.2.2.1
theorem Ag.eod (A : Ag n kd dy nd co od wo kd' dy' nd' co' od' wo') : ∀ i, i < n → od i = od' i := A.2.2.2.2.1
theorem Ag.ewo (A : Ag n kd dy nd co od wo kd' dy' nd' co' od' wo') : ∀ i, i < 4 * n → wo i = wo' i := A.2.2.2.2.2.1
theorem Ag.k4 (A : Ag n kd dy nd co od wo kd' dy' nd' co' od' wo') : ∀ i, i < n → kd i = 0 ∨ kd i = 1 ∨ kd i = 2 ∨ kd i = 3 := A.2.2.2.2.2.2.1
theorem Ag.d12 (A : Ag n kd dy nd co od wo kd' dy' nd' co' od' wo') : ∀ i, i < n → ∃ d : Nat, d < 12 ∧ dy i = nI d := A.2.2.2.2.2.2.2.1
theorem Ag.o4 (A : Ag n kd dy nd co od wo kd' dy' nd' co' od' wo') : ∀ i, i < n → ∃ c : Nat, c ≤ 4 ∧ od i = nI c := A.2.2.2.2.2.2.2.2.1
theorem Ag.w9 (A : Ag n kd dy nd co od wo kd' dy' nd' co' od' wo') : ∀ i, i < 4 * n → -9 ≤ (wo i).toInt ∧ (wo i).toInt ≤ 9 := A.2.2.2.2.2.2.2.2.2
end AGF
theorem bv_within (a b : BitVec 32) : a &&& ~~~b = 0#32 ↔ a &&& b = a := by
  constructor
  · intro h
    apply BitVec.eq_of_getLsbD_eq
    intro i hi
    have h2 : (a &&& ~~~b).getLsbD i = false := by rw [h]; exact BitVec.getLsbD_zero
    rw [BitVec.getLsbD_and, BitVec.getLsbD_not] at h2
    rw [BitVec.getLsbD_and]
    revert h2
    simp only [hi, decide_true, Bool.true_and]
    cases a.getLsbD i <;> cases b.getLsbD i <;> decide
  · intro h
    apply BitVec.eq_of_getLsbD_eq
    intro i hi
    have h2 : (a &&& b).getLsbD i = a.getLsbD i := by rw [h]
    rw [BitVec.getLsbD_and] at h2
    rw [BitVec.getLsbD_and, BitVec.getLsbD_not, BitVec.getLsbD_zero]
    revert h2
    simp only [hi, decide_true, Bool.true_and]
    cases a.getLsbD i <;> cases b.getLsbD i <;> decide
theorem i32_m1 : (-1 : Int32).toBitVec = BitVec.allOnes 32 := by decide
theorem within_iff (a b : Int32) : a &&& (b ^^^ (-1 : Int32)) = 0 ↔ a &&& b = a := by
  have h := bv_within a.toBitVec b.toBitVec
  have e : (a &&& (b ^^^ (-1 : Int32))).toBitVec = a.toBitVec &&& ~~~b.toBitVec := by rw [Int32.toBitVec_and, Int32.toBitVec_xor, i32_m1, BitVec.xor_allOnes]
  constructor
  · intro h1
    apply Int32.toBitVec_inj.mp
    rw [Int32.toBitVec_and]
    exact h.mp (by rw [← e, h1]; rfl)
  · intro h1
    apply Int32.toBitVec_inj.mp
    rw [e]
    exact h.mpr (by rw [← Int32.toBitVec_and, h1])
theorem b01 (y : Int32) : y &&& (1 : Int32) = 0 ∨ y &&& (1 : Int32) = 1 := by
  have h := pk_and y (m := (1 : Int32)) 1 (by decide)
  have h2 : y.toBitVec.toNat % 2 ^ 1 = 0 ∨ y.toBitVec.toNat % 2 ^ 1 = 1 := by omega
  rcases h2 with h2 | h2
  · left; rw [h, h2]; rfl
  · right; rw [h, h2]; rfl
theorem b01' (y : Int32) : (y &&& (1 : Int32) = 1) ↔ ¬ (y &&& (1 : Int32) = 0) := by
  rcases b01 y with h | h
  · rw [h]; decide
  · rw [h]; decide
theorem isIn_0 (s d : Int32) : (s_X6_isIn s d = 0) ↔ ((s >>> (d &&& 31)) &&& (1 : Int32) = 0) := by
  unfold s_X6_isIn
  by_cases c : (s >>> (d &&& 31)) &&& (1 : Int32) = 0
  · rw [if_pos c]; exact ⟨fun _ => c, fun _ => rfl⟩
  · rw [if_neg c]; exact ⟨fun z => absurd z (by decide), fun z => absurd z c⟩
theorem eq_is {n d : Nat} {kd nd kd' nd' : Nat → Int32} {la stand : Int32} (h1 : kd d = kd' d) (h2 : nd d = nd' d) (hk : kd d = 0 ∨ kd d = 1 ∨ kd d = 2 ∨ kd d = 3) : s_X5_wouldStand la kd nd d stand = s_X7_is kd' nd' d stand la := by
  unfold s_X5_wouldStand s_X7_is s_X5_isMet
  rw [← h1, ← h2]
  simp only [within_iff, b01', isIn_0]
  generalize nd d = N
  generalize kd d = K at hk
  by_cases c4 : (la >>> (nI d &&& 31)) &&& (1 : Int32) = 0
  · simp only [c4]
    by_cases c1 : N = 0
    · subst c1
      have e0 : (0 : Int32) &&& stand = 0 := Int32.zero_and
      simp only [e0]
      rcases hk with rfl | rfl | rfl | rfl <;> decide
    · by_cases c2 : N &&& stand = 0
      · have c3 : ¬ (N &&& stand = N) := fun z => c1 (z.symm.trans c2)
        simp only [c1, c2, if_true, if_false]
        have c5 : ¬ (0 : Int32) = N := fun z => c1 z.symm
        simp only [c5, if_false]
        rcases hk with rfl | rfl | rfl | rfl <;> decide
      · by_cases c3 : N &&& stand = N
        · simp only [c1, c3, if_true, if_false]
          rcases hk with rfl | rfl | rfl | rfl <;> decide
        · simp only [c1, c2, c3, if_true, if_false]
          rcases hk with rfl | rfl | rfl | rfl <;> decide
  · simp only [c4]
    by_cases c1 : N = 0
    · subst c1
      have e0 : (0 : Int32) &&& stand = 0 := Int32.zero_and
      simp only [e0]
      rcases hk with rfl | rfl | rfl | rfl <;> decide
    · by_cases c2 : N &&& stand = 0
      · have c5 : ¬ (0 : Int32) = N := fun z => c1 z.symm
        simp only [c1, c2, if_true, if_false]
        simp only [c5, if_false]
        rcases hk with rfl | rfl | rfl | rfl <;> decide
      · by_cases c3 : N &&& stand = N
        · simp only [c1, c3, if_true, if_false]
          rcases hk with rfl | rfl | rfl | rfl <;> decide
        · simp only [c1, c2, c3, if_true, if_false]
          rcases hk with rfl | rfl | rfl | rfl <;> decide
section AG
variable {n pe : Nat} {kd dy nd co od wo kd' dy' nd' co' od' wo' : Nat → Int32}
theorem eq_st (A : Ag n kd dy nd co od wo kd' dy' nd' co' od' wo') (la gone : Int32) : ∀ (k d : Nat) (a : Int32), d + k = n → s_X5_standing_L4 la kd nd gone k d a = s_X7_stands_L5 kd' nd' gone la k d a := by
  intro k
  induction k with
  | zero => intro d a _; rfl
  | succ k ih =>
    intro d a h
    unfold s_X5_standing_L4 s_X7_stands_L5
    rw [← eq_is (n := n) (la := la) (stand := a) (A.ekd d (by omega)) (A.end' d (by omega)) (A.k4 d (by omega)), Int32.or_zero]
    simp only [isIn_0]
    split
    · split
      · exact ih (d + 1) _ (by omega)
      · exact ih (d + 1) _ (by omega)
    · exact ih (d + 1) _ (by omega)
theorem eq_standing (A : Ag n kd dy nd co od wo kd' dy' nd' co' od' wo') (la gone : Int32) : s_X7_stands n kd' nd' gone la = s_X5_standing n la kd nd gone := (eq_st A la gone n 0 0 (by omega)).symm
theorem eq_od (A : Ag n kd dy nd co od wo kd' dy' nd' co' od' wo') (t : Int32) : ∀ (k d : Nat) (a : Int32), d + k = n → s_X5_ofDay_L4 dy t k d a = s_X7_ofDay_L4 dy' t k d a := by
  intro k
  induction k with
  | zero => intro d a _; rfl
  | succ k ih =>
    intro d a h
    unfold s_X5_ofDay_L4 s_X7_ofDay_L4
    rw [← A.edy d (by omega), Int32.or_zero]
    split
    · exact ih (d + 1) _ (by omega)
    · exact ih (d + 1) _ (by omega)
theorem eq_ofDay (A : Ag n kd dy nd co od wo kd' dy' nd' co' od' wo') (t : Int32) : s_X7_ofDay n dy' t = s_X5_ofDay n dy t := (eq_od A t n 0 0 (by omega)).symm
theorem eq_ne (A : Ag n kd dy nd co od wo kd' dy' nd' co' od' wo') (t : Int32) : ∀ (k d : Nat) (a : Int32), d + k ≤ n → s_X5_needable_L5 dy t k d a = s_X7_ahead_L5 dy' t k d a := by
  intro k
  induction k with
  | zero => intro d a _; rfl
  | succ k ih =>
    intro d a h
    unfold s_X5_needable_L5 s_X7_ahead_L5
    rw [← A.edy d (by omega), Int32.or_zero]
    split
    · exact ih (d + 1) _ (by omega)
    · exact ih (d + 1) _ (by omega)
theorem eq_needable (A : Ag n kd dy nd co od wo kd' dy' nd' co' od' wo') (m : Nat) (hm : m ≤ n) (t : Int32) : s_X7_ahead dy' m t = s_X5_needable dy m t := (eq_ne A t m 0 0 (by omega)).symm
theorem eq_beL (A : Ag n kd dy nd co od wo kd' dy' nd' co' od' wo') (hp : 1 ≤ pe ∧ pe ≤ 4) {d : Nat} (hd : d < n) : ∀ (k e m l : Nat), e + k = pe → m < 4 → l < 4 → s_X5_bearer_L7 wo d k e m l = s_X7_bearer_L7 wo' d k e m l := by
  intro k
  induction k with
  | zero => intro e m l _ _ _; rfl
  | succ k ih =>
    intro e m l h hm hl
    unfold s_X5_bearer_L7 s_X7_bearer_L7 s_X5_worthTo
    rw [Nat.mul_comm d 4, A.ewo (4 * d + m) (by omega), A.ewo (4 * d + e) (by omega), A.ewo (4 * d + l) (by omega)]
    (repeat' split) <;> exact ih _ _ _ (by omega) (by omega) (by omega)
theorem eq_bearer (A : Ag n kd dy nd co od wo kd' dy' nd' co' od' wo') (hp : 1 ≤ pe ∧ pe ≤ 4) {d : Nat} (hd : d < n) : s_X7_bearer pe wo' d = s_X5_bearer pe wo d := by
  unfold s_X5_bearer s_X7_bearer s_X5_worthTo
  have h := mbear_L (wo := wo') (d := d) (pe := pe) hp.2 (pe - 1) 1 0 0 (by omega) (by omega) (by omega)
  rw [eq_beL A hp hd (pe - 1) 1 0 0 (by omega) (by omega) (by omega), Nat.mul_comm d 4, A.ewo _ (by omega)]
theorem upd_at (f : Nat → Int32) (i : Nat) (v : Int32) : upd f i v i = v := if_pos rfl
theorem upd_ne (f : Nat → Int32) {i j : Nat} (v : Int32) (h : ¬ j = i) : upd f i v j = f j := if_neg h
theorem cnt50 (kd nd wo : Nat → Int32) (right old : Int32) (d p : Nat) : ∀ (k e : Nat) (vs : Nat → Int32), (s_X7_counts_L50 n kd nd wo right old d k e vs) p = if (s_X7_stands n kd nd right old >>> (nI d &&& 31)) &&& (1 : Int32) = 1 then (if e ≤ p ∧ p < e + k then vs p + wo (4 * d + p) else vs p) else vs p := by
  intro k
  induction k with
  | zero =>
    intro e vs
    unfold s_X7_counts_L50
    rw [if_neg (show ¬ (e ≤ p ∧ p < e + 0) from by omega)]
    split <;> rfl
  | succ k ih =>
    intro e vs
    unfold s_X7_counts_L50
    by_cases c : (s_X7_stands n kd nd right old >>> (nI d &&& 31)) &&& (1 : Int32) = 1
    · rw [if_pos c, if_pos c, ih, if_pos c]
      by_cases c2 : p = e
      · subst c2
        rw [if_neg (by omega), if_pos (by omega), upd_at]
      · rw [upd_ne _ _ c2]
        by_cases c3 : e + 1 ≤ p ∧ p < e + 1 + k
        · rw [if_pos c3, if_pos (by omega)]
        · rw [if_neg c3, if_neg (by omega)]
    · rw [if_neg c, if_neg c]
theorem cnt38 (A : Ag n kd dy nd co od wo kd' dy' nd' co' od' wo') (hp : 1 ≤ pe ∧ pe ≤ 4) (right old : Int32) {p : Nat} (hpp : p < pe) : ∀ (k d : Nat) (vs : Nat → Int32), d + k = n → (s_X7_counts_L38 pe n kd' nd' co' wo' right old k d vs) p = s_X5_valueOf_L6 pe co wo p right (s_X5_standing n old kd nd right) k d (vs p) := by
  intro k
  induction k with
  | zero => intro d vs _; rfl
  | succ k ih =>
    intro d vs h
    unfold s_X7_counts_L38 s_X5_valueOf_L6
    rw [ih (d + 1) _ (by omega)]
    unfold s_X7_counts_m128_0
    have hb := mbear (wo := wo') (d := d) (pe := pe) hp
    rw [eq_bearer A hp (d := d) (by omega)] at hb
    rw [eq_bearer A hp (d := d) (by omega)]
    have e1 : ∀ (x : Int32), (if (right >>> (nI d &&& 31)) &&& (1 : Int32) = 1 then upd (s_X7_counts_L50 n kd' nd' wo' right old d pe 0 vs) (s_X5_bearer pe wo d).toNatClampNeg ((s_X7_counts_L50 n kd' nd' wo' right old d pe 0 vs) (s_X5_bearer pe wo d).toNatClampNeg - co' d) else s_X7_counts_L50 n kd' nd' wo' right old d pe 0 vs) p = (if (right >>> (nI d &&& 31)) &&& (1 : Int32) = 0 then (s_X7_counts_L50 n kd' nd' wo' right old d pe 0 vs) p else (if s_X5_bearer pe wo d = nI p then (s_X7_counts_L50 n kd' nd' wo' right old d pe 0 vs) p - co d else (s_X7_counts_L50 n kd' nd' wo' right old d pe 0 vs) p)) := by
      intro _
      by_cases c : (right >>> (nI d &&& 31)) &&& (1 : Int32) = 0
      · rw [if_pos c, if_neg (fun z => (b01' _).mp z c)]
      · rw [if_neg c, if_pos ((b01' _).mpr c)]
        by_cases c2 : s_X5_bearer pe wo d = nI p
        · rw [if_pos c2, c2, nI_clamp (by omega), upd_at, A.eco d (by omega)]
        · rw [if_neg c2, upd_ne]
          intro z
          exact c2 (by rw [hb.1, ← z])
    rw [e1 0, cnt50, if_pos (show 0 ≤ p ∧ p < 0 + pe from by omega), eq_standing A]
    simp only [isIn_0, b01']
    unfold s_X5_worthTo
    rw [Nat.mul_comm d 4, A.ewo (4 * d + p) (by omega)]
    by_cases c1 : (s_X5_standing n old kd nd right >>> (nI d &&& 31)) &&& (1 : Int32) = 0
    · have c1' : ¬ ¬ ((s_X5_standing n old kd nd right >>> (nI d &&& 31)) &&& (1 : Int32) = 0) := fun z => z c1
      rw [if_pos c1, if_neg c1']
      by_cases c2 : (right >>> (nI d &&& 31)) &&& (1 : Int32) = 0
      · rw [if_pos c2, if_pos c2]
      · rw [if_neg c2, if_neg c2]
        by_cases c3 : s_X5_bearer pe wo d = nI p
        · rw [if_pos c3, if_pos c3]
        · rw [if_neg c3, if_neg c3]
    · rw [if_neg c1, if_pos c1]
      by_cases c2 : (right >>> (nI d &&& 31)) &&& (1 : Int32) = 0
      · rw [if_pos c2, if_pos c2]
      · rw [if_neg c2, if_neg c2]
        by_cases c3 : s_X5_bearer pe wo d = nI p
        · rw [if_pos c3, if_pos c3]
        · rw [if_neg c3, if_neg c3]
theorem cnt15 (p : Nat) (hp : p < 4) : ∀ (k d : Nat) (vs : Nat → Int32), (d ≤ p ∧ p < d + k) → (s_X7_counts_L15 k d vs) p = 0 := by
  intro k
  induction k with
  | zero => intro d vs h; omega
  | succ k ih =>
    intro d vs h
    unfold s_X7_counts_L15
    by_cases c : p = d
    · subst c
      have aux : ∀ (k2 d2 : Nat) (g : Nat → Int32), p < d2 → (s_X7_counts_L15 k2 d2 g) p = g p := by
        intro k2
        induction k2 with
        | zero => intro d2 g _; rfl
        | succ k2 ih2 =>
          intro d2 g hd
          unfold s_X7_counts_L15
          rw [ih2 (d2 + 1) _ (by omega), upd_ne _ _ (by omega)]
      rw [aux k (p + 1) _ (by omega), upd_at]
    · exact ih (d + 1) _ (by omega)
theorem eq_cnt2 (A : Ag n kd dy nd co od wo kd' dy' nd' co' od' wo') (hp : 1 ≤ pe ∧ pe ≤ 4) (vs : Nat → Int32) (right old : Int32) {p : Nat} (hpp : p < pe) : (s_X7_counts pe n kd' nd' co' wo' vs right old).2 p = s_X5_valueBy pe n old kd nd co wo p right := by
  unfold s_X7_counts s_X5_valueBy s_X5_valueOf
  show (s_X7_counts_L38 pe n kd' nd' co' wo' right old n 0 (s_X7_counts_L15 4 0 vs)) p = _
  rw [cnt38 A hp right old hpp n 0 _ (by omega), cnt15 p (by omega) 4 0 vs (by omega)]
theorem cnt137 {f : Nat → Int32} {gone old : Int32} (h : ∀ p, p < pe → f p = s_X5_valueOf pe n co wo p gone (s_X5_standing n old kd nd gone)) : ∀ (k d : Nat) (a : Int32), d + k = pe → s_X7_counts_L137 f k d a = s_X5_sumBy_L11 pe n old kd nd co wo gone k d a := by
  intro k
  induction k with
  | zero => intro d a _; rfl
  | succ k ih =>
    intro d a hk
    unfold s_X7_counts_L137 s_X5_sumBy_L11
    rw [h d (by omega)]
    exact ih (d + 1) _ (by omega)
theorem eq_cnt1 (A : Ag n kd dy nd co od wo kd' dy' nd' co' od' wo') (hp : 1 ≤ pe ∧ pe ≤ 4) (vs : Nat → Int32) (right old : Int32) : (s_X7_counts pe n kd' nd' co' wo' vs right old).1 = s_X5_sumBy pe n old kd nd co wo right := by
  unfold s_X5_sumBy
  exact cnt137 (fun p h => eq_cnt2 A hp vs right old h) pe 0 0 (by omega)
end AG
