section EQD
variable {n pe : Nat} {td ys la ri : Int32} {kd dy nd co od wo kd' dy' nd' co' od' wo' : Nat → Int32}
theorem bear_pe {wo : Nat → Int32} {d pe : Nat} : ∀ (k e most least : Nat), e + k = pe → most < pe → least < pe → (s_X7_bearer_L7 wo d k e most least).1 < pe ∧ (s_X7_bearer_L7 wo d k e most least).2 < pe := by
  intro k
  induction k with
  | zero => intro e most least _ h1 h2; exact ⟨h1, h2⟩
  | succ k ih =>
    intro e most least hk h1 h2
    unfold s_X7_bearer_L7
    (repeat' split) <;> exact ih _ _ _ (by omega) (by omega) (by omega)
theorem mbear_pe {wo : Nat → Int32} {d : Nat} (hp : 1 ≤ pe ∧ pe ≤ 4) : (s_X7_bearer pe wo d).toNatClampNeg < pe := by
  have h := bear_pe (wo := wo) (d := d) (pe := pe) (pe - 1) 1 0 0 (by omega) (by omega) (by omega)
  unfold s_X7_bearer
  split
  · rw [nI_clamp (by omega)]; exact h.1
  · rw [nI_clamp (by omega)]; exact h.2
/-- who is harmed -/
def vic (B : Int32) (w : Nat → Int32) (q : Nat) : Prop := ¬ nI q = B ∧ w q < 0
def vicN (B : Int32) (w : Nat → Int32) : Nat → Nat → Nat
  | 0, d => d
  | k + 1, d => if nI d = B then vicN B w k (d + 1) else if w d < 0 then d else vicN B w k (d + 1)
theorem vicN_ge (B : Int32) (w : Nat → Int32) : ∀ (k d : Nat), d ≤ vicN B w k d ∧ vicN B w k d ≤ d + k := by
  intro k
  induction k with
  | zero => intro d; exact ⟨Nat.le_refl _, Nat.le_refl _⟩
  | succ k ih =>
    intro d
    have h := ih (d + 1)
    unfold vicN
    (repeat' split) <;> omega
theorem vicN_le (B : Int32) (w : Nat → Int32) {p : Nat} (hv : vic B w p) : ∀ (k d : Nat), d ≤ p → p < d + k → vicN B w k d ≤ p := by
  intro k
  induction k with
  | zero => intro d h1 h2; omega
  | succ k ih =>
    intro d h1 h2
    unfold vicN
    by_cases c : p = d
    · subst c
      rw [if_neg hv.1, if_pos hv.2]; exact Nat.le_refl _
    · have h := ih (d + 1) (by omega) (by omega)
      (repeat' split) <;> omega
/-- the count, and the first -/
theorem l15 (A : Ag n kd dy nd co od wo kd' dy' nd' co' od' wo') (hp : 1 ≤ pe ∧ pe ≤ 4) {d : Nat} (hd : d < n) : ∀ (k e : Nat) (f : Int32) (m : Nat), e + k = pe → m ≤ e →
    ∃ m2 : Nat, m2 ≤ pe ∧ s_X7_owes_L41 pe wo' d k e (nI m) = nI m2 ∧ (s_X0_dueFor_L15 pe wo d k e f (nI m)).2 = nI m2 ∧ (m = 0 → (s_X0_dueFor_L15 pe wo d k e f (nI m)).1 = if vicN (s_X5_bearer pe wo d) (fun q => wo (4 * d + q)) k e < e + k then nI (vicN (s_X5_bearer pe wo d) (fun q => wo (4 * d + q)) k e) else f) ∧ (¬ m = 0 → (s_X0_dueFor_L15 pe wo d k e f (nI m)).1 = f) := by
  have hb := mbear (wo := wo') (d := d) (pe := pe) hp
  rw [eq_bearer A hp hd] at hb
  have e0 : (0 : Int32) = nI 0 := rfl
  intro k
  induction k with
  | zero =>
    intro e f m h hm
    refine ⟨m, by omega, rfl, rfl, fun _ => ?_, fun _ => rfl⟩
    unfold vicN
    rw [if_neg (by omega)]
    rfl
  | succ k ih =>
    intro e f m h hm
    unfold s_X7_owes_L41 s_X0_dueFor_L15 vicN s_X5_worthTo
    rw [eq_bearer A hp hd, ← hb.1, Nat.mul_comm d 4, ← A.ewo (4 * d + e) (by omega), Int32.add_zero, nI_1]
    by_cases c : nI e = s_X5_bearer pe wo d
    · simp only [c, if_true]
      obtain ⟨m2, r1, r2, r3, r4, r5⟩ := ih (e + 1) f m (by omega) (by omega)
      refine ⟨m2, r1, r2, r3, fun z => ?_, r5⟩
      rw [r4 z]
      have e2 : e + 1 + k = e + (k + 1) := by omega
      rw [e2]
    · simp only [c, if_false]
      by_cases c2 : wo (4 * d + e) < 0
      · simp only [c2, if_true]
        by_cases c3 : nI m = (0 : Int32)
        · have hm0 : m = 0 := (nI_eq (by omega) (by omega)).mp (c3.trans e0)
          simp only [c3, if_true]
          obtain ⟨m2, r1, r2, r3, r4, r5⟩ := ih (e + 1) (nI e) (m + 1) (by omega) (by omega)
          refine ⟨m2, r1, r2, r3, fun z => ?_, fun z => absurd hm0 z⟩
          rw [r5 (by omega), if_pos (by omega)]
        · simp only [c3, if_false]
          obtain ⟨m2, r1, r2, r3, r4, r5⟩ := ih (e + 1) f (m + 1) (by omega) (by omega)
          exact ⟨m2, r1, r2, r3, fun z => absurd (by rw [z]; rfl) c3, fun _ => r5 (by omega)⟩
      · simp only [c2, if_false]
        obtain ⟨m2, r1, r2, r3, r4, r5⟩ := ih (e + 1) f m (by omega) (by omega)
        refine ⟨m2, r1, r2, r3, fun z => ?_, r5⟩
        rw [r4 z]
        have e2 : e + 1 + k = e + (k + 1) := by omega
        rw [e2]
/-- what each gets -/
theorem l141 (A : Ag n kd dy nd co od wo kd' dy' nd' co' od' wo') (hp : 1 ≤ pe ∧ pe ≤ 4) {d : Nat} (hd : d < n) (many : Int32) (p : Nat) : ∀ (k e : Nat) (du : Nat → Int32) (rest : Int32), e + k = pe →
    ((e ≤ p ∧ p < e + k ∧ vic (s_X5_bearer pe wo d) (fun q => wo (4 * d + q)) p) → (s_X7_owes_L141 pe co' wo' d many k e du rest).1 p = du p + (co d / many + (if p = vicN (s_X5_bearer pe wo d) (fun q => wo (4 * d + q)) k e then rest else 0))) ∧
    (¬ (e ≤ p ∧ p < e + k ∧ vic (s_X5_bearer pe wo d) (fun q => wo (4 * d + q)) p) → (s_X7_owes_L141 pe co' wo' d many k e du rest).1 p = du p) := by
  have hb := mbear (wo := wo') (d := d) (pe := pe) hp
  rw [eq_bearer A hp hd] at hb
  intro k
  induction k with
  | zero => intro e du rest _; exact ⟨fun z => by omega, fun _ => rfl⟩
  | succ k ih =>
    intro e du rest h
    unfold s_X7_owes_L141 vicN
    rw [eq_bearer A hp hd, ← hb.1, ← A.ewo (4 * d + e) (by omega), ← A.eco d hd]
    by_cases c : nI e = s_X5_bearer pe wo d
    · rw [if_pos c, if_pos c]
      have r := ih (e + 1) du rest (by omega)
      refine ⟨fun z => r.1 ⟨?_, by omega, z.2.2⟩, fun z => r.2 (fun w => z ⟨by omega, by omega, w.2.2⟩)⟩
      rcases Nat.lt_or_ge e p with q | q
      · omega
      · have : e = p := by omega
        subst this
        exact absurd c z.2.2.1
    · rw [if_neg c, if_neg c]
      by_cases c2 : wo (4 * d + e) < 0
      · rw [if_pos c2, if_pos c2]
        have r := ih (e + 1) (upd du e (du e + (co d / many + rest))) 0 (by omega)
        refine ⟨fun z => ?_, fun z => ?_⟩
        · by_cases c3 : p = e
          · subst c3
            rw [r.2 (by omega), upd_at, if_pos rfl]
          · rw [r.1 ⟨by omega, by omega, z.2.2⟩, upd_ne _ _ c3, if_neg c3]
            split <;> rfl
        · have c3 : ¬ p = e := fun w => z ⟨by omega, by omega, by rw [w]; exact ⟨c, c2⟩⟩
          rw [r.2 (fun w => z ⟨by omega, by omega, w.2.2⟩), upd_ne _ _ c3]
      · rw [if_neg c2, if_neg c2]
        have r := ih (e + 1) du rest (by omega)
        refine ⟨fun z => r.1 ⟨?_, by omega, z.2.2⟩, fun z => r.2 (fun w => z ⟨by omega, by omega, w.2.2⟩)⟩
        rcases Nat.lt_or_ge e p with q | q
        · omega
        · have : e = p := by omega
          subst this
          exact absurd z.2.2.2 c2
theorem dueStep (A : Ag n kd dy nd co od wo kd' dy' nd' co' od' wo') (hp : 1 ≤ pe ∧ pe ≤ 4) {d : Nat} (hd : d < n) (du : Nat → Int32) {p : Nat} (hpp : p < pe) :
    (if (0 : Int32) < s_X7_owes_L41 pe wo' d pe 0 0 then (s_X7_owes_L141 pe co' wo' d (s_X7_owes_L41 pe wo' d pe 0 0) pe 0 (upd du (s_X7_bearer pe wo' d).toNatClampNeg (du (s_X7_bearer pe wo' d).toNatClampNeg - co' d)) (co' d - co' d / s_X7_owes_L41 pe wo' d pe 0 0 * s_X7_owes_L41 pe wo' d pe 0 0)).1 p else du p) = du p + s_X0_dueFor pe co wo d p := by
  have hb := mbear (wo := wo') (d := d) (pe := pe) hp
  obtain ⟨m2, r1, r2, r3, r4, -⟩ := l15 A hp hd pe 0 (-1) 0 (by omega) (by omega)
  have e0 : nI 0 = (0 : Int32) := rfl
  rw [e0] at r2 r3 r4
  have r4 := r4 rfl
  unfold s_X0_dueFor s_X5_worthTo
  rw [r2, r3, r4, ← A.eco d hd, Nat.mul_comm d 4]
  have hB := eq_bearer A hp hd
  by_cases c : m2 = 0
  · rw [c, if_neg (by decide), if_pos (by rfl), Int32.add_zero]
  · have c1 : (0 : Int32) < nI m2 := (nI_ltI (a := 0) (by omega) (by omega)).mpr (by omega)
    have c2 : ¬ nI m2 = (0 : Int32) := fun z => c ((nI_eq (b := 0) (by omega) (by omega)).mp z)
    rw [if_pos c1, if_neg c2]
    have r := l141 A hp hd (nI m2) p pe 0 (upd du (s_X7_bearer pe wo' d).toNatClampNeg (du (s_X7_bearer pe wo' d).toNatClampNeg - co d)) (co d - co d / nI m2 * nI m2) (by omega)
    by_cases c3 : nI p = s_X5_bearer pe wo d
    · have e3 : (s_X7_bearer pe wo' d).toNatClampNeg = p := by rw [hB, ← c3, nI_clamp (by omega)]
      rw [if_pos c3, r.2 (fun z => z.2.2.1 c3), e3, upd_at, Int32.sub_eq_add_neg]
    · have e3 : ¬ p = (s_X7_bearer pe wo' d).toNatClampNeg := fun z => c3 (by rw [z, ← hb.1, hB])
      rw [if_neg c3]
      by_cases c4 : wo (4 * d + p) < 0
      · have hv : vic (s_X5_bearer pe wo d) (fun q => wo (4 * d + q)) p := ⟨c3, c4⟩
        have hle := vicN_le _ _ hv pe 0 (by omega) (by omega)
        have hlt : vicN (s_X5_bearer pe wo d) (fun q => wo (4 * d + q)) pe 0 < 0 + pe := by omega
        rw [if_pos c4, r.1 ⟨by omega, by omega, hv⟩, upd_ne _ _ e3, if_pos hlt]
        by_cases c5 : p = vicN (s_X5_bearer pe wo d) (fun q => wo (4 * d + q)) pe 0
        · rw [if_pos c5, if_pos (by rw [← c5])]
        · rw [if_neg c5, if_neg (fun z => c5 ((nI_eq (by omega) (by omega)).mp z))]
      · rw [if_neg c4, r.2 (fun z => c4 z.2.2.2), upd_ne _ _ e3, Int32.add_zero]
theorem owes22 (A : Ag n kd dy nd co od wo kd' dy' nd' co' od' wo') (hp : 1 ≤ pe ∧ pe ≤ 4) (ri : Int32) {p : Nat} (hpp : p < pe) : ∀ (k d : Nat) (du : Nat → Int32), d + k = n → (s_X7_owes_L22 pe ri co' wo' k d du) p = s_X0_dueTo_L4 pe ri co wo p k d (du p) := by
  intro k
  induction k with
  | zero => intro d du _; rfl
  | succ k ih =>
    intro d du h
    have s := dueStep A hp (d := d) (by omega) du hpp
    unfold s_X7_owes_L22 s_X0_dueTo_L4
    simp only [isIn_0]
    by_cases c : (ri >>> (nI d &&& 31)) &&& (1 : Int32) = 0
    · rw [if_pos c, if_neg (fun z => (b01' _).mp z c)]
      exact ih _ _ (by omega)
    · rw [if_neg c, if_pos ((b01' _).mpr c)]
      by_cases c2 : (0 : Int32) < s_X7_owes_L41 pe wo' d pe 0 0
      · rw [if_pos c2] at s ⊢
        rw [ih _ _ (by omega), s]
      · rw [if_neg c2] at s ⊢
        rw [ih _ _ (by omega)]
        congr 1
theorem owes22z (A : Ag n kd dy nd co od wo kd' dy' nd' co' od' wo') (hp : 1 ≤ pe ∧ pe ≤ 4) (ri : Int32) {p : Nat} (hpp : pe ≤ p) : ∀ (k d : Nat) (du : Nat → Int32), d + k = n → (s_X7_owes_L22 pe ri co' wo' k d du) p = du p := by
  intro k
  induction k with
  | zero => intro d du _; rfl
  | succ k ih =>
    intro d du h
    unfold s_X7_owes_L22
    have hb := mbear_pe (wo := wo') (d := d) hp
    split
    · split
      · rw [ih _ _ (by omega), (l141 A hp (d := d) (by omega) _ p pe 0 _ _ (by omega)).2 (by omega), upd_ne _ _ (by omega)]
      · exact ih _ _ (by omega)
    · exact ih _ _ (by omega)
theorem owes2 : ∀ (k d : Nat) (du : Nat → Int32) (p : Nat), (s_X7_owes_L2 k d du) p = if d ≤ p ∧ p < d + k then 0 else du p := by
  intro k
  induction k with
  | zero => intro d du p; rw [if_neg (by omega)]; rfl
  | succ k ih =>
    intro d du p
    unfold s_X7_owes_L2
    rw [ih]
    by_cases c : p = d
    · subst c; rw [if_neg (by omega), if_pos (by omega), upd_at]
    · rw [upd_ne _ _ c]
      by_cases c2 : d + 1 ≤ p ∧ p < d + 1 + k
      · rw [if_pos c2, if_pos (by omega)]
      · rw [if_neg c2, if_neg (by omega)]
theorem eq_owes (A : Ag n kd dy nd co od wo kd' dy' nd' co' od' wo') (hp : 1 ≤ pe ∧ pe ≤ 4) (ri : Int32) (du : Nat → Int32) {p : Nat} (h4 : p < 4) : (s_X7_owes pe n ri co' wo' du) p = if p < pe then s_X0_dueTo pe n ri co wo p else 0 := by
  unfold s_X7_owes
  by_cases c : p < pe
  · rw [if_pos c, owes22 A hp ri c n 0 _ (by omega), owes2, if_pos (by omega)]
    rfl
  · rw [if_neg c, owes22z A hp ri (by omega) n 0 _ (by omega), owes2, if_pos (by omega)]
theorem rn_due (h : RN pe n td ys la ri kd dy nd co od wo kd' dy' nd' co' od' wo') (du : Nat → Int32) (person : Int32) : s_X6_due pe n ri co wo person = (s_X7_due pe n ri co' wo' du person).1 := by
  have hp := h.hp
  unfold s_X6_due s_X7_due
  rw [eq_isOne (by omega)]
  by_cases c : s_X5_isPerson pe person = 0
  · rw [if_pos c, if_pos c]
  · rw [if_neg c, if_neg c]
    have hq := (isPerson_nat hp c).2
    show _ = (s_X7_owes pe n ri co' wo' du) person.toNatClampNeg
    rw [eq_owes h.ag hp ri du (by omega), if_pos hq]
theorem isP_nI (hp : 1 ≤ pe ∧ pe ≤ 4) {d : Nat} (h : d < 4) : s_X5_isPerson pe (nI d) = 0 ↔ ¬ d < pe := by
  unfold s_X5_isPerson
  rw [if_neg (nI_pos (by omega))]
  by_cases c : d < pe
  · rw [if_pos ((nI_ltI (by omega) (by omega)).mpr c)]; exact ⟨fun z => absurd z (by decide), fun z => absurd c z⟩
  · rw [if_neg (fun z => c ((nI_ltI (by omega) (by omega)).mp z))]; exact ⟨fun _ => c, fun _ => rfl⟩
theorem pay2 (hp : 1 ≤ pe ∧ pe ≤ 4) (ri : Int32) (co wo : Nat → Int32) : ∀ (k d : Nat) (du : Nat → Int32) (p : Nat), d + k = 4 → (s_X6_payments_L2 pe n ri co wo k d du) p = if d ≤ p ∧ p < 4 then (if p < pe then s_X0_dueTo pe n ri co wo p else 0) else du p := by
  intro k
  induction k with
  | zero => intro d du p h; rw [if_neg (by omega)]; rfl
  | succ k ih =>
    intro d du p h
    unfold s_X6_payments_L2
    simp only [isP_nI hp (d := d) (by omega)]
    by_cases c : p = d
    · subst c
      by_cases c2 : p < pe
      · rw [if_neg (fun z => z c2), ih _ _ _ (by omega), if_neg (by omega), upd_at, if_pos (by omega), if_pos c2]
      · rw [if_pos c2, ih _ _ _ (by omega), if_neg (by omega), upd_at, if_pos (by omega), if_neg c2]
    · have r : ∀ v, (s_X6_payments_L2 pe n ri co wo k (d + 1) (upd du d v)) p = if d ≤ p ∧ p < 4 then (if p < pe then s_X0_dueTo pe n ri co wo p else 0) else du p := by
        intro v
        rw [ih _ _ _ (by omega), upd_ne _ _ c]
        by_cases c3 : d + 1 ≤ p ∧ p < 4
        · rw [if_pos c3, if_pos (show d ≤ p ∧ p < 4 from by omega)]
        · rw [if_neg c3, if_neg (show ¬ (d ≤ p ∧ p < 4) from by omega)]
      split <;> exact r _
end EQD
