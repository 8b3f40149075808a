section EQO
variable {ty : Nat} {le tp : Nat → Int32}
theorem tail_eq (hT : TL ty le tp) {ap n : Nat} (hap : ap ≤ ty) (hn : n ≤ 12) (hl : s_X7_in (s_X7_here ty ap tp).1.toInt64 97 108 = 0) (hc : ¬ (s_X7_here ty ap tp).1 = 44 ∨ n = 12) (tk : Int32) (kd dy nd co od wo : Nat → Int32) :
    (¬ (s_X7_here ty ap tp).1 = 0 → (rdA ty le ap 2 tk n kd dy nd co od wo).1 = (-20 : Int32) - nI (s_X7_here ty ap tp).2) ∧ ((s_X7_here ty ap tp).1 = 0 → rdA ty le ap 2 tk n kd dy nd co od wo = (nI n, 2, tk, n, kd, dy, nd, co, od, wo)) := by
  obtain ⟨a0, a1, a2⟩ := here_at hT hap 2 tk n kd dy nd co od wo
  rw [a0]
  rcases a2 with ⟨r1, r2⟩ | ⟨r1, r2, r3, c, hc1, hc2, r4⟩
  · refine ⟨fun z => absurd r2 z, fun _ => ?_⟩
    rw [rd_stop r1]
    rfl
  · refine ⟨fun _ => ?_, fun z => absurd (r4.symm.trans z) (fun w => absurd ((nI_eq (b := 0) (by omega) (by omega)).mp w) (by omega))⟩
    by_cases c1 : le (s_X7_here ty ap tp).2 = 44
    · exact (rd_comma r1 c1 tk hn kd dy nd co od wo).2 (hc.resolve_left (fun z => z (r2.trans c1)))
    · refine (rd_need r1 r3 c1 tk n kd dy nd co od wo).1 ?_
      rw [← r2, r4]
      rw [r4] at hl
      exact need_bad hn dy nd hc1 hc2 hl
theorem text_loop (hT : TL ty le tp) : ∀ (k rd ap : Nat) (wg tk : Int32) (kd dy nd co od wo rk ry rn : Nat → Int32), rd + k = 12 → 1 ≤ k → ap ≤ ty → TI rd kd dy nd co od wo rk ry rn →
    ∃ (ap2 : Nat) (wg2 : Int32) (rd2 : Nat) (rk2 ry2 rn2 : Nat → Int32), s_X7_text_L17 ty tp k ap wg rd rk ry rn = (ap2, wg2, rd2, rk2, ry2, rn2) ∧
      (¬ wg2 = 0 → (rdA ty le ap 0 tk rd kd dy nd co od wo).1 = (-20 : Int32) - nI ap2 ∧ ap2 ≤ ty) ∧
      (wg2 = 0 → ¬ (s_X7_here ty ap2 tp).1 = 0 → (rdA ty le ap 0 tk rd kd dy nd co od wo).1 = (-20 : Int32) - nI (s_X7_here ty ap2 tp).2 ∧ (s_X7_here ty ap2 tp).2 ≤ ty) ∧
      (wg2 = 0 → (s_X7_here ty ap2 tp).1 = 0 → 1 ≤ rd2 ∧ rd2 ≤ 12 ∧ ∃ (aw2 tk2 : Int32) (kd2 dy2 nd2 co2 od2 wo2 : Nat → Int32), rdA ty le ap 0 tk rd kd dy nd co od wo = (nI rd2, aw2, tk2, rd2, kd2, dy2, nd2, co2, od2, wo2) ∧ TI rd2 kd2 dy2 nd2 co2 od2 wo2 rk2 ry2 rn2) := by
  intro k
  induction k with
  | zero => intro rd ap wg tk kd dy nd co od wo rk ry rn h1 h2; omega
  | succ k ih =>
    intro rd ap wg tk kd dy nd co od wo rk ry rn h1 h2 hap hI
    obtain ⟨ap2, wg2, rk2, ry2, rn2, e, hle, f1, f2⟩ := readDeed_eq hT hap (by omega) hI tk
    rw [s_X7_text_L17, e]
    dsimp only
    by_cases c1 : wg2 = 0
    · subst c1
      obtain ⟨tk2, kd2, dy2, nd2, co2, od2, wo2, g1, g2, g3⟩ := f2 rfl
      rw [if_pos rfl, g1]
      by_cases c2 : rd + 1 < 12
      · have c3 : nI (rd + 1) < (12 : Int32) := (nI_ltI (b := 12) (by omega) (by omega)).mpr c2
        rw [if_pos c3]
        obtain ⟨a0, a1, a2⟩ := here_at hT hle 2 tk2 (rd + 1) kd2 dy2 nd2 co2 od2 wo2
        by_cases c4 : (s_X7_here ty ap2 tp).1 = 44
        · rw [if_pos c4]
          rcases a2 with ⟨-, r2⟩ | ⟨r1, r2, r3, -⟩
          · rw [r2] at c4; exact absurd c4 (by decide)
          · have hc := (rd_comma r1 (r2.symm.trans c4) tk2 (n := rd + 1) (by omega) kd2 dy2 nd2 co2 od2 wo2).1 c2
            rw [a0, hc]
            exact ih (rd + 1) _ _ tk2 _ _ _ _ _ _ _ _ _ (by omega) (by omega) (by omega) g2
        · rw [if_neg c4]
          have t := tail_eq hT hle (n := rd + 1) (by omega) g3 (Or.inl c4) tk2 kd2 dy2 nd2 co2 od2 wo2
          have hid := here_idem (tp := tp) hle
          refine ⟨_, _, _, _, _, _, rfl, fun z => absurd rfl z, fun _ z => ?_, fun _ z => ?_⟩
          · rw [Nat.add_zero, hid] at z
            rw [show (s_X7_here ty ap2 tp).2 + 0 = (s_X7_here ty ap2 tp).2 from rfl, hid]
            exact ⟨t.1 z, here_le hle⟩
          · rw [Nat.add_zero, hid] at z
            exact ⟨by omega, by omega, _, _, _, _, _, _, _, _, t.2 z, g2⟩
      · have c3 : ¬ nI (rd + 1) < (12 : Int32) := fun z => c2 ((nI_ltI (b := 12) (by omega) (by omega)).mp z)
        rw [if_neg c3]
        have t := tail_eq hT hle (n := rd + 1) (by omega) g3 (Or.inr (by omega)) tk2 kd2 dy2 nd2 co2 od2 wo2
        refine ⟨_, _, _, _, _, _, rfl, fun z => absurd rfl z, fun _ z => ?_, fun _ z => ?_⟩
        · rw [Nat.add_zero] at z ⊢
          exact ⟨t.1 z, here_le hle⟩
        · rw [Nat.add_zero] at z
          exact ⟨by omega, by omega, _, _, _, _, _, _, _, _, t.2 z, g2⟩
    · rw [if_neg c1]
      refine ⟨_, _, _, _, _, _, rfl, fun z => ?_, fun z => absurd z c1, fun z => absurd z c1⟩
      rw [Nat.add_zero]
      exact ⟨f1 z, hle⟩
theorem l127 (rk ry rn : Nat → Int32) : ∀ (k d : Nat) (kd dy nd co od wo : Nat → Int32),
    ((∀ i, i < d → kd i = rk i ∧ dy i = ry i ∧ nd i = rn i ∧ co i = 1 ∧ od i = 4) ∧ ∀ i, i < 4 * d → wo i = 0) →
    ∃ kd2 dy2 nd2 co2 od2 wo2 : Nat → Int32, s_X7_text_L127 rk ry rn k d d kd dy nd co od wo = (d + k, kd2, dy2, nd2, co2, od2, wo2) ∧ (∀ i, i < d + k → kd2 i = rk i ∧ dy2 i = ry i ∧ nd2 i = rn i ∧ co2 i = 1 ∧ od2 i = 4) ∧ ∀ i, i < 4 * (d + k) → wo2 i = 0 := by
  intro k
  induction k with
  | zero => intro d kd dy nd co od wo h; exact ⟨kd, dy, nd, co, od, wo, rfl, h.1, h.2⟩
  | succ k ih =>
    intro d kd dy nd co od wo h
    obtain ⟨kd2, dy2, nd2, co2, od2, wo2, e, h2⟩ := ih (d + 1) (upd kd d (rk d)) (upd dy d (ry d)) (upd nd d (rn d)) (upd co d 1) (upd od d 4) (s_X7_adds_L53 d 4 0 wo) ⟨fun i hi => by
      by_cases c : i = d
      · subst c
        simp only [upd_at]
        exact ⟨trivial, trivial, trivial, trivial, trivial⟩
      · simp only [upd_ne _ _ c]
        exact h.1 i (by omega), fun i hi => by
      rw [adds53]
      by_cases c : 4 * d + 0 ≤ i ∧ i < 4 * d + 0 + 4
      · rw [if_pos c]
      · rw [if_neg c]; exact h.2 i (by omega)⟩
    have ed : d + (k + 1) = d + 1 + k := by omega
    rw [ed]
    exact ⟨kd2, dy2, nd2, co2, od2, wo2, e, h2⟩
theorem fault_k : ∀ p, p < 81 → ¬ (0 : Int32) < (-20 : Int32) - nI p := by decide +kernel
theorem fault_neg {p : Nat} (h : p ≤ 80) : ¬ (0 : Int32) < (-20 : Int32) - nI p := fault_k p (by omega)
variable {n pe : Nat} {td ys la ri : Int32} {kd dy nd co od wo kd' dy' nd' co' od' wo' : Nat → Int32}
theorem rn_text (h : RN pe n td ys la ri kd dy nd co od wo kd' dy' nd' co' od' wo') (hT : TL ty le tp) (peg : Nat) (ysg tk : Int32) (kdg dyg ndg cog odg wog rk ry rn : Nat → Int32)
    {r6 : Int32 × Nat × Int32 × Int32 × Int32 × (Nat → Int32) × (Nat → Int32) × (Nat → Int32) × (Nat → Int32) × (Nat → Int32) × (Nat → Int32) × Nat × Nat × Int32 × Int32 × Int32 × Int32 × (Nat → Int32) × (Nat → Int32) × (Nat → Int32) × (Nat → Int32) × (Nat → Int32) × (Nat → Int32) × Nat × Int32 × Int32}
    {r7 : Int32 × Nat × Int32 × Int32 × Int32 × Nat × Nat × Int32 × Nat × (Nat → Int32) × (Nat → Int32) × (Nat → Int32) × (Nat → Int32) × (Nat → Int32) × (Nat → Int32) × (Nat → Int32) × (Nat → Int32) × (Nat → Int32)}
    (e6 : s_X6_text pe n td ys la ri kd dy nd co od wo peg ysg kdg dyg ndg cog odg wog ty tk le = r6) (e7 : s_X7_text n la ri td ty kd' dy' nd' co' od' wo' tp rk ry rn = r7) :
    r6.1 = r7.1 ∧ r7.2.1 = r6.2.1 ∧ r7.2.2.1 = r6.2.2.2.1 ∧ r7.2.2.2.1 = r6.2.2.2.2.1 ∧ r7.2.2.2.2.1 = r6.2.2.1 ∧ r7.2.2.2.2.2.1 = 0 ∧ r6.2.2.2.2.2.2.2.2.2.2.2.2.2.2.2.2.2.2.2.2.2.2.2.1 = 0 ∧
    RN pe r6.2.1 r6.2.2.1 ys r6.2.2.2.1 r6.2.2.2.2.1 r6.2.2.2.2.2.1 r6.2.2.2.2.2.2.1 r6.2.2.2.2.2.2.2.1 r6.2.2.2.2.2.2.2.2.1 r6.2.2.2.2.2.2.2.2.2.1 r6.2.2.2.2.2.2.2.2.2.2.1 r7.2.2.2.2.2.2.2.2.2.1 r7.2.2.2.2.2.2.2.2.2.2.1 r7.2.2.2.2.2.2.2.2.2.2.2.1 r7.2.2.2.2.2.2.2.2.2.2.2.2.1 r7.2.2.2.2.2.2.2.2.2.2.2.2.2.1 r7.2.2.2.2.2.2.2.2.2.2.2.2.2.2.1 := by
  have h80 := hT.1
  obtain ⟨ap2, wg2, rd2, rk2, ry2, rn2, e, f1, f2, f3⟩ := text_loop hT 12 0 0 0 tk kdg dyg ndg cog odg wog rk ry rn (by omega) (by omega) (by omega) ⟨fun i hi => by omega, fun i hi => by omega⟩
  unfold s_X6_text at e6
  unfold s_X7_text at e7
  rw [e] at e7
  rw [rd_is] at e6
  dsimp only at e7
  by_cases c1 : wg2 = 0
  · rw [if_pos c1] at e7
    by_cases c2 : (s_X7_here ty ap2 tp).1 = 0
    · rw [if_pos c2] at e7
      obtain ⟨g1, g2, aw3, tk3, kd3, dy3, nd3, co3, od3, wo3, g3, g4⟩ := f3 c1 c2
      rw [g3] at e6
      have hpos : (0 : Int32) < nI rd2 := (nI_ltI (a := 0) (by omega) (by omega)).mpr (by omega)
      dsimp only at e6
      rw [if_pos hpos] at e6
      obtain ⟨kd4, dy4, nd4, co4, od4, wo4, g5, g6, g7⟩ := l127 rk2 ry2 rn2 rd2 0 kd' dy' nd' co' od' wo' ⟨fun i hi => by omega, fun i hi => by omega⟩
      rw [Nat.zero_add] at g5 g6 g7
      rw [g5] at e7
      subst e6 e7
      refine ⟨rfl, rfl, rfl, rfl, rfl, rfl, rfl, h.hp, g2, isSet_0 _, isSet_0 _, h.sys, Or.inr ⟨11, by omega, rfl⟩, ?_⟩
      have A : Ag rd2 kd3 dy3 nd3 co3 od3 wo3 kd4 dy4 nd4 co4 od4 wo4 := by
        refine ⟨?_, ?_, ?_, ?_, ?_, ?_, ?_, ?_, ?_, ?_⟩ <;> intro i hi
        · rw [(g4.1 i hi).1, (g6 i hi).1]
        · rw [(g4.1 i hi).2.1, (g6 i hi).2.1]
        · rw [(g4.1 i hi).2.2.1, (g6 i hi).2.2.1]
        · rw [(g4.1 i hi).2.2.2.1, (g6 i hi).2.2.2.1]
        · rw [(g4.1 i hi).2.2.2.2.1, (g6 i hi).2.2.2.2]
        · rw [g4.2 i hi, g7 i hi]
        · exact (g4.1 i hi).2.2.2.2.2.1
        · exact (g4.1 i hi).2.2.2.2.2.2
        · exact ⟨4, by omega, (g4.1 i hi).2.2.2.2.1⟩
        · rw [g4.2 i hi]; decide
      exact A.cpy g2 kd dy nd co od wo
    · rw [if_neg c2] at e7
      obtain ⟨g1, g2⟩ := f2 c1 c2
      rw [g1, if_neg (fault_neg (by omega))] at e6
      subst e6 e7
      exact ⟨rfl, rfl, rfl, rfl, rfl, rfl, rfl, h⟩
  · rw [if_neg c1] at e7
    obtain ⟨g1, g2⟩ := f1 c1
    rw [g1, if_neg (fault_neg (by omega))] at e6
    subst e6 e7
    exact ⟨rfl, rfl, rfl, rfl, rfl, rfl, rfl, h⟩
end EQO
