section EQM
variable {ty : Nat} {le tp : Nat → Int32}
theorem upd_upd (f : Nat → Int32) (i : Nat) (v w : Int32) : upd (upd f i v) i w = upd f i w := by
  funext j
  by_cases c : j = i
  · subst c; rw [upd_at, upd_at]
  · rw [upd_ne _ _ c, upd_ne _ _ c, upd_ne _ _ c]
theorem ne_congr {f g : Nat → Int32} (t : Int32) {m : Nat} (h : ∀ i, i < m → f i = g i) : ∀ (k d : Nat) (a : Int32), d + k ≤ m → s_X5_needable_L5 f t k d a = s_X7_ahead_L5 g t k d a := by
  intro k
  induction k with
  | zero => intro d a _; rfl
  | succ k ih =>
    intro d a hd
    unfold s_X5_needable_L5 s_X7_ahead_L5
    rw [← h d (by omega), Int32.or_zero]
    split
    · exact ih (d + 1) _ (by omega)
    · exact ih (d + 1) _ (by omega)
theorem need_ok {rd c F N : Nat} (h1 : 97 ≤ c) (h2 : c ≤ 108) (hrd : rd < 12) {dy nd : Nat → Int32} (hF : s_X5_needable dy rd (dy rd) = nI F) (hF2 : F < 2 ^ rd) (hN : nd rd = nI N) (hN2 : N < 4096) :
    ((F.testBit (c - 97) = true ∧ N.testBit (c - 97) = false) → s_X3_takesNeed (rd + 1) dy nd (nI c) = (1, upd nd rd (nI N ||| ((1 : Int32) <<< (nI (c - 97) &&& 31))))) ∧ (¬ (F.testBit (c - 97) = true ∧ N.testBit (c - 97) = false) → (s_X3_takesNeed (rd + 1) dy nd (nI c)).1 = 0) := by
  have hp := pw_le (n := rd) (by omega)
  have e1 : nI c - 97 = nI (c - 97) := pk_sub (a := c) (b := 97) (by omega)
  have e2 : nI (rd + 1) - 1 = nI rd := dm_pred rd
  have e3 : s_X5_has (rd + 1) (nI rd) = 1 := by
    unfold s_X5_has
    rw [if_neg (nI_pos (by omega)), if_pos ((nI_ltI (by omega) (by omega)).mpr (by omega))]
  have e4 : rd + 1 - 1 = rd := by omega
  have hx : F ^^^ (F &&& N) < 4096 := by
    have h3 : F &&& N ≤ F := Nat.and_le_left
    exact Nat.xor_lt_two_pow (n := 12) (by omega) (by omega)
  unfold s_X3_takesNeed
  rw [e1, e2, e3, if_neg (show ¬ ((1 : Int32) = 0) from by decide), e4, hF, hN, andnot_nI]
  have hb := bit_0 (j := F ^^^ (F &&& N)) (e := c - 97) (by omega) (by omega)
  rw [Nat.testBit_xor, Nat.testBit_and] at hb
  simp only [isIn_0, hb]
  by_cases c1 : c - 97 < rd + 1
  · have e5 : ¬ s_X5_has (rd + 1) (nI (c - 97)) = 0 := by
      unfold s_X5_has
      rw [if_neg (nI_pos (by omega)), if_pos ((nI_ltI (by omega) (by omega)).mpr c1)]
      decide
    rw [if_neg e5]
    cases hf : F.testBit (c - 97) <;> cases hn : N.testBit (c - 97)
    · exact ⟨fun z => absurd z.1 (by decide), fun _ => by rw [if_pos (by decide)]⟩
    · exact ⟨fun z => absurd z.1 (by decide), fun _ => by rw [if_pos (by decide)]⟩
    · exact ⟨fun _ => by rw [if_neg (by decide)], fun z => absurd ⟨rfl, rfl⟩ z⟩
    · exact ⟨fun z => absurd z.2 (by decide), fun _ => by rw [if_pos (by decide)]⟩
  · have e5 : s_X5_has (rd + 1) (nI (c - 97)) = 0 := by
      unfold s_X5_has
      rw [if_neg (nI_pos (by omega)), if_neg (fun z => c1 ((nI_ltI (by omega) (by omega)).mp z))]
    rw [if_pos e5]
    exact ⟨fun z => absurd (lt_bit hF2 z.1) (by omega), fun _ => rfl⟩
theorem l173_0 (ap rd : Nat) (ry : Nat → Int32) (k : Nat) (need : Int32) (a : Nat) (w : Int32) : s_X7_readDeed_L173 ty ap rd tp ry k need 0 a w = (need, 0, a, w) := by
  cases k with
  | zero => rfl
  | succ k => rw [s_X7_readDeed_L173, if_pos (show nI 0 = (0 : Int32) from rfl)]
theorem in_letter {c : Nat} (h2 : c ≤ 126) (h : ¬ s_X7_in (nI c).toInt64 97 108 = 0) : 97 ≤ c ∧ c ≤ 108 := by
  rw [in32c (nI c) 97 108 (by decide) (by decide)] at h
  by_cases c1 : nI c < (97 : Int32)
  · rw [if_pos c1] at h; exact absurd rfl h
  · rw [if_neg c1] at h
    by_cases c2 : (108 : Int32) < nI c
    · rw [if_pos c2] at h; exact absurd rfl h
    · have h3 : ¬ c < 97 := fun z => c1 ((nI_ltI (b := 97) (by omega) (by omega)).mpr z)
      have h4 : ¬ 108 < c := fun z => c2 ((nI_ltI (a := 108) (by omega) (by omega)).mpr z)
      omega
theorem need_loop (hT : TL ty le tp) {ap rd F : Nat} (hrd : rd < 12) {ry kd dy nd co od wo : Nat → Int32} (tk : Int32)
    (hW : s_X7_ahead ry rd (((s_X7_here ty (((s_X7_here ty ap tp).2) + 1) tp).1) - (65 : Int32)) = nI F) (hF2 : F < 2 ^ rd) (hF : s_X5_needable dy rd (dy rd) = nI F) :
    ∀ (k N ap2 : Nat), N < 4096 → ap2 ≤ ty → ty ≤ ap2 + k → ¬ s_X7_in (s_X7_here ty ap2 tp).1.toInt64 97 108 = 0 →
    ∃ (N2 more2 ap3 : Nat) (wg2 : Int32), s_X7_readDeed_L173 ty ap rd tp ry k (nI N) 1 ap2 0 = (nI N2, more2, ap3, wg2) ∧ N2 < 4096 ∧ ap3 ≤ ty ∧
      (¬ wg2 = 0 → (rdA ty le ap2 2 tk (rd + 1) kd dy (upd nd rd (nI N)) co od wo).1 = (-20 : Int32) - nI ap3) ∧
      (wg2 = 0 → rdA ty le ap2 2 tk (rd + 1) kd dy (upd nd rd (nI N)) co od wo = rdA ty le ap3 2 tk (rd + 1) kd dy (upd nd rd (nI N2)) co od wo ∧ s_X7_in (s_X7_here ty ap3 tp).1.toInt64 97 108 = 0) := by
  have h80 := hT.1
  intro k
  induction k with
  | zero =>
    intro N ap2 hN h1 h2 h3
    obtain ⟨-, q, r⟩ := here_at hT h1 2 tk (rd + 1) kd dy nd co od wo
    rcases r with ⟨r1, r2⟩ | ⟨r1, -⟩
    · rw [r2] at h3; exact absurd (by decide) h3
    · omega
  | succ k ih =>
    intro N ap2 hN h1 h2 h3
    obtain ⟨q0, q, r⟩ := here_at hT h1 2 tk (rd + 1) kd dy (upd nd rd (nI N)) co od wo
    rcases r with ⟨r1, r2⟩ | ⟨r1, r2, r3, c, hc1, hc2, r4⟩
    · rw [r2] at h3; exact absurd (by decide) h3
    · rw [r4] at h3
      have hc := in_letter hc2 h3
      have e1 : nI c - 97 = nI (c - 97) := pk_sub (a := c) (b := 97) (by omega)
      have hp := pw_le (n := rd) (by omega)
      have ok := need_ok hc.1 hc.2 hrd (dy := dy) (nd := upd nd rd (nI N)) hF hF2 (upd_at _ _ _) hN
      have hl : le (s_X7_here ty ap2 tp).2 = nI c := by rw [← r2, r4]
      have st := rd_need (ty := ty) (le := le) r1 r3 (by rw [hl]; exact fun z => absurd ((nI_eq (b := 44) (by omega) (by omega)).mp z) (by omega)) tk (rd + 1) kd dy (upd nd rd (nI N)) co od wo
      rw [hl] at st
      rw [s_X7_readDeed_L173, if_neg (show ¬ (nI 1 = (0 : Int32)) from by decide), hW, r4, e1, q0]
      have hw : N ||| 2 ^ (c - 97) < 4096 := Nat.or_lt_two_pow (n := 12) (by omega) (by have := pow12 (d := c - 97) (by omega); omega)
      have eor : nI N ||| ((1 : Int32) <<< (nI (c - 97) &&& 31)) = nI (N ||| 2 ^ (c - 97)) := by rw [sh1 _ (by omega), or_nI]
      rw [eor]
      by_cases c1 : F.testBit (c - 97) = false
      · rw [if_pos ((bit_0 (by omega) (by omega)).mpr c1), l173_0]
        refine ⟨_, _, _, _, rfl, hw, by omega, fun _ => ?_, fun z => absurd z (by decide)⟩
        rw [Nat.add_zero]
        exact st.1 (ok.2 (fun z => by rw [c1] at z; exact absurd z.1 (by decide)))
      · rw [if_neg (fun z => c1 ((bit_0 (by omega) (by omega)).mp z))]
        by_cases c2 : N.testBit (c - 97) = false
        · rw [if_neg (fun z => (b01' _).mp z ((bit_0 (by omega) (by omega)).mpr c2))]
          have c1' : F.testBit (c - 97) = true := by
            cases hb : F.testBit (c - 97) with
            | true => rfl
            | false => exact absurd hb c1
          have tn := ok.1 ⟨c1', c2⟩
          have st2 := st.2 (by rw [tn]; exact (show ¬ ((1 : Int32) = 0) from by decide))
          rw [tn] at st2
          dsimp only at st2
          rw [upd_upd, eor] at st2
          obtain ⟨w0, w, -⟩ := here_at hT (p := (s_X7_here ty ap2 tp).2 + 1) (by omega) 2 tk (rd + 1) kd dy (upd nd rd (nI (N ||| 2 ^ (c - 97)))) co od wo
          have hle : (s_X7_here ty ((s_X7_here ty ap2 tp).2 + 1) tp).2 ≤ ty := here_le (by omega)
          have hid := here_idem (tp := tp) (ty := ty) (ap := (s_X7_here ty ap2 tp).2 + 1) (by omega)
          rw [st2, w0]
          by_cases c3 : s_X7_in (s_X7_here ty ((s_X7_here ty ap2 tp).2 + 1) tp).1.toInt64 97 108 = 0
          · rw [if_pos c3, l173_0]
            exact ⟨_, _, _, _, rfl, hw, hle, fun z => absurd rfl z, fun _ => ⟨rfl, by rw [hid]; exact c3⟩⟩
          · rw [if_neg c3]
            exact ih (N ||| 2 ^ (c - 97)) _ hw hle (by omega) (by rw [hid]; exact c3)
        · rw [if_pos ((b01' _).mpr (fun z => c2 ((bit_0 (by omega) (by omega)).mp z))), l173_0]
          refine ⟨_, _, _, _, rfl, hw, by omega, fun _ => ?_, fun z => absurd z (by decide)⟩
          rw [Nat.add_zero]
          exact st.1 (ok.2 (fun z => c2 z.2))
/-- what is read so far, in both -/
def TI (n : Nat) (kd dy nd co od wo rk ry rn : Nat → Int32) : Prop := (∀ i, i < n → kd i = rk i ∧ dy i = ry i ∧ nd i = rn i ∧ co i = 1 ∧ od i = 4 ∧ (kd i = 0 ∨ kd i = 1 ∨ kd i = 2 ∨ kd i = 3) ∧ ∃ d : Nat, d < 12 ∧ dy i = nI d) ∧ ∀ i, i < 4 * n → wo i = 0
theorem TI.add {n : Nat} {kd dy nd co od wo rk ry rn : Nat → Int32} (h : TI n kd dy nd co od wo rk ry rn) {q d x : Int32} (hq : q = 0 ∨ q = 1 ∨ q = 2 ∨ q = 3) (hd : ∃ y : Nat, y < 12 ∧ d = nI y) : TI (n + 1) (upd kd n q) (upd dy n d) (upd nd n x) (upd co n 1) (upd od n 4) (s_X5_add_L64 n 4 0 wo) (upd rk n q) (upd ry n d) (upd rn n x) := by
  refine ⟨fun i hi => ?_, fun i hi => ?_⟩
  · by_cases c : i = n
    · subst c
      simp only [upd_at]
      exact ⟨trivial, trivial, trivial, trivial, trivial, hq, hd⟩
    · simp only [upd_ne _ _ c]
      exact h.1 i (by omega)
  · rw [add64]
    by_cases c : n * 4 + 0 ≤ i ∧ i < n * 4 + 0 + 4
    · rw [if_pos c]
    · rw [if_neg c]; exact h.2 i (by omega)
theorem isDay_in (x : Int32) : s_X7_in x.toInt64 0 11 = s_X6_isDay x := eq_isDay x
theorem readDeed_eq (hT : TL ty le tp) {ap rd : Nat} (hap : ap ≤ ty) (hrd : rd < 12) {kd dy nd co od wo rk ry rn : Nat → Int32} (hI : TI rd kd dy nd co od wo rk ry rn) (tk : Int32) :
    ∃ (ap2 : Nat) (wg2 : Int32) (rk2 ry2 rn2 : Nat → Int32), s_X7_readDeed ty ap rd tp rk ry rn = (ap2, wg2, rd + 1, rk2, ry2, rn2) ∧ ap2 ≤ ty ∧
      (¬ wg2 = 0 → (rdA ty le ap 0 tk rd kd dy nd co od wo).1 = (-20 : Int32) - nI ap2) ∧
      (wg2 = 0 → ∃ (tk2 : Int32) (kd2 dy2 nd2 co2 od2 wo2 : Nat → Int32), rdA ty le ap 0 tk rd kd dy nd co od wo = rdA ty le ap2 2 tk2 (rd + 1) kd2 dy2 nd2 co2 od2 wo2 ∧ TI (rd + 1) kd2 dy2 nd2 co2 od2 wo2 rk2 ry2 rn2 ∧ s_X7_in (s_X7_here ty ap2 tp).1.toInt64 97 108 = 0) := by
  have h80 := hT.1
  obtain ⟨a0, a1, a2⟩ := here_at hT hap 0 tk rd kd dy nd co od wo
  have hle1 : (s_X7_here ty ap tp).2 ≤ ty := here_le hap
  have em : s_X7_readDeed_m47_0 ty ap tp = kindOf (s_X7_here ty ap tp).1 := rfl
  unfold s_X7_readDeed
  rw [em, a0]
  by_cases k1 : kindOf (s_X7_here ty ap tp).1 < 0
  · rw [if_pos k1]
    have hfix : (s_X7_here ty ((s_X7_here ty ap tp).2 + 0) tp).2 = (s_X7_here ty ap tp).2 := here_fix hT hle1 (by
      rcases a2 with ⟨r1, -⟩ | ⟨-, -, r3, -⟩
      · exact Or.inl r1
      · exact Or.inr r3)
    refine ⟨_, _, _, _, _, rfl, by rw [hfix]; exact hle1, fun _ => ?_, fun z => absurd z (by decide)⟩
    rw [Nat.add_zero, hfix]
    rcases a2 with ⟨r1, -⟩ | ⟨r1, r2, r3, -⟩
    · rw [rd_stop r1, r1]
      rfl
    · rw [r2] at k1
      exact (rd_kind r1 r3 tk rd kd dy nd co od wo).1 k1
  · rw [if_neg k1]
    rcases a2 with ⟨-, r2⟩ | ⟨r1, r2, r3, -⟩
    · rw [r2] at k1; exact absurd (by decide) k1
    · have hk := k1
      rw [r2] at hk
      obtain ⟨b0, b1⟩ := (rd_kind r1 r3 tk rd kd dy nd co od wo).2 hk
      rw [← r2] at b0 b1
      rw [b0]
      generalize kindOf (s_X7_here ty ap tp).1 = Q at b1
      obtain ⟨d0, d1, d2⟩ := here_at hT (p := (s_X7_here ty ap tp).2 + 1) (by omega) 1 Q rd kd dy nd co od wo
      have hle2 : (s_X7_here ty ((s_X7_here ty ap tp).2 + 1) tp).2 ≤ ty := here_le (by omega)
      rw [d0]
      by_cases k2 : s_X7_in ((s_X7_here ty ((s_X7_here ty ap tp).2 + 1) tp).1 - 65).toInt64 0 11 = 0
      · rw [if_pos k2]
        refine ⟨_, _, _, _, _, rfl, by rw [Nat.add_zero]; exact hle2, fun _ => ?_, fun z => absurd z (by decide)⟩
        rw [Nat.add_zero]
        rcases d2 with ⟨s1, -⟩ | ⟨s1, s2, s3, -⟩
        · rw [rd_stop s1, s1]
          rfl
        · rw [isDay_in, s2] at k2
          exact (rd_day s1 s3 Q hrd kd dy nd co od wo).1 k2
      · rw [if_neg k2]
        rcases d2 with ⟨-, s2⟩ | ⟨s1, s2, s3, -⟩
        · rw [s2] at k2; exact absurd (by decide) k2
        · have k3 := k2
          rw [isDay_in, s2] at k3
          have e0 := (rd_day s1 s3 Q hrd kd dy nd co od wo).2 k3
          have hday := day12 k3
          rw [← s2] at e0 hday
          obtain ⟨f0, f1, f2⟩ := here_at hT (p := (s_X7_here ty ((s_X7_here ty ap tp).2 + 1) tp).2 + 1) (by omega) 2 Q (rd + 1) (upd kd rd Q) (upd dy rd ((s_X7_here ty ((s_X7_here ty ap tp).2 + 1) tp).1 - 65)) (upd nd rd 0) (upd co rd 1) (upd od rd 4) (s_X5_add_L64 rd 4 0 wo)
          have hle3 : (s_X7_here ty ((s_X7_here ty ((s_X7_here ty ap tp).2 + 1) tp).2 + 1) tp).2 ≤ ty := here_le (by omega)
          have hid := here_idem (tp := tp) (ty := ty) (ap := (s_X7_here ty ((s_X7_here ty ap tp).2 + 1) tp).2 + 1) (by omega)
          rw [e0, f0]
          by_cases k4 : s_X7_in (s_X7_here ty ((s_X7_here ty ((s_X7_here ty ap tp).2 + 1) tp).2 + 1) tp).1.toInt64 97 108 = 0
          · rw [if_pos k4]
            exact ⟨_, _, _, _, _, rfl, hle3, fun z => absurd rfl z, fun _ => ⟨_, _, _, _, _, _, _, rfl, hI.add b1 hday, by rw [hid]; exact k4⟩⟩
          · rw [if_neg k4]
            obtain ⟨F, hF, hF2⟩ := isSet_needable (n := rd) (number := rd) (by omega) (Nat.le_refl _) (upd dy rd ((s_X7_here ty ((s_X7_here ty ap tp).2 + 1) tp).1 - 65)) ((s_X7_here ty ((s_X7_here ty ap tp).2 + 1) tp).1 - 65)
            have hW : s_X7_ahead ry rd (((s_X7_here ty (((s_X7_here ty ap tp).2) + 1) tp).1) - (65 : Int32)) = nI F := by
              rw [← hF]
              exact (ne_congr _ (m := rd) (fun i hi => by rw [upd_ne _ _ (by omega)]; exact (hI.1 i hi).2.1) rd 0 0 (by omega)).symm
            have nl := need_loop hT hrd (ry := ry) (kd := upd kd rd Q) (dy := upd dy rd ((s_X7_here ty ((s_X7_here ty ap tp).2 + 1) tp).1 - 65)) (nd := nd) (co := upd co rd 1) (od := upd od rd 4) (wo := s_X5_add_L64 rd 4 0 wo) Q hW hF2 (by rw [upd_at]; exact hF) (ty - (s_X7_here ty ((s_X7_here ty ((s_X7_here ty ap tp).2 + 1) tp).2 + 1) tp).2) 0 (s_X7_here ty ((s_X7_here ty ((s_X7_here ty ap tp).2 + 1) tp).2 + 1) tp).2 (by omega) hle3 (by omega) (by rw [hid]; exact k4)
            obtain ⟨N2, more2, ap3, wg2, g1, g2, g3, g4, g5⟩ := nl
            have g1' : s_X7_readDeed_L173 ty ap rd tp ry (ty - (s_X7_here ty ((s_X7_here ty ((s_X7_here ty ap tp).2 + 1) tp).2 + 1) tp).2) 0 1 (s_X7_here ty ((s_X7_here ty ((s_X7_here ty ap tp).2 + 1) tp).2 + 1) tp).2 0 = (nI N2, more2, ap3, wg2) := g1
            rw [g1']
            refine ⟨ap3, wg2, _, _, _, rfl, g3, g4, fun z => ?_⟩
            obtain ⟨w1, w2⟩ := g5 z
            exact ⟨Q, _, _, _, _, _, _, w1, hI.add b1 hday, w2⟩
end EQM
