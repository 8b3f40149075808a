section EQW2
variable {n pe : Nat} {la : Int32} {kd dy nd co od wo kd' dy' nd' co' od' wo' : Nat → Int32}
/-- from a level's beginning to its end -/
def plGo (pe n : Nat) (la : Int32) (kd dy nd co wo kd' dy' nd' co' wo' : Nat → Int32) (itself : Int32) (l j : Nat) : Prop :=
  ∀ (won : Int32) (sm : Int32) (vs ch tr en : Nat → Int32), isSet n (ch l) → ∃ (m : Nat) (SM : Int32) (VS CH TR EN : Nat → Int32),
    (∀ i, i ≤ l → CH i = ch i) ∧ (∀ i, i < l → TR i = tr i) ∧ (∀ i, i < l → EN i = en i) ∧
    ∀ k : Nat, s_X7_playsF_L25 pe n la kd' dy' nd' co' wo' itself (m + k) (nI l) won 1 sm vs ch tr en = s_X7_playsF_L25 pe n la kd' dy' nd' co' wo' itself k (nI l + (-1)) (s_X4_play pe n la kd dy nd co wo (s_X5_standing n la kd nd 0) itself j (ch l)) 0 SM VS CH TR EN
/-- back at a level -/
theorem pl_back (A : Ag n kd dy nd co od wo kd' dy' nd' co' od' wo') (hn : n ≤ 12) (hp : 1 ≤ pe ∧ pe ≤ 4) (itself : Int32) {l j : Nat} (hl : l + j = 11) (ih : plGo pe n la kd dy nd co wo kd' dy' nd' co' wo' itself (l + 1) j) :
    ∀ (K q : Nat), q + K = n → ∀ (won : Int32) (sm : Int32) (vs ch tr en : Nat → Int32), isSet n (ch l) → tr l + 1 = nI q → (en l < 0 ∨ isSet n (en l)) → isSet n won →
    ∃ (m : Nat) (SM : Int32) (VS CH TR EN : Nat → Int32),
    (∀ i, i ≤ l → CH i = ch i) ∧ (∀ i, i < l → TR i = tr i) ∧ (∀ i, i < l → EN i = en i) ∧
    ∀ k : Nat, s_X7_playsF_L25 pe n la kd' dy' nd' co' wo' itself (m + k) (nI l) won 0 sm vs ch tr en = s_X7_playsF_L25 pe n la kd' dy' nd' co' wo' itself k (nI l + (-1))
      (pscan (fun x => s_X5_valueBy pe n la kd nd co wo ((11 - l) % pe) x) (fun x => s_X4_play pe n la kd dy nd co wo (s_X5_standing n la kd nd 0) itself j x) (if nI ((11 - l) % pe) = itself then 0 else s_X5_ofDay n dy (nI (11 - l)) &&& s_X5_standing n la kd nd 0) (ch l) K q
        (if en l < 0 then won else if s_X5_valueBy pe n la kd nd co wo ((11 - l) % pe) (en l) < s_X5_valueBy pe n la kd nd co wo ((11 - l) % pe) won then won else en l)) 0 SM VS CH TR EN := by
  intro K
  induction K using Nat.strongRecOn with
  | ind K ihK =>
    intro q hq won sm vs ch tr en hch htr hen hwon
    obtain ⟨SM, VS, hstep⟩ := pl_mid (pe := pe) (n := n) (la := la) (kd' := kd') (dy' := dy') (nd' := nd') (co' := co') (wo' := wo') (l := l) (by omega) itself won 0 sm vs ch tr en
    have hup := pl_up A hp (l := l) (la := la) (by omega) won vs tr en
    rw [hup.1, hup.2] at hstep
    have hmay := pl_may A (pe := pe) (la := la) (l := l) (by omega) itself
    obtain ⟨q2, a1, a2, a3, a4, a5, a6⟩ := pl_181 (pe := pe) (n := n) (la := la) kd' dy' nd' (l := l) hn (by omega) itself n q (upd tr l (tr l + 1)) (by rw [upd_at]; exact htr) (by omega) (by omega)
    rw [hmay] at a5 a6
    have hskip := pscan_skip (fun x => s_X5_valueBy pe n la kd nd co wo ((11 - l) % pe) x) (fun x => s_X4_play pe n la kd dy nd co wo (s_X5_standing n la kd nd 0) itself j x) (if nI ((11 - l) % pe) = itself then 0 else s_X5_ofDay n dy (nI (11 - l)) &&& s_X5_standing n la kd nd 0) (ch l) (n := n) (q2 - q) q
    have eK : K = n - q := by omega
    have eq2 : q + (q2 - q) = q2 := by omega
    rw [eq2] at hskip
    have hskip := fun b => hskip b a2 a5
    have hbest : isSet n (if en l < 0 then won else if s_X5_valueBy pe n la kd nd co wo ((11 - l) % pe) (en l) < s_X5_valueBy pe n la kd nd co wo ((11 - l) % pe) won then won else en l) := by
      split
      · exact hwon
      · rename_i c
        split
        · exact hwon
        · exact hen.resolve_left c
    generalize (if en l < 0 then won else if s_X5_valueBy pe n la kd nd co wo ((11 - l) % pe) (en l) < s_X5_valueBy pe n la kd nd co wo ((11 - l) % pe) won then won else en l) = best at hstep hbest ⊢
    generalize s_X7_playsF_L181 pe n la kd' dy' nd' itself (nI l) n (upd tr l (tr l + 1)) = TR at hstep a3 a4
    rw [a3] at hstep
    by_cases c : q2 < n
    · have hlt : nI q2 < nI n := (nI_ltI (by omega) (by omega)).mpr c
      have e294 : s_X7_playsF_m294_0 (nI l) TR = (1 : Int32) <<< (nI q2 &&& 31) := by
        unfold s_X7_playsF_m294_0
        rw [nI_clamp (by omega), a3, if_neg (nI_pos (by omega))]
      rw [e294] at hstep
      have hch2 : isSet n (upd ch (l + 1) (ch l ||| ((1 : Int32) <<< (nI q2 &&& 31))) (l + 1)) := by rw [upd_at]; exact isSet_or hn c hch
      obtain ⟨m2, SM2, VS2, CH2, TR2, EN2, b1, b2, b3, b4⟩ := ih won SM VS (upd ch (l + 1) (ch l ||| ((1 : Int32) <<< (nI q2 &&& 31)))) TR (upd en l best) hch2
      rw [upd_at] at b4
      have f1 : CH2 l = ch l := by rw [b1 l (by omega), upd_ne _ _ (by omega)]
      have f2 : TR2 l + 1 = nI (q2 + 1) := by rw [b2 l (by omega), a3, nI_1]
      have f3 : EN2 l = best := by rw [b3 l (by omega), upd_at]
      have hw2 := play_set (pe := pe) (la := la) (kd := kd) (dy := dy) (nd := nd) (co := co) (wo := wo) hn (s_X5_standing n la kd nd 0) itself j _ (isSet_or hn c hch)
      have hneg : ¬ best < 0 := (isSet_nn hn hbest).1
      obtain ⟨m3, SM3, VS3, CH3, TR3, EN3, c1, c2, c3, c4⟩ := ihK (n - (q2 + 1)) (by omega) (q2 + 1) (by omega) (s_X4_play pe n la kd dy nd co wo (s_X5_standing n la kd nd 0) itself j (ch l ||| ((1 : Int32) <<< (nI q2 &&& 31)))) SM2 VS2 CH2 TR2 EN2 (by rw [f1]; exact hch) f2 (by rw [f3]; exact Or.inr hbest) hw2
      refine ⟨(m2 + m3) + 1, SM3, VS3, CH3, TR3, EN3, fun i hi => ?_, fun i hi => ?_, fun i hi => ?_, fun k => ?_⟩
      · rw [c1 i hi, b1 i (by omega), upd_ne _ _ (by omega)]
      · rw [c2 i hi, b2 i (by omega), a4 i (by omega), upd_ne _ _ (by omega)]
      · rw [c3 i hi, b3 i (by omega), upd_ne _ _ (by omega)]
      · rw [show m2 + m3 + 1 + k = (m2 + (m3 + k)) + 1 from by omega, hstep, if_pos hlt, nI_1, b4, pk_m1, c4, f1, f3, if_neg hneg, eK, hskip]
        obtain ⟨k2, hk2⟩ : ∃ k2, n - q2 = k2 + 1 := ⟨n - q2 - 1, by omega⟩
        have hk3 : n - (q2 + 1) = k2 := by omega
        rw [hk2, pscan, if_neg (a6 c), hk3]
        by_cases cv : s_X5_valueBy pe n la kd nd co wo ((11 - l) % pe) best < s_X5_valueBy pe n la kd nd co wo ((11 - l) % pe) (s_X4_play pe n la kd dy nd co wo (s_X5_standing n la kd nd 0) itself j (ch l ||| ((1 : Int32) <<< (nI q2 &&& 31))))
        · rw [if_pos cv, if_pos cv]
        · rw [if_neg cv, if_neg cv]
    · have e2 : q2 = n := by omega
      have hlt : ¬ nI q2 < nI n := fun z => c ((nI_ltI (by omega) (by omega)).mp z)
      refine ⟨1, SM, VS, ch, TR, upd en l best, fun _ _ => rfl, fun i hi => ?_, fun i hi => ?_, fun k => ?_⟩
      · rw [a4 i (by omega), upd_ne _ _ (by omega)]
      · rw [upd_ne _ _ (by omega)]
      · rw [show 1 + k = k + 1 from by omega, hstep, if_neg hlt, upd_at, eK, hskip, e2, Nat.sub_self]
        rfl
theorem pl_go (A : Ag n kd dy nd co od wo kd' dy' nd' co' od' wo') (hn : n ≤ 12) (hp : 1 ≤ pe ∧ pe ≤ 4) (itself : Int32) : ∀ (j l : Nat), l + j = 12 → plGo pe n la kd dy nd co wo kd' dy' nd' co' wo' itself l j := by
  intro j
  induction j with
  | zero =>
    intro l hl won sm vs ch tr en hch
    have e : l = 12 := by omega
    subst e
    refine ⟨1, sm, vs, ch, tr, en, fun _ _ => rfl, fun _ _ => rfl, fun _ _ => rfl, fun k => ?_⟩
    rw [show 1 + k = k + 1 from by omega]
    exact pl_end itself won 1 sm vs ch tr en k
  | succ j ih =>
    intro l hl won sm vs ch tr en hch
    have ih := ih (l + 1) (by omega)
    obtain ⟨SM, VS, hstep⟩ := pl_mid (pe := pe) (n := n) (la := la) (kd' := kd') (dy' := dy') (nd' := nd') (co' := co') (wo' := wo') (l := l) (by omega) itself won 1 sm vs ch tr en
    have hdn := pl_dn (pe := pe) (n := n) (la := la) (kd' := kd') (nd' := nd') (co' := co') (wo' := wo') (l := l) (by omega) won vs tr en
    rw [hdn.1, hdn.2] at hstep
    have hc : (nI l).toNatClampNeg = l := nI_clamp (by omega)
    have e181 : ∀ k, s_X7_playsF_L181 pe n la kd' dy' nd' itself (nI l) k (upd tr l (-1)) = upd tr l (-1) := by
      intro k
      cases k with
      | zero => rfl
      | succ k => rw [s_X7_playsF_L181, hc, upd_at, if_pos (by decide)]
    rw [e181] at hstep
    have e294 : s_X7_playsF_m294_0 (nI l) (upd tr l (-1)) = 0 := by
      unfold s_X7_playsF_m294_0
      rw [hc, upd_at, if_pos (by decide)]
    have hlt : (-1 : Int32) < nI n := by
      apply Int32.lt_iff_toInt_lt.mpr
      rw [nI_toInt (by omega)]
      have e1 : (-1 : Int32).toInt = -1 := by decide
      omega
    rw [e294, upd_at] at hstep
    simp only [hlt, if_true, Int32.or_zero] at hstep
    obtain ⟨m2, SM2, VS2, CH2, TR2, EN2, b1, b2, b3, b4⟩ := ih won SM VS (upd ch (l + 1) (ch l)) (upd tr l (-1)) (upd en l (-1)) (by rw [upd_at]; exact hch)
    rw [upd_at] at b4
    have f1 : CH2 l = ch l := by rw [b1 l (by omega), upd_ne _ _ (by omega)]
    have f2 : TR2 l + 1 = nI 0 := by rw [b2 l (by omega), upd_at]; decide
    have f3 : EN2 l = -1 := by rw [b3 l (by omega), upd_at]
    have hw2 := play_set (pe := pe) (la := la) (kd := kd) (dy := dy) (nd := nd) (co := co) (wo := wo) hn (s_X5_standing n la kd nd 0) itself j _ hch
    obtain ⟨m3, SM3, VS3, CH3, TR3, EN3, c1, c2, c3, c4⟩ := pl_back A hn hp itself (l := l) (j := j) (by omega) ih n 0 (by omega) (s_X4_play pe n la kd dy nd co wo (s_X5_standing n la kd nd 0) itself j (ch l)) SM2 VS2 CH2 TR2 EN2 (by rw [f1]; exact hch) f2 (by rw [f3]; exact Or.inl (by decide)) hw2
    refine ⟨(m2 + m3) + 1, SM3, VS3, CH3, TR3, EN3, fun i hi => ?_, fun i hi => ?_, fun i hi => ?_, fun k => ?_⟩
    · rw [c1 i hi, b1 i (by omega), upd_ne _ _ (by omega)]
    · rw [c2 i hi, b2 i (by omega), upd_ne _ _ (by omega)]
    · rw [c3 i hi, b3 i (by omega), upd_ne _ _ (by omega)]
    · rw [show m2 + m3 + 1 + k = (m2 + (m3 + k)) + 1 from by omega, hstep, nI_1, b4, pk_m1, c4, f1, f3, if_pos (show (-1 : Int32) < 0 from by decide)]
      have ej : 11 - l = j := by omega
      rw [ej, ← play_scan]
      rfl
/-- what plays comes to -/
theorem pl_all (A : Ag n kd dy nd co od wo kd' dy' nd' co' od' wo') (hn : n ≤ 12) (hp : 1 ≤ pe ∧ pe ≤ 4) (itself : Int32) (sm : Int32) (vs ch tr en : Nat → Int32) : ∃ (m : Nat), (s_X7_playsF pe n la sm kd' dy' nd' co' wo' vs ch tr en itself m).1 = s_X4_selfish pe n la kd dy nd co wo itself ∧ (s_X7_playsF pe n la sm kd' dy' nd' co' wo' vs ch tr en itself m).2.2.2.2.2.2 = 1 := by
  obtain ⟨m, SM, VS, CH, TR, EN, -, -, -, h⟩ := pl_go A hn hp (la := la) itself 12 0 (by omega) 0 sm vs (upd ch 0 0) tr en (by rw [upd_at]; exact isSet_0 n)
  have h1 := h 1
  rw [upd_at] at h1
  refine ⟨m + 1, ?_, ?_⟩
  · unfold s_X7_playsF
    have e : (0 : Int32) = nI 0 := rfl
    rw [show s_X7_playsF_L25 pe n la kd' dy' nd' co' wo' itself (m + 1) 0 0 1 sm vs (upd ch 0 0) tr en = _ from h1]
    rfl
  · unfold s_X7_playsF
    rw [show s_X7_playsF_L25 pe n la kd' dy' nd' co' wo' itself (m + 1) 0 0 1 sm vs (upd ch 0 0) tr en = _ from h1]
    rfl
end EQW2
