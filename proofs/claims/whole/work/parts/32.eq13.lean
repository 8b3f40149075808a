section EQV
variable {n pe : Nat} {la : Int32} {kd dy nd co od wo kd' dy' nd' co' od' wo' : Nat → Int32}
/-- the choice of the one whose day it is, out of a set: one behind the other -/
def pscan (V : Int32 → Int32) (P : Int32 → Int32) (may r : Int32) : Nat → Nat → Int32 → Int32
  | 0, _, b => b
  | k + 1, e, b => if (may >>> (nI e &&& 31)) &&& (1 : Int32) = 0 then pscan V P may r k (e + 1) b else if V b < V (P (r ||| ((1 : Int32) <<< (nI e &&& 31)))) then pscan V P may r k (e + 1) (P (r ||| ((1 : Int32) <<< (nI e &&& 31)))) else pscan V P may r k (e + 1) b
theorem pscan_0 (V P : Int32 → Int32) (r : Int32) : ∀ (k e : Nat) (b : Int32), pscan V P 0 r k e b = b := by
  intro k
  induction k with
  | zero => intro e b; rfl
  | succ k ih =>
    intro e b
    unfold pscan
    rw [show (0 : Int32) >>> (nI e &&& 31) = 0 from Int32.zero_shiftRight, if_pos (by decide)]
    exact ih _ _
theorem pscan_skip (V P : Int32 → Int32) (may r : Int32) {n : Nat} : ∀ (j q : Nat) (b : Int32), q + j ≤ n → (∀ e, q ≤ e → e < q + j → (may >>> (nI e &&& 31)) &&& (1 : Int32) = 0) → pscan V P may r (n - q) q b = pscan V P may r (n - (q + j)) (q + j) b := by
  intro j
  induction j with
  | zero => intro q b _ _; rfl
  | succ j ih =>
    intro q b h hz
    obtain ⟨k, hk⟩ : ∃ k, n - q = k + 1 := ⟨n - q - 1, by omega⟩
    have e1 : k = n - (q + 1) := by omega
    rw [hk, pscan, if_pos (hz q (Nat.le_refl _) (by omega)), e1, ih (q + 1) b (by omega) (fun e h1 h2 => hz e (by omega) (by omega)), show q + 1 + j = q + (j + 1) from by omega]
theorem pscan_63 (day : Nat) (r opn : Int32) (P : Int32 → Int32) : ∀ (k e : Nat) (b : Int32), (s_X4_play_step_L63 pe n la kd dy nd co wo day r opn P k e (s_X5_valueBy pe n la kd nd co wo (day % pe) b) b).2 = pscan (fun x => s_X5_valueBy pe n la kd nd co wo (day % pe) x) P (opn &&& s_X5_ofDay n dy (nI day)) r k e b := by
  intro k
  induction k with
  | zero => intro e b; rfl
  | succ k ih =>
    intro e b
    unfold s_X4_play_step_L63 pscan
    simp only [isIn_0]
    split
    · exact ih _ _
    · split
      · exact ih _ _
      · exact ih _ _
theorem play_scan (day : Nat) (r opn idle : Int32) (P : Int32 → Int32) : s_X4_play_step pe n la kd dy nd co wo day r opn idle P = pscan (fun x => s_X5_valueBy pe n la kd nd co wo (day % pe) x) P (if nI (day % pe) = idle then 0 else s_X5_ofDay n dy (nI day) &&& opn) r n 0 (P r) := by
  unfold s_X4_play_step
  by_cases c : nI (day % pe) = idle
  · rw [if_pos c, if_pos c, pscan_0]
  · rw [if_neg c, if_neg c, Int32.and_comm (s_X5_ofDay n dy (nI day))]
    by_cases c2 : opn &&& s_X5_ofDay n dy (nI day) = 0
    · rw [if_pos c2, c2, pscan_0]
    · rw [if_neg c2, pscan_63]
theorem pscan_set {V P : Int32 → Int32} {may r : Int32} {n : Nat} (hn : n ≤ 12) (hP : ∀ x, isSet n x → isSet n (P x)) (hr : isSet n r) : ∀ (k e : Nat) (b : Int32), e + k ≤ n → isSet n b → isSet n (pscan V P may r k e b) := by
  intro k
  induction k with
  | zero => intro e b _ h; exact h
  | succ k ih =>
    intro e b he h
    unfold pscan
    have hq := hP _ (isSet_or hn (show e < n from by omega) hr)
    split
    · exact ih _ _ (by omega) h
    · split
      · exact ih _ _ (by omega) hq
      · exact ih _ _ (by omega) h
theorem play_set (hn : n ≤ 12) (opn idle : Int32) : ∀ (j : Nat) (r : Int32), isSet n r → isSet n (s_X4_play pe n la kd dy nd co wo opn idle j r) := by
  intro j
  induction j with
  | zero => intro r h; exact h
  | succ j ih =>
    intro r h
    show isSet n (s_X4_play_step pe n la kd dy nd co wo j r opn idle (fun q => s_X4_play pe n la kd dy nd co wo opn idle j q))
    rw [play_scan]
    exact pscan_set hn (fun x hx => ih x hx) h n 0 _ (by omega) (ih r h)
theorem pl_end (itself won : Int32) (dwn : Nat) (sm : Int32) (vs ch tr en : Nat → Int32) (k : Nat) : s_X7_playsF_L25 pe n la kd' dy' nd' co' wo' itself (k + 1) (nI 12) won dwn sm vs ch tr en = s_X7_playsF_L25 pe n la kd' dy' nd' co' wo' itself k (nI 12 + (-1)) (ch 12) 0 sm vs ch tr en := rfl
theorem pl_mid {l : Nat} (hl : l < 12) (itself won : Int32) (dwn : Nat) (sm : Int32) (vs ch tr en : Nat → Int32) : ∃ (SM : Int32) (VS : Nat → Int32), ∀ k : Nat, s_X7_playsF_L25 pe n la kd' dy' nd' co' wo' itself (k + 1) (nI l) won dwn sm vs ch tr en =
    if (s_X7_playsF_L181 pe n la kd' dy' nd' itself (nI l) n (s_X7_playsF_m161_2 (nI l) dwn tr)) l < nI n then s_X7_playsF_L25 pe n la kd' dy' nd' co' wo' itself k (nI l + 1) won 1 SM VS (upd ch (l + 1) (ch l ||| s_X7_playsF_m294_0 (nI l) (s_X7_playsF_L181 pe n la kd' dy' nd' itself (nI l) n (s_X7_playsF_m161_2 (nI l) dwn tr)))) (s_X7_playsF_L181 pe n la kd' dy' nd' itself (nI l) n (s_X7_playsF_m161_2 (nI l) dwn tr)) (s_X7_playsF_m161_3 pe n la kd' nd' co' wo' (nI l) won dwn vs en)
    else s_X7_playsF_L25 pe n la kd' dy' nd' co' wo' itself k (nI l + (-1)) ((s_X7_playsF_m161_3 pe n la kd' nd' co' wo' (nI l) won dwn vs en) l) 0 SM VS ch (s_X7_playsF_L181 pe n la kd' dy' nd' itself (nI l) n (s_X7_playsF_m161_2 (nI l) dwn tr)) (s_X7_playsF_m161_3 pe n la kd' nd' co' wo' (nI l) won dwn vs en) := by
  refine ⟨s_X7_playsF_m161_0 pe n la kd' nd' co' wo' (nI l) won dwn sm vs en, s_X7_playsF_m161_1 pe n la kd' nd' co' wo' (nI l) won dwn vs en, fun k => ?_⟩
  have c12 : ¬ nI l = (12 : Int32) := fun z => absurd ((nI_eq (a := l) (b := 12) (by omega) (by omega)).mp z) (by omega)
  have hc : (nI l).toNatClampNeg = l := nI_clamp (by omega)
  rw [s_X7_playsF_L25, if_neg (nI_pos (by omega)), if_neg c12, hc]
theorem pl_dn {l : Nat} (hl : l < 12) (won : Int32) (vs tr en : Nat → Int32) : s_X7_playsF_m161_2 (nI l) 1 tr = upd tr l (-1) ∧ s_X7_playsF_m161_3 pe n la kd' nd' co' wo' (nI l) won 1 vs en = upd en l (-1) := by
  have hc : (nI l).toNatClampNeg = l := nI_clamp (by omega)
  have h1 : ¬ nI 1 = (0 : Int32) := by decide
  unfold s_X7_playsF_m161_2 s_X7_playsF_m161_3
  rw [if_neg h1, if_neg h1, hc]
  exact ⟨rfl, rfl⟩
theorem pl_up (A : Ag n kd dy nd co od wo kd' dy' nd' co' od' wo') (hp : 1 ≤ pe ∧ pe ≤ 4) {l : Nat} (hl : l < 12) (won : Int32) (vs tr en : Nat → Int32) : s_X7_playsF_m161_2 (nI l) 0 tr = upd tr l (tr l + 1) ∧ s_X7_playsF_m161_3 pe n la kd' nd' co' wo' (nI l) won 0 vs en = upd en l (if en l < 0 then won else if s_X5_valueBy pe n la kd nd co wo ((11 - l) % pe) (en l) < s_X5_valueBy pe n la kd nd co wo ((11 - l) % pe) won then won else en l) := by
  have hc : (nI l).toNatClampNeg = l := nI_clamp (by omega)
  have h1 : nI 0 = (0 : Int32) := rfl
  have hm : (11 - l) % pe < pe := Nat.mod_lt _ (by omega)
  unfold s_X7_playsF_m161_2 s_X7_playsF_m161_3 s_X7_playsF_m150_1
  rw [if_pos h1, if_pos h1, hc, eq_cnt2 A hp _ _ _ hm, eq_cnt2 A hp _ _ _ hm]
  exact ⟨rfl, rfl⟩
theorem pl_181 (kd dy nd : Nat → Int32) {l : Nat} (hn : n ≤ 12) (hl : l < 12) (itself : Int32) : ∀ (k q : Nat) (tr : Nat → Int32), tr l = nI q → q ≤ n → n ≤ q + k → ∃ q2, q ≤ q2 ∧ q2 ≤ n ∧ (s_X7_playsF_L181 pe n la kd dy nd itself (nI l) k tr) l = nI q2 ∧ (∀ i, ¬ i = l → (s_X7_playsF_L181 pe n la kd dy nd itself (nI l) k tr) i = tr i) ∧ (∀ e, q ≤ e → e < q2 → (s_X7_playsF_m179_0 pe n la kd dy nd itself (nI l) >>> (nI e &&& 31)) &&& (1 : Int32) = 0) ∧ (q2 < n → ¬ (s_X7_playsF_m179_0 pe n la kd dy nd itself (nI l) >>> (nI q2 &&& 31)) &&& (1 : Int32) = 0) := by
  have hc : (nI l).toNatClampNeg = l := nI_clamp (by omega)
  intro k
  induction k with
  | zero => intro q tr h1 h2 h3; exact ⟨q, Nat.le_refl _, h2, h1, fun _ _ => rfl, fun e h4 h5 => by omega, fun h4 => by omega⟩
  | succ k ih =>
    intro q tr h1 h2 h3
    rw [s_X7_playsF_L181, hc, h1, if_neg (nI_pos (by omega))]
    by_cases c : q < n
    · rw [if_pos ((nI_ltI (by omega) (by omega)).mpr c)]
      by_cases c2 : (s_X7_playsF_m179_0 pe n la kd dy nd itself (nI l) >>> (nI q &&& 31)) &&& (1 : Int32) = 0
      · rw [if_pos c2]
        obtain ⟨q2, a, b, d, e, f, g⟩ := ih (q + 1) (upd tr l (nI q + 1)) (by rw [upd_at, nI_1]) (by omega) (by omega)
        refine ⟨q2, by omega, b, d, fun i hi => (e i hi).trans (upd_ne _ _ hi), fun x h4 h5 => ?_, g⟩
        by_cases c3 : x = q
        · rw [c3]; exact c2
        · exact f x (by omega) h5
      · rw [if_neg c2]
        exact ⟨q, Nat.le_refl _, h2, h1, fun _ _ => rfl, fun e h4 h5 => by omega, fun _ => c2⟩
    · rw [if_neg (fun z => c ((nI_ltI (by omega) (by omega)).mp z))]
      exact ⟨q, Nat.le_refl _, h2, h1, fun _ _ => rfl, fun e h4 h5 => by omega, fun h4 => by omega⟩
theorem pl_may (A : Ag n kd dy nd co od wo kd' dy' nd' co' od' wo') {l : Nat} (hl : l < 12) (itself : Int32) : s_X7_playsF_m179_0 pe n la kd' dy' nd' itself (nI l) = if nI ((11 - l) % pe) = itself then 0 else s_X5_ofDay n dy (nI (11 - l)) &&& s_X5_standing n la kd nd 0 := by
  have hc : (nI l).toNatClampNeg = l := nI_clamp (by omega)
  have e : (11 : Int32) - nI l = nI (11 - l) := pk_sub (a := 11) (b := l) (by omega)
  unfold s_X7_playsF_m179_0
  rw [hc, eq_ofDay A, eq_standing A, e]
end EQV
