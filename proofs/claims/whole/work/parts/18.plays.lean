def lvOK (x : Int32) : Prop := x = (-1 : Int32) ∨ (x = nI x.toNatClampNeg ∧ x.toNatClampNeg ≤ 12)
theorem lvOK_nI {d : Nat} (h : d ≤ 12) : lvOK (nI d) := Or.inr (by rw [nI_clamp (by omega)]; exact ⟨rfl, h⟩)
theorem lv_nat {x : Int32} (h : lvOK x) (c : ¬ x < (0 : Int32)) : x = nI x.toNatClampNeg ∧ x.toNatClampNeg ≤ 12 := h.resolve_left (fun z => c (by rw [z]; decide))
theorem lvOK_dec {x : Int32} (h : x = nI x.toNatClampNeg ∧ x.toNatClampNeg ≤ 12) : lvOK (x + (-1 : Int32)) := by
  obtain ⟨h1, h2⟩ := h
  rw [h1]
  cases hx : x.toNatClampNeg with
  | zero => exact Or.inl (by decide)
  | succ k =>
    have e : nI (k + 1) + (-1 : Int32) = nI k := pk_m1 k
    rw [e]; exact lvOK_nI (by omega)
theorem lvOK_inc {x : Int32} (h : x = nI x.toNatClampNeg ∧ x.toNatClampNeg ≤ 12) (h3 : ¬ x.toNatClampNeg = 12) : lvOK (x + (1 : Int32)) := by
  have e : x + (1 : Int32) = nI (x.toNatClampNeg + 1) := by
    obtain ⟨h1, h2⟩ := h
    generalize x.toNatClampNeg = j at h1
    rw [h1]; exact nI_1 j
  rw [e]; exact lvOK_nI (by omega)
theorem tr_z {x : Int32} {n : Nat} (hn : n ≤ 12) (hk : (n : Int) ≤ x.toInt + ((0 : Nat) : Int) ∨ x < (0 : Int32)) (c : ¬ x < (0 : Int32)) : ¬ x < nI n := fun z => by
  have h1 := hk.resolve_right c
  have h2 := Int32.lt_iff_toInt_lt.mp z
  rw [nI_toInt (by omega)] at h2
  omega
theorem tr_s {f : Nat → Int32} {j n k : Nat} (hn : n ≤ 12) (c1 : ¬ f j < (0 : Int32)) (c2 : f j < nI n) (hk : (n : Int) ≤ (f j).toInt + ((k + 1 : Nat) : Int) ∨ f j < (0 : Int32)) : (n : Int) ≤ (upd f j (f j + (1 : Int32)) j).toInt + (k : Int) ∨ upd f j (f j + (1 : Int32)) j < (0 : Int32) := by
  refine Or.inl ?_
  have h1 := hk.resolve_right c1
  have e : upd f j (f j + (1 : Int32)) j = f j + (1 : Int32) := if_pos rfl
  rw [e]
  obtain ⟨a, ha, h3⟩ := nI_of c1
  rw [h3] at c2 h1 ⊢
  have h2 := (nI_ltI ha (by omega)).mp c2
  rw [nI_1, nI_toInt (by omega)]
  rw [nI_toInt ha] at h1
  omega
theorem tr_0 {x : Int32} {n : Nat} (hn : n ≤ 12) : (n : Int) ≤ x.toInt + ((n : Nat) : Int) ∨ x < (0 : Int32) := by
  by_cases c : x < (0 : Int32)
  · exact Or.inr c
  · obtain ⟨a, ha, h3⟩ := nI_of c
    rw [h3, nI_toInt ha]
    exact Or.inl (by omega)
theorem lv_rem {x : Int32} {pe : Nat} (h : x = nI x.toNatClampNeg ∧ x.toNatClampNeg ≤ 12) (h12 : ¬ x.toNatClampNeg = 12) (hp : 1 ≤ pe ∧ pe ≤ 4) : ((11 : Int32) - x) - ((11 : Int32) - x) / (nI pe) * (nI pe) = nI ((11 - x.toNatClampNeg) % pe) := by
  obtain ⟨h1, h2⟩ := h
  have e : (11 : Int32) - x = nI (11 - x.toNatClampNeg) := by
    generalize x.toNatClampNeg = j at h1 h2 h12
    rw [h1]; exact pk_sub (a := 11) (b := j) (by omega)
  rw [e]
  exact pk_rem (by omega) (by omega) (by omega)

def s_X7_playsF_m150_0 (pe : Nat) (n : Nat) (la : Int32) (kd : Nat → Int32) (nd : Nat → Int32) (co : Nat → Int32) (wo : Nat → Int32) (lv_3 : Int32) (won_4 : Int32) (vs_7 : Nat → Int32) (en_10 : Nat → Int32) : Nat := (if en_10 lv_3.toNatClampNeg < (0 : Int32) then 1 else (if ((s_X7_counts pe n kd nd co wo ((s_X7_counts pe n kd nd co wo vs_7 won_4 la).2) (en_10 lv_3.toNatClampNeg) la).2) ((11 - lv_3.toNatClampNeg) % pe) < ((s_X7_counts pe n kd nd co wo vs_7 won_4 la).2) ((11 - lv_3.toNatClampNeg) % pe) then 1 else 0))
def s_X7_playsF_m150_1 (pe : Nat) (n : Nat) (la : Int32) (kd : Nat → Int32) (nd : Nat → Int32) (co : Nat → Int32) (wo : Nat → Int32) (lv_3 : Int32) (won_4 : Int32) (vs_7 : Nat → Int32) (en_10 : Nat → Int32) : Int32 := (if en_10 lv_3.toNatClampNeg < (0 : Int32) then won_4 else (if ((s_X7_counts pe n kd nd co wo ((s_X7_counts pe n kd nd co wo vs_7 won_4 la).2) (en_10 lv_3.toNatClampNeg) la).2) ((11 - lv_3.toNatClampNeg) % pe) < ((s_X7_counts pe n kd nd co wo vs_7 won_4 la).2) ((11 - lv_3.toNatClampNeg) % pe) then won_4 else (en_10 lv_3.toNatClampNeg)))
def s_X7_playsF_m150_2 (pe : Nat) (n : Nat) (la : Int32) (kd : Nat → Int32) (nd : Nat → Int32) (co : Nat → Int32) (wo : Nat → Int32) (lv_3 : Int32) (won_4 : Int32) (sm_6 : Int32) (vs_7 : Nat → Int32) (en_10 : Nat → Int32) : Int32 := (if en_10 lv_3.toNatClampNeg < (0 : Int32) then sm_6 else ((s_X7_counts pe n kd nd co wo ((s_X7_counts pe n kd nd co wo vs_7 won_4 la).2) (en_10 lv_3.toNatClampNeg) la).1))
def s_X7_playsF_m150_3 (pe : Nat) (n : Nat) (la : Int32) (kd : Nat → Int32) (nd : Nat → Int32) (co : Nat → Int32) (wo : Nat → Int32) (lv_3 : Int32) (won_4 : Int32) (vs_7 : Nat → Int32) (en_10 : Nat → Int32) : Nat → Int32 := (if en_10 lv_3.toNatClampNeg < (0 : Int32) then vs_7 else ((s_X7_counts pe n kd nd co wo ((s_X7_counts pe n kd nd co wo vs_7 won_4 la).2) (en_10 lv_3.toNatClampNeg) la).2))
def s_X7_playsF_m161_0 (pe : Nat) (n : Nat) (la : Int32) (kd : Nat → Int32) (nd : Nat → Int32) (co : Nat → Int32) (wo : Nat → Int32) (lv_3 : Int32) (won_4 : Int32) (dwn_5 : Nat) (sm_6 : Int32) (vs_7 : Nat → Int32) (en_10 : Nat → Int32) : Int32 := (if nI dwn_5 = (0 : Int32) then (s_X7_playsF_m150_2 pe n la kd nd co wo lv_3 won_4 sm_6 vs_7 en_10) else sm_6)
def s_X7_playsF_m161_1 (pe : Nat) (n : Nat) (la : Int32) (kd : Nat → Int32) (nd : Nat → Int32) (co : Nat → Int32) (wo : Nat → Int32) (lv_3 : Int32) (won_4 : Int32) (dwn_5 : Nat) (vs_7 : Nat → Int32) (en_10 : Nat → Int32) : Nat → Int32 := (if nI dwn_5 = (0 : Int32) then (s_X7_playsF_m150_3 pe n la kd nd co wo lv_3 won_4 vs_7 en_10) else vs_7)
def s_X7_playsF_m161_2 (lv_3 : Int32) (dwn_5 : Nat) (tr_9 : Nat → Int32) : Nat → Int32 := (if nI dwn_5 = (0 : Int32) then (upd tr_9 lv_3.toNatClampNeg ((tr_9 lv_3.toNatClampNeg) + (1 : Int32))) else (upd tr_9 lv_3.toNatClampNeg (-1 : Int32)))
def s_X7_playsF_m161_3 (pe : Nat) (n : Nat) (la : Int32) (kd : Nat → Int32) (nd : Nat → Int32) (co : Nat → Int32) (wo : Nat → Int32) (lv_3 : Int32) (won_4 : Int32) (dwn_5 : Nat) (vs_7 : Nat → Int32) (en_10 : Nat → Int32) : Nat → Int32 := (if nI dwn_5 = (0 : Int32) then (upd en_10 lv_3.toNatClampNeg (s_X7_playsF_m150_1 pe n la kd nd co wo lv_3 won_4 vs_7 en_10)) else (upd en_10 lv_3.toNatClampNeg (-1 : Int32)))
def s_X7_playsF_m179_0 (pe : Nat) (n : Nat) (la : Int32) (kd : Nat → Int32) (dy : Nat → Int32) (nd : Nat → Int32) (itself : Int32) (lv_3 : Int32) : Int32 := (if nI ((11 - lv_3.toNatClampNeg) % pe) = itself then (0 : Int32) else ((s_X7_ofDay n dy ((11 : Int32) - lv_3)) &&& (s_X7_stands n kd nd (0 : Int32) la)))
def s_X7_playsF_m294_0 (lv_3 : Int32) (tr_25 : Nat → Int32) : Int32 := (if tr_25 lv_3.toNatClampNeg < (0 : Int32) then (0 : Int32) else ((1 : Int32) <<< ((tr_25 lv_3.toNatClampNeg) &&& 31)))
def s_X7_playsF_L181 (pe : Nat) (n : Nat) (la : Int32) (kd : Nat → Int32) (dy : Nat → Int32) (nd : Nat → Int32) (itself : Int32) (lv_3 : Int32) : Nat → (Nat → Int32) → (Nat → Int32)
  | 0, tr_25 => tr_25
  | k23 + 1, tr_25 => (if tr_25 lv_3.toNatClampNeg < (0 : Int32) then tr_25 else (if tr_25 lv_3.toNatClampNeg < nI n then (if ((s_X7_playsF_m179_0 pe n la kd dy nd itself lv_3) >>> ((tr_25 lv_3.toNatClampNeg) &&& 31)) &&& (1 : Int32) = (0 : Int32) then (s_X7_playsF_L181 pe n la kd dy nd itself lv_3 k23 (upd tr_25 lv_3.toNatClampNeg ((tr_25 lv_3.toNatClampNeg) + (1 : Int32)))) else tr_25) else tr_25))
def s_X7_playsF_L25 (pe : Nat) (n : Nat) (la : Int32) (kd : Nat → Int32) (dy : Nat → Int32) (nd : Nat → Int32) (co : Nat → Int32) (wo : Nat → Int32) (itself : Int32) : Nat → Int32 → Int32 → Nat → Int32 → (Nat → Int32) → (Nat → Int32) → (Nat → Int32) → (Nat → Int32) → Int32 × Int32 × (Nat → Int32) × (Nat → Int32) × (Nat → Int32) × (Nat → Int32) × Nat
  | 0, lv_3, won_4, dwn_5, sm_6, vs_7, ch_8, tr_9, en_10 => (lv_3, sm_6, vs_7, ch_8, tr_9, en_10, 0)
  | k1 + 1, lv_3, won_4, dwn_5, sm_6, vs_7, ch_8, tr_9, en_10 => (if lv_3 < (0 : Int32) then (won_4, sm_6, vs_7, ch_8, tr_9, en_10, 1) else (if lv_3 = (12 : Int32) then (s_X7_playsF_L25 pe n la kd dy nd co wo itself k1 (lv_3 + (-1 : Int32)) (ch_8 12) 0 sm_6 vs_7 ch_8 tr_9 en_10) else (if (s_X7_playsF_L181 pe n la kd dy nd itself lv_3 n (s_X7_playsF_m161_2 lv_3 dwn_5 tr_9)) lv_3.toNatClampNeg < nI n then (s_X7_playsF_L25 pe n la kd dy nd co wo itself k1 (lv_3 + (1 : Int32)) won_4 1 (s_X7_playsF_m161_0 pe n la kd nd co wo lv_3 won_4 dwn_5 sm_6 vs_7 en_10) (s_X7_playsF_m161_1 pe n la kd nd co wo lv_3 won_4 dwn_5 vs_7 en_10) (upd ch_8 (lv_3.toNatClampNeg + 1) ((ch_8 lv_3.toNatClampNeg) ||| (s_X7_playsF_m294_0 lv_3 (s_X7_playsF_L181 pe n la kd dy nd itself lv_3 n (s_X7_playsF_m161_2 lv_3 dwn_5 tr_9))))) (s_X7_playsF_L181 pe n la kd dy nd itself lv_3 n (s_X7_playsF_m161_2 lv_3 dwn_5 tr_9)) (s_X7_playsF_m161_3 pe n la kd nd co wo lv_3 won_4 dwn_5 vs_7 en_10)) else (s_X7_playsF_L25 pe n la kd dy nd co wo itself k1 (lv_3 + (-1 : Int32)) ((s_X7_playsF_m161_3 pe n la kd nd co wo lv_3 won_4 dwn_5 vs_7 en_10) lv_3.toNatClampNeg) 0 (s_X7_playsF_m161_0 pe n la kd nd co wo lv_3 won_4 dwn_5 sm_6 vs_7 en_10) (s_X7_playsF_m161_1 pe n la kd nd co wo lv_3 won_4 dwn_5 vs_7 en_10) ch_8 (s_X7_playsF_L181 pe n la kd dy nd itself lv_3 n (s_X7_playsF_m161_2 lv_3 dwn_5 tr_9)) (s_X7_playsF_m161_3 pe n la kd nd co wo lv_3 won_4 dwn_5 vs_7 en_10)))))
def s_X7_playsF (pe : Nat) (n : Nat) (la : Int32) (sm : Int32) (kd : Nat → Int32) (dy : Nat → Int32) (nd : Nat → Int32) (co : Nat → Int32) (wo : Nat → Int32) (vs : Nat → Int32) (ch : Nat → Int32) (tr : Nat → Int32) (en : Nat → Int32) (itself : Int32) (fuel : Nat) : Int32 × Int32 × (Nat → Int32) × (Nat → Int32) × (Nat → Int32) × (Nat → Int32) × Nat := (s_X7_playsF_L25 pe n la kd dy nd co wo itself fuel (0 : Int32) (0 : Int32) 1 sm vs (upd ch 0 (0 : Int32)) tr en)
set_option maxHeartbeats 8000000 in
set_option maxRecDepth 100000 in
theorem c_X7_playsF (l : Launch) (D : va_G) (o : Nat) (q1 : Nat) (q2 : Nat) (q3 : Nat) (q4 : Nat) (q5 : Nat) (q6 : Nat) (q7 : Nat) (q8 : Nat) (q9 : Nat) (q10 : Nat) (q11 : Nat) (q12 : Nat) (q13 : Nat) (q14 : Nat) (q15 : Nat) (q16 : Nat) (q17 : Nat) (q18 : Nat) (q19 : Nat) (q20 : Nat) (q21 : Nat) (q22 : Nat) (pe : Nat) (n : Nat) (la : Int32) (ri : Int32) (td : Int32) (ys : Int32) (ty : Nat) (ap : Nat) (wg : Int32) (rd : Nat) (sm : Int32) (bt : Int32) (up : Int64) (lw : Int64) (ii : Int32) (kd : Nat → Int32) (dy : Nat → Int32) (nd : Nat → Int32) (co : Nat → Int32) (od : Nat → Int32) (wo : Nat → Int32) (tp : Nat → Int32) (rk : Nat → Int32) (ry : Nat → Int32) (rn : Nat → Int32) (vs : Nat → Int32) (bs : Nat → Int32) (ch : Nat → Int32) (tr : Nat → Int32) (en : Nat → Int32) (du : Nat → Int32) (ol : Nat → Int32) (ig : Nat → Int32) (ln : Nat → Int32) (sz : Nat → Int32) (it : Nat → Int64) (mo : Nat → Int64) (itself : Int32) (fuel : Nat) (hn : n ≤ 12) (hp : 1 ≤ pe ∧ pe ≤ 4) (hfin : (s_X7_playsF pe n la sm kd dy nd co wo vs ch tr en itself fuel).2.2.2.2.2.2 = 1) (h0 : va_D (fun _ => True) (wM D o q1 q2 q3 q4 q5 q6 q7 q8 q9 q10 q11 q12 q13 q14 q15 q16 q17 q18 q19 q20 q21 q22 pe n la ri td ys ty ap wg rd sm bt up lw ii kd dy nd co od wo tp rk ry rn vs bs ch tr en du ol ig ln sz it mo)) : ct l yX7_plays cX7_plays 9 (some .int) 4 95 D [.ref o, .int itself] (wM D o q1 q2 q3 q4 q5 q6 q7 q8 q9 q10 q11 q12 q13 q14 q15 q16 q17 q18 q19 q20 q21 q22 pe n la ri td ys ty ap wg rd sm bt up lw ii kd dy nd co od wo tp rk ry rn vs bs ch tr en du ol ig ln sz it mo) (wM D o q1 q2 q3 q4 q5 q6 q7 q8 q9 q10 q11 q12 q13 q14 q15 q16 q17 q18 q19 q20 q21 q22 pe n la ri td ys ty ap wg rd (s_X7_playsF pe n la sm kd dy nd co wo vs ch tr en itself fuel).2.1 bt up lw ii kd dy nd co od wo tp rk ry rn (s_X7_playsF pe n la sm kd dy nd co wo vs ch tr en itself fuel).2.2.1 bs (s_X7_playsF pe n la sm kd dy nd co wo vs ch tr en itself fuel).2.2.2.1 (s_X7_playsF pe n la sm kd dy nd co wo vs ch tr en itself fuel).2.2.2.2.1 (s_X7_playsF pe n la sm kd dy nd co wo vs ch tr en itself fuel).2.2.2.2.2.1 du ol ig ln sz it mo) (Ad (wM D o q1 q2 q3 q4 q5 q6 q7 q8 q9 q10 q11 q12 q13 q14 q15 q16 q17 q18 q19 q20 q21 q22 pe n la ri td ys ty ap wg rd sm bt up lw ii kd dy nd co od wo tp rk ry rn vs bs ch tr en du ol ig ln sz it mo)) (some (Value.int (s_X7_playsF pe n la sm kd dy nd co wo vs ch tr en itself fuel).1)) := by
  obtain ⟨V, hv⟩ : ∃ V, s_X7_playsF pe n la sm kd dy nd co wo vs ch tr en itself fuel = V := ⟨_, rfl⟩
  rw [hv] at hfin ⊢
  refine ct_intro (own := RX7) (lv := [(0, .ref o), (1, .int itself)]) (by decide) rfl (Nat.le_of_ble_eq_true rfl) rfl ?_
  intro p_ e_ s_ m_ below_ meth_ c_ C
  have hv : (s_X7_playsF_L25 pe n la kd dy nd co wo itself fuel (0 : Int32) (0 : Int32) 1 sm vs (upd ch 0 (0 : Int32)) tr en) = V := hv
  refine r_aln C dX7_plays_0 rfl 0 rfl ?_
  refine r_ic C (v := (0 : Int32)) dX7_plays_1 (by decide) ?_
  refine r_aln C dX7_plays_2 rfl 0 rfl ?_
  refine gf_X7_116 C 0 rfl rfl dX7_plays_3 ?_
  refine aft_rd (st' := [.int (s_X7_stands n kd nd (0 : Int32) la)]) (run_V (rest := []) C (c_X7_stands l D o q1 q2 q3 q4 q5 q6 q7 q8 q9 q10 q11 q12 q13 q14 q15 q16 q17 q18 q19 q20 q21 q22 pe n la ri td ys ty ap wg rd sm bt up lw ii kd dy nd co od wo tp rk ry rn vs bs ch tr en du ol ig ln sz it mo (0 : Int32) la (by omega)) ok_X7_stands wn_X7_stands wl_X7_stands wm_X7_119 _ 0 rfl rfl rfl ⟨Nat.le_of_ble_eq_true rfl, Nat.le_of_ble_eq_true rfl⟩ fm_all rfl (Nat.le_of_ble_eq_true rfl) dX7_plays_6) rfl ?_
  refine r_isn C (lv' := [(2, .int (s_X7_stands n kd nd (0 : Int32) la)), (0, .ref o), (1, .int itself)]) dX7_plays_9 rfl (by decide) rfl ?_
  refine r_ic C (v := (0 : Int32)) dX7_plays_10 (by decide) ?_
  refine r_isn C (lv' := [(3, .int (0 : Int32)), (2, .int (s_X7_stands n kd nd (0 : Int32) la)), (0, .ref o), (1, .int itself)]) dX7_plays_11 rfl (by decide) rfl ?_
  refine r_ic C (v := (0 : Int32)) dX7_plays_12 (by decide) ?_
  refine r_is C (lv' := [(4, .int (0 : Int32)), (3, .int (0 : Int32)), (2, .int (s_X7_stands n kd nd (0 : Int32) la)), (0, .ref o), (1, .int itself)]) dX7_plays_13 (by decide) rfl ?_
  refine r_ic C (v := (1 : Int32)) dX7_plays_15 (by decide) ?_
  refine r_is C (lv' := [(5, .int (1 : Int32)), (4, .int (0 : Int32)), (3, .int (0 : Int32)), (2, .int (s_X7_stands n kd nd (0 : Int32) la)), (0, .ref o), (1, .int itself)]) dX7_plays_16 (by decide) rfl ?_
  refine r_aln C dX7_plays_18 rfl 4 rfl ?_
  refine gf_X7_46 C 0 rfl rfl dX7_plays_19 ?_
  refine r_ic C (v := (0 : Int32)) dX7_plays_22 (by decide) ?_
  refine r_ic C (v := (0 : Int32)) dX7_plays_23 (by decide) ?_
  refine r_iast C (ws2 := wM D o q1 q2 q3 q4 q5 q6 q7 q8 q9 q10 q11 q12 q13 q14 q15 q16 q17 q18 q19 q20 q21 q22 pe n la ri td ys ty ap wg rd sm bt up lw ii kd dy nd co od wo tp rk ry rn vs bs (upd ch 0 (0 : Int32)) tr en du ol ig ln sz it mo) h0 rfl 13 0 rfl rfl (by omega) (by decide) dX7_plays_24 rfl rfl ?_
  have L39 : ∀ (k1 : Nat) (lv_3 : Int32) (won_4 : Int32) (dwn_5 : Nat) (sm_6 : Int32) (vs_7 : Nat → Int32) (ch_8 : Nat → Int32) (tr_9 : Nat → Int32) (en_10 : Nat → Int32), (k1 = k1) → (lvOK lv_3) → (s_X7_playsF_L25 pe n la kd dy nd co wo itself k1 lv_3 won_4 dwn_5 sm_6 vs_7 ch_8 tr_9 en_10) = V → GM p_ l e_ s_ m_ below_ meth_ c_ D 4 95 9 [.ref o, .int itself] (wM D o q1 q2 q3 q4 q5 q6 q7 q8 q9 q10 q11 q12 q13 q14 q15 q16 q17 q18 q19 q20 q21 q22 pe n la ri td ys ty ap wg rd V.2.1 bt up lw ii kd dy nd co od wo tp rk ry rn V.2.2.1 bs V.2.2.2.1 V.2.2.2.2.1 V.2.2.2.2.2.1 du ol ig ln sz it mo) (Ad (wM D o q1 q2 q3 q4 q5 q6 q7 q8 q9 q10 q11 q12 q13 q14 q15 q16 q17 q18 q19 q20 q21 q22 pe n la ri td ys ty ap wg rd sm bt up lw ii kd dy nd co od wo tp rk ry rn vs bs ch tr en du ol ig ln sz it mo)) (some (Value.int V.1)) (wM D o q1 q2 q3 q4 q5 q6 q7 q8 q9 q10 q11 q12 q13 q14 q15 q16 q17 q18 q19 q20 q21 q22 pe n la ri td ys ty ap wg rd sm_6 bt up lw ii kd dy nd co od wo tp rk ry rn vs_7 bs ch_8 tr_9 en_10 du ol ig ln sz it mo) 25 [(5, .int (nI dwn_5)), (4, .int won_4), (3, .int lv_3), (2, .int (s_X7_stands n kd nd (0 : Int32) la)), (0, .ref o), (1, .int itself)] [] := by
    intro k1
    induction k1 with
    | zero =>
      intro lv_3 won_4 dwn_5 sm_6 vs_7 ch_8 tr_9 en_10 hk hlv hv
      subst hv; exact absurd (show (0 : Nat) = 1 from hfin) (by decide)
    | succ k1 ih11 =>
      intro lv_3 won_4 dwn_5 sm_6 vs_7 ch_8 tr_9 en_10 hk hlv hv
      have hv : (if lv_3 < (0 : Int32) then (won_4, sm_6, vs_7, ch_8, tr_9, en_10, 1) else (if lv_3 = (12 : Int32) then (s_X7_playsF_L25 pe n la kd dy nd co wo itself k1 (lv_3 + (-1 : Int32)) (ch_8 12) 0 sm_6 vs_7 ch_8 tr_9 en_10) else (if (s_X7_playsF_L181 pe n la kd dy nd itself lv_3 n (s_X7_playsF_m161_2 lv_3 dwn_5 tr_9)) lv_3.toNatClampNeg < nI n then (s_X7_playsF_L25 pe n la kd dy nd co wo itself k1 (lv_3 + (1 : Int32)) won_4 1 (s_X7_playsF_m161_0 pe n la kd nd co wo lv_3 won_4 dwn_5 sm_6 vs_7 en_10) (s_X7_playsF_m161_1 pe n la kd nd co wo lv_3 won_4 dwn_5 vs_7 en_10) (upd ch_8 (lv_3.toNatClampNeg + 1) ((ch_8 lv_3.toNatClampNeg) ||| (s_X7_playsF_m294_0 lv_3 (s_X7_playsF_L181 pe n la kd dy nd itself lv_3 n (s_X7_playsF_m161_2 lv_3 dwn_5 tr_9))))) (s_X7_playsF_L181 pe n la kd dy nd itself lv_3 n (s_X7_playsF_m161_2 lv_3 dwn_5 tr_9)) (s_X7_playsF_m161_3 pe n la kd nd co wo lv_3 won_4 dwn_5 vs_7 en_10)) else (s_X7_playsF_L25 pe n la kd dy nd co wo itself k1 (lv_3 + (-1 : Int32)) ((s_X7_playsF_m161_3 pe n la kd nd co wo lv_3 won_4 dwn_5 vs_7 en_10) lv_3.toNatClampNeg) 0 (s_X7_playsF_m161_0 pe n la kd nd co wo lv_3 won_4 dwn_5 sm_6 vs_7 en_10) (s_X7_playsF_m161_1 pe n la kd nd co wo lv_3 won_4 dwn_5 vs_7 en_10) ch_8 (s_X7_playsF_L181 pe n la kd dy nd itself lv_3 n (s_X7_playsF_m161_2 lv_3 dwn_5 tr_9)) (s_X7_playsF_m161_3 pe n la kd nd co wo lv_3 won_4 dwn_5 vs_7 en_10))))) = V := hv
      refine r_iln C dX7_plays_25 rfl 2 rfl ?_
      refine r_iflt C (tgt := 305) dX7_plays_26 (by decide) (fun c12 => ?_) (fun c12 => ?_)
      · rw [if_pos c12] at hv
        refine r_il C dX7_plays_305 1 rfl ?_
        exact r_iret rfl C (by rw [← hv]) (by rw [← hv]) dX7_plays_307
      · rw [if_neg c12] at hv
        have e13 := (lv_nat hlv c12)
        refine r_bp C (v := (11 : Int32)) dX7_plays_29 (by decide) ?_
        refine r_iln C dX7_plays_31 rfl 2 rfl ?_
        refine r_isub C dX7_plays_32 ?_
        refine r_is C (lv' := [(6, .int ((11 : Int32) - lv_3)), (5, .int (nI dwn_5)), (4, .int won_4), (3, .int lv_3), (2, .int (s_X7_stands n kd nd (0 : Int32) la)), (0, .ref o), (1, .int itself)]) dX7_plays_33 (by decide) rfl ?_
        refine r_iln C dX7_plays_35 rfl 3 rfl ?_
        refine r_bp C (v := (12 : Int32)) dX7_plays_36 (by decide) ?_
        refine r_icne C (tgt := 59) dX7_plays_38 (by decide) (fun c14 => ?_) (fun c14 => ?_)
        · rw [if_neg c14] at hv
          have fc14 : ¬ (lv_3.toNatClampNeg = 12) := fun z => c14 ((nv_eq (a := lv_3.toNatClampNeg) (b := 12) e13.1 rfl (by omega) (by omega)).mpr z)
          refine r_il C dX7_plays_59 0 rfl ?_
          refine r_aln C dX7_plays_61 rfl 5 rfl ?_
          refine gf_X7_77 C 0 rfl rfl dX7_plays_62 ?_
          refine r_irem C dX7_plays_65 (fun z => absurd ((nv_eq (a := pe) (b := 0) rfl rfl (by omega) (by omega)).mp z) (by omega)) ?_
          refine r_top (lv_rem (by assumption) (by omega) hp) ?_
          have hmod : (11 - lv_3.toNatClampNeg) % pe < pe := Nat.mod_lt _ (by omega)
          refine r_is C (lv' := [(7, .int (nI ((11 - lv_3.toNatClampNeg) % pe))), (6, .int ((11 : Int32) - lv_3)), (5, .int (nI dwn_5)), (4, .int won_4), (3, .int lv_3), (2, .int (s_X7_stands n kd nd (0 : Int32) la)), (0, .ref o), (1, .int itself)]) dX7_plays_66 (by decide) rfl ?_
          refine r_il C dX7_plays_68 2 rfl ?_
          have J38 : GM p_ l e_ s_ m_ below_ meth_ c_ D 4 95 9 [.ref o, .int itself] (wM D o q1 q2 q3 q4 q5 q6 q7 q8 q9 q10 q11 q12 q13 q14 q15 q16 q17 q18 q19 q20 q21 q22 pe n la ri td ys ty ap wg rd V.2.1 bt up lw ii kd dy nd co od wo tp rk ry rn V.2.2.1 bs V.2.2.2.1 V.2.2.2.2.1 V.2.2.2.2.2.1 du ol ig ln sz it mo) (Ad (wM D o q1 q2 q3 q4 q5 q6 q7 q8 q9 q10 q11 q12 q13 q14 q15 q16 q17 q18 q19 q20 q21 q22 pe n la ri td ys ty ap wg rd sm bt up lw ii kd dy nd co od wo tp rk ry rn vs bs ch tr en du ol ig ln sz it mo)) (some (Value.int V.1)) (wM D o q1 q2 q3 q4 q5 q6 q7 q8 q9 q10 q11 q12 q13 q14 q15 q16 q17 q18 q19 q20 q21 q22 pe n la ri td ys ty ap wg rd (s_X7_playsF_m161_0 pe n la kd nd co wo lv_3 won_4 dwn_5 sm_6 vs_7 en_10) bt up lw ii kd dy nd co od wo tp rk ry rn (s_X7_playsF_m161_1 pe n la kd nd co wo lv_3 won_4 dwn_5 vs_7 en_10) bs ch_8 (s_X7_playsF_m161_2 lv_3 dwn_5 tr_9) (s_X7_playsF_m161_3 pe n la kd nd co wo lv_3 won_4 dwn_5 vs_7 en_10) du ol ig ln sz it mo) 161 [(7, .int (nI ((11 - lv_3.toNatClampNeg) % pe))), (6, .int ((11 : Int32) - lv_3)), (5, .int (nI dwn_5)), (4, .int won_4), (3, .int lv_3), (2, .int (s_X7_stands n kd nd (0 : Int32) la)), (0, .ref o), (1, .int itself)] [] := by
            refine r_il C dX7_plays_161 0 rfl ?_
            refine r_iln C dX7_plays_163 rfl 7 rfl ?_
            have J37 : GM p_ l e_ s_ m_ below_ meth_ c_ D 4 95 9 [.ref o, .int itself] (wM D o q1 q2 q3 q4 q5 q6 q7 q8 q9 q10 q11 q12 q13 q14 q15 q16 q17 q18 q19 q20 q21 q22 pe n la ri td ys ty ap wg rd V.2.1 bt up lw ii kd dy nd co od wo tp rk ry rn V.2.2.1 bs V.2.2.2.1 V.2.2.2.2.1 V.2.2.2.2.2.1 du ol ig ln sz it mo) (Ad (wM D o q1 q2 q3 q4 q5 q6 q7 q8 q9 q10 q11 q12 q13 q14 q15 q16 q17 q18 q19 q20 q21 q22 pe n la ri td ys ty ap wg rd sm bt up lw ii kd dy nd co od wo tp rk ry rn vs bs ch tr en du ol ig ln sz it mo)) (some (Value.int V.1)) (wM D o q1 q2 q3 q4 q5 q6 q7 q8 q9 q10 q11 q12 q13 q14 q15 q16 q17 q18 q19 q20 q21 q22 pe n la ri td ys ty ap wg rd (s_X7_playsF_m161_0 pe n la kd nd co wo lv_3 won_4 dwn_5 sm_6 vs_7 en_10) bt up lw ii kd dy nd co od wo tp rk ry rn (s_X7_playsF_m161_1 pe n la kd nd co wo lv_3 won_4 dwn_5 vs_7 en_10) bs ch_8 (s_X7_playsF_m161_2 lv_3 dwn_5 tr_9) (s_X7_playsF_m161_3 pe n la kd nd co wo lv_3 won_4 dwn_5 vs_7 en_10) du ol ig ln sz it mo) 179 [(7, .int (nI ((11 - lv_3.toNatClampNeg) % pe))), (6, .int ((11 : Int32) - lv_3)), (5, .int (nI dwn_5)), (4, .int won_4), (3, .int lv_3), (2, .int (s_X7_stands n kd nd (0 : Int32) la)), (0, .ref o), (1, .int itself)] [.int (s_X7_playsF_m179_0 pe n la kd dy nd itself lv_3)] := by
              refine r_is C (lv' := [(8, .int (s_X7_playsF_m179_0 pe n la kd dy nd itself lv_3)), (7, .int (nI ((11 - lv_3.toNatClampNeg) % pe))), (6, .int ((11 : Int32) - lv_3)), (5, .int (nI dwn_5)), (4, .int won_4), (3, .int lv_3), (2, .int (s_X7_stands n kd nd (0 : Int32) la)), (0, .ref o), (1, .int itself)]) dX7_plays_179 (by decide) rfl ?_
              have X26 : ∀ (tr_25 : Nat → Int32), (if tr_25 lv_3.toNatClampNeg < nI n then (s_X7_playsF_L25 pe n la kd dy nd co wo itself k1 (lv_3 + (1 : Int32)) won_4 1 (s_X7_playsF_m161_0 pe n la kd nd co wo lv_3 won_4 dwn_5 sm_6 vs_7 en_10) (s_X7_playsF_m161_1 pe n la kd nd co wo lv_3 won_4 dwn_5 vs_7 en_10) (upd ch_8 (lv_3.toNatClampNeg + 1) ((ch_8 lv_3.toNatClampNeg) ||| (s_X7_playsF_m294_0 lv_3 tr_25))) tr_25 (s_X7_playsF_m161_3 pe n la kd nd co wo lv_3 won_4 dwn_5 vs_7 en_10)) else (s_X7_playsF_L25 pe n la kd dy nd co wo itself k1 (lv_3 + (-1 : Int32)) ((s_X7_playsF_m161_3 pe n la kd nd co wo lv_3 won_4 dwn_5 vs_7 en_10) lv_3.toNatClampNeg) 0 (s_X7_playsF_m161_0 pe n la kd nd co wo lv_3 won_4 dwn_5 sm_6 vs_7 en_10) (s_X7_playsF_m161_1 pe n la kd nd co wo lv_3 won_4 dwn_5 vs_7 en_10) ch_8 tr_25 (s_X7_playsF_m161_3 pe n la kd nd co wo lv_3 won_4 dwn_5 vs_7 en_10))) = V → GM p_ l e_ s_ m_ below_ meth_ c_ D 4 95 9 [.ref o, .int itself] (wM D o q1 q2 q3 q4 q5 q6 q7 q8 q9 q10 q11 q12 q13 q14 q15 q16 q17 q18 q19 q20 q21 q22 pe n la ri td ys ty ap wg rd V.2.1 bt up lw ii kd dy nd co od wo tp rk ry rn V.2.2.1 bs V.2.2.2.1 V.2.2.2.2.1 V.2.2.2.2.2.1 du ol ig ln sz it mo) (Ad (wM D o q1 q2 q3 q4 q5 q6 q7 q8 q9 q10 q11 q12 q13 q14 q15 q16 q17 q18 q19 q20 q21 q22 pe n la ri td ys ty ap wg rd sm bt up lw ii kd dy nd co od wo tp rk ry rn vs bs ch tr en du ol ig ln sz it mo)) (some (Value.int V.1)) (wM D o q1 q2 q3 q4 q5 q6 q7 q8 q9 q10 q11 q12 q13 q14 q15 q16 q17 q18 q19 q20 q21 q22 pe n la ri td ys ty ap wg rd (s_X7_playsF_m161_0 pe n la kd nd co wo lv_3 won_4 dwn_5 sm_6 vs_7 en_10) bt up lw ii kd dy nd co od wo tp rk ry rn (s_X7_playsF_m161_1 pe n la kd nd co wo lv_3 won_4 dwn_5 vs_7 en_10) bs ch_8 tr_25 (s_X7_playsF_m161_3 pe n la kd nd co wo lv_3 won_4 dwn_5 vs_7 en_10) du ol ig ln sz it mo) 230 [(8, .int (s_X7_playsF_m179_0 pe n la kd dy nd itself lv_3)), (7, .int (nI ((11 - lv_3.toNatClampNeg) % pe))), (6, .int ((11 : Int32) - lv_3)), (5, .int (nI dwn_5)), (4, .int won_4), (3, .int lv_3), (2, .int (s_X7_stands n kd nd (0 : Int32) la)), (0, .ref o), (1, .int itself)] [] := by
                intro tr_25 hv
                refine r_aln C dX7_plays_230 rfl 7 rfl ?_
                refine gf_X7_49 C 0 rfl rfl dX7_plays_231 ?_
                refine r_iln C dX7_plays_234 rfl 5 rfl ?_
                refine r_iald C 14 lv_3.toNatClampNeg rfl e13.1 (by omega) (by decide) rfl dX7_plays_235 ?_
                refine r_aln C dX7_plays_236 rfl 7 rfl ?_
                refine gf_X7_84 C 0 rfl rfl dX7_plays_237 ?_
                refine r_iclt C (tgt := 260) dX7_plays_240 (by decide) (fun c27 => ?_) (fun c27 => ?_)
                · rw [if_pos c27] at hv
                  refine r_aln C dX7_plays_260 rfl 7 rfl ?_
                  refine gf_X7_46 C 0 rfl rfl dX7_plays_261 ?_
                  refine r_iln C dX7_plays_264 rfl 5 rfl ?_
                  refine r_ic C (v := (1 : Int32)) dX7_plays_265 (by decide) ?_
                  refine r_iadd C dX7_plays_266 ?_
                  refine r_aln C dX7_plays_267 rfl 7 rfl ?_
                  refine gf_X7_46 C 0 rfl rfl dX7_plays_268 ?_
                  refine r_iln C dX7_plays_271 rfl 5 rfl ?_
                  refine r_iald C 13 lv_3.toNatClampNeg rfl e13.1 (by omega) (by decide) rfl dX7_plays_272 ?_
                  refine r_aln C dX7_plays_273 rfl 7 rfl ?_
                  refine gf_X7_49 C 0 rfl rfl dX7_plays_274 ?_
                  refine r_iln C dX7_plays_277 rfl 5 rfl ?_
                  refine r_iald C 14 lv_3.toNatClampNeg rfl e13.1 (by omega) (by decide) rfl dX7_plays_278 ?_
                  have J29 : GM p_ l e_ s_ m_ below_ meth_ c_ D 4 95 9 [.ref o, .int itself] (wM D o q1 q2 q3 q4 q5 q6 q7 q8 q9 q10 q11 q12 q13 q14 q15 q16 q17 q18 q19 q20 q21 q22 pe n la ri td ys ty ap wg rd V.2.1 bt up lw ii kd dy nd co od wo tp rk ry rn V.2.2.1 bs V.2.2.2.1 V.2.2.2.2.1 V.2.2.2.2.2.1 du ol ig ln sz it mo) (Ad (wM D o q1 q2 q3 q4 q5 q6 q7 q8 q9 q10 q11 q12 q13 q14 q15 q16 q17 q18 q19 q20 q21 q22 pe n la ri td ys ty ap wg rd sm bt up lw ii kd dy nd co od wo tp rk ry rn vs bs ch tr en du ol ig ln sz it mo)) (some (Value.int V.1)) (wM D o q1 q2 q3 q4 q5 q6 q7 q8 q9 q10 q11 q12 q13 q14 q15 q16 q17 q18 q19 q20 q21 q22 pe n la ri td ys ty ap wg rd (s_X7_playsF_m161_0 pe n la kd nd co wo lv_3 won_4 dwn_5 sm_6 vs_7 en_10) bt up lw ii kd dy nd co od wo tp rk ry rn (s_X7_playsF_m161_1 pe n la kd nd co wo lv_3 won_4 dwn_5 vs_7 en_10) bs ch_8 tr_25 (s_X7_playsF_m161_3 pe n la kd nd co wo lv_3 won_4 dwn_5 vs_7 en_10) du ol ig ln sz it mo) 294 [(8, .int (s_X7_playsF_m179_0 pe n la kd dy nd itself lv_3)), (7, .int (nI ((11 - lv_3.toNatClampNeg) % pe))), (6, .int ((11 : Int32) - lv_3)), (5, .int (nI dwn_5)), (4, .int won_4), (3, .int lv_3), (2, .int (s_X7_stands n kd nd (0 : Int32) la)), (0, .ref o), (1, .int itself)] [.int (s_X7_playsF_m294_0 lv_3 tr_25), .int (ch_8 lv_3.toNatClampNeg), .int (lv_3 + (1 : Int32)), .ref q13] := by
                    refine r_ior C dX7_plays_294 ?_
                    refine r_iast C (ws2 := wM D o q1 q2 q3 q4 q5 q6 q7 q8 q9 q10 q11 q12 q13 q14 q15 q16 q17 q18 q19 q20 q21 q22 pe n la ri td ys ty ap wg rd (s_X7_playsF_m161_0 pe n la kd nd co wo lv_3 won_4 dwn_5 sm_6 vs_7 en_10) bt up lw ii kd dy nd co od wo tp rk ry rn (s_X7_playsF_m161_1 pe n la kd nd co wo lv_3 won_4 dwn_5 vs_7 en_10) bs (upd ch_8 (lv_3.toNatClampNeg + 1) ((ch_8 lv_3.toNatClampNeg) ||| (s_X7_playsF_m294_0 lv_3 tr_25))) tr_25 (s_X7_playsF_m161_3 pe n la kd nd co wo lv_3 won_4 dwn_5 vs_7 en_10) du ol ig ln sz it mo) h0 rfl 13 (lv_3.toNatClampNeg + 1) rfl (nv_add e13.1 rfl) (by omega) (by decide) dX7_plays_295 rfl rfl ?_
                    refine r_inc C (v := lv_3 + (1 : Int32)) (lv' := [(3, .int (lv_3 + (1 : Int32))), (8, .int (s_X7_playsF_m179_0 pe n la kd dy nd itself lv_3)), (7, .int (nI ((11 - lv_3.toNatClampNeg) % pe))), (6, .int ((11 : Int32) - lv_3)), (5, .int (nI dwn_5)), (4, .int won_4), (2, .int (s_X7_stands n kd nd (0 : Int32) la)), (0, .ref o), (1, .int itself)]) dX7_plays_296 5 rfl (by rfl) (by decide) rfl ?_
                    have hlv2 : lvOK (lv_3 + (1 : Int32)) := lvOK_inc (by assumption) (by omega)
                    refine r_ic C (v := (1 : Int32)) dX7_plays_299 (by decide) ?_
                    refine r_is C (lv' := [(5, .int (1 : Int32)), (3, .int (lv_3 + (1 : Int32))), (8, .int (s_X7_playsF_m179_0 pe n la kd dy nd itself lv_3)), (7, .int (nI ((11 - lv_3.toNatClampNeg) % pe))), (6, .int ((11 : Int32) - lv_3)), (4, .int won_4), (2, .int (s_X7_stands n kd nd (0 : Int32) la)), (0, .ref o), (1, .int itself)]) dX7_plays_300 (by decide) rfl ?_
                    refine r_goto C (tgt := 25) dX7_plays_302 (by decide) ?_
                    refine r_lv [0, 5, 1, 6, 7, 8] rfl ?_
                    refine r_lve (lv2 := [(5, .int (nI 1)), (4, .int won_4), (3, .int (lv_3 + (1 : Int32))), (2, .int (s_X7_stands n kd nd (0 : Int32) la)), (0, .ref o), (1, .int itself)]) (congrArg (fun (z : Int32) => ([(5, .int z), (4, .int won_4), (3, .int (lv_3 + (1 : Int32))), (2, .int (s_X7_stands n kd nd (0 : Int32) la)), (0, .ref o), (1, .int itself)] : List (Nat × Value))) rfl) ?_
                    exact ih11 (lv_3 + (1 : Int32)) won_4 1 (s_X7_playsF_m161_0 pe n la kd nd co wo lv_3 won_4 dwn_5 sm_6 vs_7 en_10) (s_X7_playsF_m161_1 pe n la kd nd co wo lv_3 won_4 dwn_5 vs_7 en_10) (upd ch_8 (lv_3.toNatClampNeg + 1) ((ch_8 lv_3.toNatClampNeg) ||| (s_X7_playsF_m294_0 lv_3 tr_25))) tr_25 (s_X7_playsF_m161_3 pe n la kd nd co wo lv_3 won_4 dwn_5 vs_7 en_10) rfl hlv2 hv
                  refine r_ifge C (tgt := 286) dX7_plays_279 (by decide) (fun c28 => ?_) (fun c28 => ?_)
                  · skip
                    refine r_ic C (v := (1 : Int32)) dX7_plays_286 (by decide) ?_
                    refine r_aln C dX7_plays_287 rfl 7 rfl ?_
                    refine gf_X7_49 C 0 rfl rfl dX7_plays_288 ?_
                    refine r_iln C dX7_plays_291 rfl 5 rfl ?_
                    refine r_iald C 14 lv_3.toNatClampNeg rfl e13.1 (by omega) (by decide) rfl dX7_plays_292 ?_
                    refine r_ishl C dX7_plays_293 ?_
                    refine r_lv [0, 1, 2, 3, 4, 5, 6, 7, 8] rfl ?_
                    exact (by have z := J29; rw [show (s_X7_playsF_m294_0 lv_3 tr_25) = (1 : Int32) <<< ((tr_25 lv_3.toNatClampNeg) &&& 31) from (by unfold s_X7_playsF_m294_0; first | rfl | ((try rw [if_neg (show ¬ (tr_25 lv_3.toNatClampNeg < (0 : Int32)) from by assumption)]); (try rfl); done) | (simp only [if_pos, if_neg, *, not_false_eq_true, ite_true, ite_false, if_true, if_false]; done) | (simp [*]; done))] at z; exact z)
                  · skip
                    refine r_ic C (v := (0 : Int32)) dX7_plays_282 (by decide) ?_
                    refine r_goto C (tgt := 294) dX7_plays_283 (by decide) ?_
                    refine r_lv [0, 1, 2, 3, 4, 5, 6, 7, 8] rfl ?_
                    exact (by have z := J29; rw [show (s_X7_playsF_m294_0 lv_3 tr_25) = (0 : Int32) from (by unfold s_X7_playsF_m294_0; first | rfl | ((try rw [if_pos (show tr_25 lv_3.toNatClampNeg < (0 : Int32) from by assumption)]); (try rfl); done) | (simp only [if_pos, if_neg, *, not_false_eq_true, ite_true, ite_false, if_true, if_false]; done) | (simp [*]; done))] at z; exact z)
                · rw [if_neg c27] at hv
                  refine r_aln C dX7_plays_243 rfl 7 rfl ?_
                  refine gf_X7_52 C 0 rfl rfl dX7_plays_244 ?_
                  refine r_iln C dX7_plays_247 rfl 5 rfl ?_
                  refine r_iald C 15 lv_3.toNatClampNeg rfl e13.1 (by omega) (by decide) rfl dX7_plays_248 ?_
                  refine r_is C (lv' := [(4, .int ((s_X7_playsF_m161_3 pe n la kd nd co wo lv_3 won_4 dwn_5 vs_7 en_10) lv_3.toNatClampNeg)), (8, .int (s_X7_playsF_m179_0 pe n la kd dy nd itself lv_3)), (7, .int (nI ((11 - lv_3.toNatClampNeg) % pe))), (6, .int ((11 : Int32) - lv_3)), (5, .int (nI dwn_5)), (3, .int lv_3), (2, .int (s_X7_stands n kd nd (0 : Int32) la)), (0, .ref o), (1, .int itself)]) dX7_plays_249 (by decide) rfl ?_
                  refine r_inc C (v := lv_3 + (-1 : Int32)) (lv' := [(3, .int (lv_3 + (-1 : Int32))), (4, .int ((s_X7_playsF_m161_3 pe n la kd nd co wo lv_3 won_4 dwn_5 vs_7 en_10) lv_3.toNatClampNeg)), (8, .int (s_X7_playsF_m179_0 pe n la kd dy nd itself lv_3)), (7, .int (nI ((11 - lv_3.toNatClampNeg) % pe))), (6, .int ((11 : Int32) - lv_3)), (5, .int (nI dwn_5)), (2, .int (s_X7_stands n kd nd (0 : Int32) la)), (0, .ref o), (1, .int itself)]) dX7_plays_251 5 rfl (by rfl) (by decide) rfl ?_
                  have hlv2 : lvOK (lv_3 + (-1 : Int32)) := lvOK_dec (by assumption)
                  refine r_ic C (v := (0 : Int32)) dX7_plays_254 (by decide) ?_
                  refine r_is C (lv' := [(5, .int (0 : Int32)), (3, .int (lv_3 + (-1 : Int32))), (4, .int ((s_X7_playsF_m161_3 pe n la kd nd co wo lv_3 won_4 dwn_5 vs_7 en_10) lv_3.toNatClampNeg)), (8, .int (s_X7_playsF_m179_0 pe n la kd dy nd itself lv_3)), (7, .int (nI ((11 - lv_3.toNatClampNeg) % pe))), (6, .int ((11 : Int32) - lv_3)), (2, .int (s_X7_stands n kd nd (0 : Int32) la)), (0, .ref o), (1, .int itself)]) dX7_plays_255 (by decide) rfl ?_
                  refine r_goto C (tgt := 302) dX7_plays_257 (by decide) ?_
                  refine r_goto C (tgt := 25) dX7_plays_302 (by decide) ?_
                  refine r_lv [0, 2, 1, 6, 7, 8] rfl ?_
                  refine r_lve (lv2 := [(5, .int (nI 0)), (4, .int ((s_X7_playsF_m161_3 pe n la kd nd co wo lv_3 won_4 dwn_5 vs_7 en_10) lv_3.toNatClampNeg)), (3, .int (lv_3 + (-1 : Int32))), (2, .int (s_X7_stands n kd nd (0 : Int32) la)), (0, .ref o), (1, .int itself)]) (congrArg (fun (z : Int32) => ([(5, .int z), (4, .int ((s_X7_playsF_m161_3 pe n la kd nd co wo lv_3 won_4 dwn_5 vs_7 en_10) lv_3.toNatClampNeg)), (3, .int (lv_3 + (-1 : Int32))), (2, .int (s_X7_stands n kd nd (0 : Int32) la)), (0, .ref o), (1, .int itself)] : List (Nat × Value))) rfl) ?_
                  exact ih11 (lv_3 + (-1 : Int32)) ((s_X7_playsF_m161_3 pe n la kd nd co wo lv_3 won_4 dwn_5 vs_7 en_10) lv_3.toNatClampNeg) 0 (s_X7_playsF_m161_0 pe n la kd nd co wo lv_3 won_4 dwn_5 sm_6 vs_7 en_10) (s_X7_playsF_m161_1 pe n la kd nd co wo lv_3 won_4 dwn_5 vs_7 en_10) ch_8 tr_25 (s_X7_playsF_m161_3 pe n la kd nd co wo lv_3 won_4 dwn_5 vs_7 en_10) rfl hlv2 hv
              have L36 : ∀ (k23 : Nat) (tr_25 : Nat → Int32), ((n : Int) ≤ (tr_25 lv_3.toNatClampNeg).toInt + (k23 : Int) ∨ tr_25 lv_3.toNatClampNeg < (0 : Int32)) → (if (s_X7_playsF_L181 pe n la kd dy nd itself lv_3 k23 tr_25) lv_3.toNatClampNeg < nI n then (s_X7_playsF_L25 pe n la kd dy nd co wo itself k1 (lv_3 + (1 : Int32)) won_4 1 (s_X7_playsF_m161_0 pe n la kd nd co wo lv_3 won_4 dwn_5 sm_6 vs_7 en_10) (s_X7_playsF_m161_1 pe n la kd nd co wo lv_3 won_4 dwn_5 vs_7 en_10) (upd ch_8 (lv_3.toNatClampNeg + 1) ((ch_8 lv_3.toNatClampNeg) ||| (s_X7_playsF_m294_0 lv_3 (s_X7_playsF_L181 pe n la kd dy nd itself lv_3 k23 tr_25)))) (s_X7_playsF_L181 pe n la kd dy nd itself lv_3 k23 tr_25) (s_X7_playsF_m161_3 pe n la kd nd co wo lv_3 won_4 dwn_5 vs_7 en_10)) else (s_X7_playsF_L25 pe n la kd dy nd co wo itself k1 (lv_3 + (-1 : Int32)) ((s_X7_playsF_m161_3 pe n la kd nd co wo lv_3 won_4 dwn_5 vs_7 en_10) lv_3.toNatClampNeg) 0 (s_X7_playsF_m161_0 pe n la kd nd co wo lv_3 won_4 dwn_5 sm_6 vs_7 en_10) (s_X7_playsF_m161_1 pe n la kd nd co wo lv_3 won_4 dwn_5 vs_7 en_10) ch_8 (s_X7_playsF_L181 pe n la kd dy nd itself lv_3 k23 tr_25) (s_X7_playsF_m161_3 pe n la kd nd co wo lv_3 won_4 dwn_5 vs_7 en_10))) = V → GM p_ l e_ s_ m_ below_ meth_ c_ D 4 95 9 [.ref o, .int itself] (wM D o q1 q2 q3 q4 q5 q6 q7 q8 q9 q10 q11 q12 q13 q14 q15 q16 q17 q18 q19 q20 q21 q22 pe n la ri td ys ty ap wg rd V.2.1 bt up lw ii kd dy nd co od wo tp rk ry rn V.2.2.1 bs V.2.2.2.1 V.2.2.2.2.1 V.2.2.2.2.2.1 du ol ig ln sz it mo) (Ad (wM D o q1 q2 q3 q4 q5 q6 q7 q8 q9 q10 q11 q12 q13 q14 q15 q16 q17 q18 q19 q20 q21 q22 pe n la ri td ys ty ap wg rd sm bt up lw ii kd dy nd co od wo tp rk ry rn vs bs ch tr en du ol ig ln sz it mo)) (some (Value.int V.1)) (wM D o q1 q2 q3 q4 q5 q6 q7 q8 q9 q10 q11 q12 q13 q14 q15 q16 q17 q18 q19 q20 q21 q22 pe n la ri td ys ty ap wg rd (s_X7_playsF_m161_0 pe n la kd nd co wo lv_3 won_4 dwn_5 sm_6 vs_7 en_10) bt up lw ii kd dy nd co od wo tp rk ry rn (s_X7_playsF_m161_1 pe n la kd nd co wo lv_3 won_4 dwn_5 vs_7 en_10) bs ch_8 tr_25 (s_X7_playsF_m161_3 pe n la kd nd co wo lv_3 won_4 dwn_5 vs_7 en_10) du ol ig ln sz it mo) 181 [(8, .int (s_X7_playsF_m179_0 pe n la kd dy nd itself lv_3)), (7, .int (nI ((11 - lv_3.toNatClampNeg) % pe))), (6, .int ((11 : Int32) - lv_3)), (5, .int (nI dwn_5)), (4, .int won_4), (3, .int lv_3), (2, .int (s_X7_stands n kd nd (0 : Int32) la)), (0, .ref o), (1, .int itself)] [] := by
                intro k23
                induction k23 with
                | zero =>
                  intro tr_25 hk hv
                  have hv : (if tr_25 lv_3.toNatClampNeg < nI n then (s_X7_playsF_L25 pe n la kd dy nd co wo itself k1 (lv_3 + (1 : Int32)) won_4 1 (s_X7_playsF_m161_0 pe n la kd nd co wo lv_3 won_4 dwn_5 sm_6 vs_7 en_10) (s_X7_playsF_m161_1 pe n la kd nd co wo lv_3 won_4 dwn_5 vs_7 en_10) (upd ch_8 (lv_3.toNatClampNeg + 1) ((ch_8 lv_3.toNatClampNeg) ||| (s_X7_playsF_m294_0 lv_3 tr_25))) tr_25 (s_X7_playsF_m161_3 pe n la kd nd co wo lv_3 won_4 dwn_5 vs_7 en_10)) else (s_X7_playsF_L25 pe n la kd dy nd co wo itself k1 (lv_3 + (-1 : Int32)) ((s_X7_playsF_m161_3 pe n la kd nd co wo lv_3 won_4 dwn_5 vs_7 en_10) lv_3.toNatClampNeg) 0 (s_X7_playsF_m161_0 pe n la kd nd co wo lv_3 won_4 dwn_5 sm_6 vs_7 en_10) (s_X7_playsF_m161_1 pe n la kd nd co wo lv_3 won_4 dwn_5 vs_7 en_10) ch_8 tr_25 (s_X7_playsF_m161_3 pe n la kd nd co wo lv_3 won_4 dwn_5 vs_7 en_10))) = V := hv
                  refine r_aln C dX7_plays_181 rfl 7 rfl ?_
                  refine gf_X7_49 C 0 rfl rfl dX7_plays_182 ?_
                  refine r_iln C dX7_plays_185 rfl 5 rfl ?_
                  refine r_iald C 14 lv_3.toNatClampNeg rfl e13.1 (by omega) (by decide) rfl dX7_plays_186 ?_
                  refine r_iflt C (tgt := 230) dX7_plays_187 (by decide) (fun c30 => ?_) (fun c30 => ?_)
                  · skip
                    exact X26 tr_25 hv
                  · skip
                    refine r_aln C dX7_plays_190 rfl 7 rfl ?_
                    refine gf_X7_49 C 0 rfl rfl dX7_plays_191 ?_
                    refine r_iln C dX7_plays_194 rfl 5 rfl ?_
                    refine r_iald C 14 lv_3.toNatClampNeg rfl e13.1 (by omega) (by decide) rfl dX7_plays_195 ?_
                    refine r_aln C dX7_plays_196 rfl 7 rfl ?_
                    refine gf_X7_84 C 0 rfl rfl dX7_plays_197 ?_
                    refine r_icge C (tgt := 230) dX7_plays_200 (by decide) (fun c31 => ?_) (fun c31 => ?_)
                    · skip
                      exact X26 tr_25 hv
                    · exact absurd c31 (tr_z hn hk (by assumption))
                | succ k23 ih32 =>
                  intro tr_25 hk hv
                  have hv : (if (if tr_25 lv_3.toNatClampNeg < (0 : Int32) then tr_25 else (if tr_25 lv_3.toNatClampNeg < nI n then (if ((s_X7_playsF_m179_0 pe n la kd dy nd itself lv_3) >>> ((tr_25 lv_3.toNatClampNeg) &&& 31)) &&& (1 : Int32) = (0 : Int32) then (s_X7_playsF_L181 pe n la kd dy nd itself lv_3 k23 (upd tr_25 lv_3.toNatClampNeg ((tr_25 lv_3.toNatClampNeg) + (1 : Int32)))) else tr_25) else tr_25)) lv_3.toNatClampNeg < nI n then (s_X7_playsF_L25 pe n la kd dy nd co wo itself k1 (lv_3 + (1 : Int32)) won_4 1 (s_X7_playsF_m161_0 pe n la kd nd co wo lv_3 won_4 dwn_5 sm_6 vs_7 en_10) (s_X7_playsF_m161_1 pe n la kd nd co wo lv_3 won_4 dwn_5 vs_7 en_10) (upd ch_8 (lv_3.toNatClampNeg + 1) ((ch_8 lv_3.toNatClampNeg) ||| (s_X7_playsF_m294_0 lv_3 (if tr_25 lv_3.toNatClampNeg < (0 : Int32) then tr_25 else (if tr_25 lv_3.toNatClampNeg < nI n then (if ((s_X7_playsF_m179_0 pe n la kd dy nd itself lv_3) >>> ((tr_25 lv_3.toNatClampNeg) &&& 31)) &&& (1 : Int32) = (0 : Int32) then (s_X7_playsF_L181 pe n la kd dy nd itself lv_3 k23 (upd tr_25 lv_3.toNatClampNeg ((tr_25 lv_3.toNatClampNeg) + (1 : Int32)))) else tr_25) else tr_25))))) (if tr_25 lv_3.toNatClampNeg < (0 : Int32) then tr_25 else (if tr_25 lv_3.toNatClampNeg < nI n then (if ((s_X7_playsF_m179_0 pe n la kd dy nd itself lv_3) >>> ((tr_25 lv_3.toNatClampNeg) &&& 31)) &&& (1 : Int32) = (0 : Int32) then (s_X7_playsF_L181 pe n la kd dy nd itself lv_3 k23 (upd tr_25 lv_3.toNatClampNeg ((tr_25 lv_3.toNatClampNeg) + (1 : Int32)))) else tr_25) else tr_25)) (s_X7_playsF_m161_3 pe n la kd nd co wo lv_3 won_4 dwn_5 vs_7 en_10)) else (s_X7_playsF_L25 pe n la kd dy nd co wo itself k1 (lv_3 + (-1 : Int32)) ((s_X7_playsF_m161_3 pe n la kd nd co wo lv_3 won_4 dwn_5 vs_7 en_10) lv_3.toNatClampNeg) 0 (s_X7_playsF_m161_0 pe n la kd nd co wo lv_3 won_4 dwn_5 sm_6 vs_7 en_10) (s_X7_playsF_m161_1 pe n la kd nd co wo lv_3 won_4 dwn_5 vs_7 en_10) ch_8 (if tr_25 lv_3.toNatClampNeg < (0 : Int32) then tr_25 else (if tr_25 lv_3.toNatClampNeg < nI n then (if ((s_X7_playsF_m179_0 pe n la kd dy nd itself lv_3) >>> ((tr_25 lv_3.toNatClampNeg) &&& 31)) &&& (1 : Int32) = (0 : Int32) then (s_X7_playsF_L181 pe n la kd dy nd itself lv_3 k23 (upd tr_25 lv_3.toNatClampNeg ((tr_25 lv_3.toNatClampNeg) + (1 : Int32)))) else tr_25) else tr_25)) (s_X7_playsF_m161_3 pe n la kd nd co wo lv_3 won_4 dwn_5 vs_7 en_10))) = V := hv
                  refine r_aln C dX7_plays_181 rfl 7 rfl ?_
                  refine gf_X7_49 C 0 rfl rfl dX7_plays_182 ?_
                  refine r_iln C dX7_plays_185 rfl 5 rfl ?_
                  refine r_iald C 14 lv_3.toNatClampNeg rfl e13.1 (by omega) (by decide) rfl dX7_plays_186 ?_
                  refine r_iflt C (tgt := 230) dX7_plays_187 (by decide) (fun c33 => ?_) (fun c33 => ?_)
                  · rw [if_pos c33] at hv
                    exact X26 tr_25 hv
                  · rw [if_neg c33] at hv
                    refine r_aln C dX7_plays_190 rfl 7 rfl ?_
                    refine gf_X7_49 C 0 rfl rfl dX7_plays_191 ?_
                    refine r_iln C dX7_plays_194 rfl 5 rfl ?_
                    refine r_iald C 14 lv_3.toNatClampNeg rfl e13.1 (by omega) (by decide) rfl dX7_plays_195 ?_
                    refine r_aln C dX7_plays_196 rfl 7 rfl ?_
                    refine gf_X7_84 C 0 rfl rfl dX7_plays_197 ?_
                    refine r_icge C (tgt := 230) dX7_plays_200 (by decide) (fun c34 => ?_) (fun c34 => ?_)
                    · rw [if_neg c34] at hv
                      exact X26 tr_25 hv
                    · rw [if_pos c34] at hv
                      refine r_il C dX7_plays_203 0 rfl ?_
                      refine r_aln C dX7_plays_205 rfl 7 rfl ?_
                      refine gf_X7_49 C 0 rfl rfl dX7_plays_206 ?_
                      refine r_iln C dX7_plays_209 rfl 5 rfl ?_
                      refine r_iald C 14 lv_3.toNatClampNeg rfl e13.1 (by omega) (by decide) rfl dX7_plays_210 ?_
                      refine r_ishr C dX7_plays_211 ?_
                      refine r_ic C (v := (1 : Int32)) dX7_plays_212 (by decide) ?_
                      refine r_iand C dX7_plays_213 ?_
                      refine r_ifne C (tgt := 230) dX7_plays_214 (by decide) (fun c35 => ?_) (fun c35 => ?_)
                      · rw [if_neg c35] at hv
                        exact X26 tr_25 hv
                      · rw [if_pos c35] at hv
                        refine r_aln C dX7_plays_217 rfl 7 rfl ?_
                        refine gf_X7_49 C 0 rfl rfl dX7_plays_218 ?_
                        refine r_iln C dX7_plays_221 rfl 5 rfl ?_
                        refine r_dup211 C dX7_plays_222 rfl rfl ?_
                        refine r_iald C 14 lv_3.toNatClampNeg rfl e13.1 (by omega) (by decide) rfl dX7_plays_223 ?_
                        refine r_ic C (v := (1 : Int32)) dX7_plays_224 (by decide) ?_
                        refine r_iadd C dX7_plays_225 ?_
                        refine r_iast C (ws2 := wM D o q1 q2 q3 q4 q5 q6 q7 q8 q9 q10 q11 q12 q13 q14 q15 q16 q17 q18 q19 q20 q21 q22 pe n la ri td ys ty ap wg rd (s_X7_playsF_m161_0 pe n la kd nd co wo lv_3 won_4 dwn_5 sm_6 vs_7 en_10) bt up lw ii kd dy nd co od wo tp rk ry rn (s_X7_playsF_m161_1 pe n la kd nd co wo lv_3 won_4 dwn_5 vs_7 en_10) bs ch_8 (upd tr_25 lv_3.toNatClampNeg ((tr_25 lv_3.toNatClampNeg) + (1 : Int32))) (s_X7_playsF_m161_3 pe n la kd nd co wo lv_3 won_4 dwn_5 vs_7 en_10) du ol ig ln sz it mo) h0 rfl 14 lv_3.toNatClampNeg rfl e13.1 (by omega) (by decide) dX7_plays_226 rfl rfl ?_
                        refine r_goto C (tgt := 181) dX7_plays_227 (by decide) ?_
                        exact ih32 (upd tr_25 lv_3.toNatClampNeg ((tr_25 lv_3.toNatClampNeg) + (1 : Int32))) (tr_s hn (by assumption) (by assumption) hk) hv
              exact L36 n (s_X7_playsF_m161_2 lv_3 dwn_5 tr_9) (tr_0 hn) hv
            refine r_icne C (tgt := 171) dX7_plays_164 (by decide) (fun c22 => ?_) (fun c22 => ?_)
            · skip
              refine r_aln C dX7_plays_171 rfl 6 rfl ?_
              refine r_il C dX7_plays_172 1 rfl ?_
              refine aft_rd (st' := [.int (s_X7_ofDay n dy ((11 : Int32) - lv_3))]) (run_V (rest := []) C (c_X7_ofDay l D o q1 q2 q3 q4 q5 q6 q7 q8 q9 q10 q11 q12 q13 q14 q15 q16 q17 q18 q19 q20 q21 q22 pe n la ri td ys ty ap wg rd (s_X7_playsF_m161_0 pe n la kd nd co wo lv_3 won_4 dwn_5 sm_6 vs_7 en_10) bt up lw ii kd dy nd co od wo tp rk ry rn (s_X7_playsF_m161_1 pe n la kd nd co wo lv_3 won_4 dwn_5 vs_7 en_10) bs ch_8 (s_X7_playsF_m161_2 lv_3 dwn_5 tr_9) (s_X7_playsF_m161_3 pe n la kd nd co wo lv_3 won_4 dwn_5 vs_7 en_10) du ol ig ln sz it mo ((11 : Int32) - lv_3) (by omega)) ok_X7_ofDay wn_X7_ofDay wl_X7_ofDay wm_X7_162 _ 0 rfl rfl rfl ⟨Nat.le_of_ble_eq_true rfl, Nat.le_of_ble_eq_true rfl⟩ fm_all rfl (Nat.le_of_ble_eq_true rfl) dX7_plays_174) rfl ?_
              refine r_iln C dX7_plays_177 rfl 5 rfl ?_
              refine r_iand C dX7_plays_178 ?_
              refine r_lv [0, 1, 2, 3, 4, 5, 6, 7] rfl ?_
              exact (by have z := J37; rw [show (s_X7_playsF_m179_0 pe n la kd dy nd itself lv_3) = (s_X7_ofDay n dy ((11 : Int32) - lv_3)) &&& (s_X7_stands n kd nd (0 : Int32) la) from (by unfold s_X7_playsF_m179_0; first | rfl | ((try rw [if_neg (show ¬ (nI ((11 - lv_3.toNatClampNeg) % pe) = itself) from by assumption)]); (try rfl); done) | (simp only [if_pos, if_neg, *, not_false_eq_true, ite_true, ite_false, if_true, if_false]; done) | (simp [*]; done))] at z; exact z)
            · skip
              refine r_ic C (v := (0 : Int32)) dX7_plays_167 (by decide) ?_
              refine r_goto C (tgt := 179) dX7_plays_168 (by decide) ?_
              refine r_lv [0, 1, 2, 3, 4, 5, 6, 7] rfl ?_
              exact (by have z := J37; rw [show (s_X7_playsF_m179_0 pe n la kd dy nd itself lv_3) = (0 : Int32) from (by unfold s_X7_playsF_m179_0; first | rfl | ((try rw [if_pos (show nI ((11 - lv_3.toNatClampNeg) % pe) = itself from by assumption)]); (try rfl); done) | (simp only [if_pos, if_neg, *, not_false_eq_true, ite_true, ite_false, if_true, if_false]; done) | (simp [*]; done))] at z; exact z)
          refine r_ifeq C (tgt := 90) dX7_plays_70 (by decide) (fun c15 => ?_) (fun c15 => ?_)
          · skip
            refine r_aln C dX7_plays_90 rfl 6 rfl ?_
            refine gf_X7_52 C 0 rfl rfl dX7_plays_91 ?_
            refine r_iln C dX7_plays_94 rfl 4 rfl ?_
            refine r_iald C 15 lv_3.toNatClampNeg rfl e13.1 (by omega) (by decide) rfl dX7_plays_95 ?_
            have J21 : GM p_ l e_ s_ m_ below_ meth_ c_ D 4 95 9 [.ref o, .int itself] (wM D o q1 q2 q3 q4 q5 q6 q7 q8 q9 q10 q11 q12 q13 q14 q15 q16 q17 q18 q19 q20 q21 q22 pe n la ri td ys ty ap wg rd V.2.1 bt up lw ii kd dy nd co od wo tp rk ry rn V.2.2.1 bs V.2.2.2.1 V.2.2.2.2.1 V.2.2.2.2.2.1 du ol ig ln sz it mo) (Ad (wM D o q1 q2 q3 q4 q5 q6 q7 q8 q9 q10 q11 q12 q13 q14 q15 q16 q17 q18 q19 q20 q21 q22 pe n la ri td ys ty ap wg rd sm bt up lw ii kd dy nd co od wo tp rk ry rn vs bs ch tr en du ol ig ln sz it mo)) (some (Value.int V.1)) (wM D o q1 q2 q3 q4 q5 q6 q7 q8 q9 q10 q11 q12 q13 q14 q15 q16 q17 q18 q19 q20 q21 q22 pe n la ri td ys ty ap wg rd (s_X7_playsF_m150_2 pe n la kd nd co wo lv_3 won_4 sm_6 vs_7 en_10) bt up lw ii kd dy nd co od wo tp rk ry rn (s_X7_playsF_m150_3 pe n la kd nd co wo lv_3 won_4 vs_7 en_10) bs ch_8 tr_9 en_10 du ol ig ln sz it mo) 150 [(8, .int (nI (s_X7_playsF_m150_0 pe n la kd nd co wo lv_3 won_4 vs_7 en_10))), (7, .int (nI ((11 - lv_3.toNatClampNeg) % pe))), (6, .int ((11 : Int32) - lv_3)), (5, .int (nI dwn_5)), (4, .int won_4), (3, .int lv_3), (2, .int (s_X7_stands n kd nd (0 : Int32) la)), (0, .ref o), (1, .int itself)] [.int (s_X7_playsF_m150_1 pe n la kd nd co wo lv_3 won_4 vs_7 en_10), .int lv_3, .ref q15] := by
              refine r_iast C (ws2 := wM D o q1 q2 q3 q4 q5 q6 q7 q8 q9 q10 q11 q12 q13 q14 q15 q16 q17 q18 q19 q20 q21 q22 pe n la ri td ys ty ap wg rd (s_X7_playsF_m150_2 pe n la kd nd co wo lv_3 won_4 sm_6 vs_7 en_10) bt up lw ii kd dy nd co od wo tp rk ry rn (s_X7_playsF_m150_3 pe n la kd nd co wo lv_3 won_4 vs_7 en_10) bs ch_8 tr_9 (upd en_10 lv_3.toNatClampNeg (s_X7_playsF_m150_1 pe n la kd nd co wo lv_3 won_4 vs_7 en_10)) du ol ig ln sz it mo) h0 rfl 15 lv_3.toNatClampNeg rfl e13.1 (by omega) (by decide) dX7_plays_150 rfl rfl ?_
              refine r_aln C dX7_plays_151 rfl 7 rfl ?_
              refine gf_X7_49 C 0 rfl rfl dX7_plays_152 ?_
              refine r_iln C dX7_plays_155 rfl 5 rfl ?_
              refine r_dup211 C dX7_plays_156 rfl rfl ?_
              refine r_iald C 14 lv_3.toNatClampNeg rfl e13.1 (by omega) (by decide) rfl dX7_plays_157 ?_
              refine r_ic C (v := (1 : Int32)) dX7_plays_158 (by decide) ?_
              refine r_iadd C dX7_plays_159 ?_
              refine r_iast C (ws2 := wM D o q1 q2 q3 q4 q5 q6 q7 q8 q9 q10 q11 q12 q13 q14 q15 q16 q17 q18 q19 q20 q21 q22 pe n la ri td ys ty ap wg rd (s_X7_playsF_m150_2 pe n la kd nd co wo lv_3 won_4 sm_6 vs_7 en_10) bt up lw ii kd dy nd co od wo tp rk ry rn (s_X7_playsF_m150_3 pe n la kd nd co wo lv_3 won_4 vs_7 en_10) bs ch_8 (upd tr_9 lv_3.toNatClampNeg ((tr_9 lv_3.toNatClampNeg) + (1 : Int32))) (upd en_10 lv_3.toNatClampNeg (s_X7_playsF_m150_1 pe n la kd nd co wo lv_3 won_4 vs_7 en_10)) du ol ig ln sz it mo) h0 rfl 14 lv_3.toNatClampNeg rfl e13.1 (by omega) (by decide) dX7_plays_160 rfl rfl ?_
              refine r_lv [1, 2, 3, 4, 5, 6, 7, 8] rfl ?_
              exact (by have z := J38; rw [show (s_X7_playsF_m161_0 pe n la kd nd co wo lv_3 won_4 dwn_5 sm_6 vs_7 en_10) = s_X7_playsF_m150_2 pe n la kd nd co wo lv_3 won_4 sm_6 vs_7 en_10 from (by unfold s_X7_playsF_m161_0; first | rfl | ((try rw [if_pos (show nI dwn_5 = (0 : Int32) from by assumption)]); (try rfl); done) | (simp only [if_pos, if_neg, *, not_false_eq_true, ite_true, ite_false, if_true, if_false]; done) | (simp [*]; done)), show (s_X7_playsF_m161_1 pe n la kd nd co wo lv_3 won_4 dwn_5 vs_7 en_10) = s_X7_playsF_m150_3 pe n la kd nd co wo lv_3 won_4 vs_7 en_10 from (by unfold s_X7_playsF_m161_1; first | rfl | ((try rw [if_pos (show nI dwn_5 = (0 : Int32) from by assumption)]); (try rfl); done) | (simp only [if_pos, if_neg, *, not_false_eq_true, ite_true, ite_false, if_true, if_false]; done) | (simp [*]; done)), show (s_X7_playsF_m161_2 lv_3 dwn_5 tr_9) = upd tr_9 lv_3.toNatClampNeg ((tr_9 lv_3.toNatClampNeg) + (1 : Int32)) from (by unfold s_X7_playsF_m161_2; first | rfl | ((try rw [if_pos (show nI dwn_5 = (0 : Int32) from by assumption)]); (try rfl); done) | (simp only [if_pos, if_neg, *, not_false_eq_true, ite_true, ite_false, if_true, if_false]; done) | (simp [*]; done)), show (s_X7_playsF_m161_3 pe n la kd nd co wo lv_3 won_4 dwn_5 vs_7 en_10) = upd en_10 lv_3.toNatClampNeg (s_X7_playsF_m150_1 pe n la kd nd co wo lv_3 won_4 vs_7 en_10) from (by unfold s_X7_playsF_m161_3; first | rfl | ((try rw [if_pos (show nI dwn_5 = (0 : Int32) from by assumption)]); (try rfl); done) | (simp only [if_pos, if_neg, *, not_false_eq_true, ite_true, ite_false, if_true, if_false]; done) | (simp [*]; done))] at z; exact z)
            refine r_iflt C (tgt := 122) dX7_plays_96 (by decide) (fun c16 => ?_) (fun c16 => ?_)
            · skip
              refine r_ic C (v := (1 : Int32)) dX7_plays_122 (by decide) ?_
              refine r_goto C (tgt := 127) dX7_plays_123 (by decide) ?_
              refine r_is C (lv' := [(8, .int (1 : Int32)), (7, .int (nI ((11 - lv_3.toNatClampNeg) % pe))), (6, .int ((11 : Int32) - lv_3)), (5, .int (nI dwn_5)), (4, .int won_4), (3, .int lv_3), (2, .int (s_X7_stands n kd nd (0 : Int32) la)), (0, .ref o), (1, .int itself)]) dX7_plays_127 (by decide) rfl ?_
              refine r_aln C dX7_plays_129 rfl 7 rfl ?_
              refine gf_X7_52 C 0 rfl rfl dX7_plays_130 ?_
              refine r_iln C dX7_plays_133 rfl 5 rfl ?_
              refine r_il C dX7_plays_134 0 rfl ?_
              refine r_ifeq C (tgt := 144) dX7_plays_136 (by decide) (fun c17 => ?_) (fun c17 => ?_)
              · exact absurd c17 (by decide)
              · skip
                refine r_il C dX7_plays_139 4 rfl ?_
                refine r_goto C (tgt := 150) dX7_plays_141 (by decide) ?_
                refine r_lv [0, 1, 2, 3, 4, 5, 6, 7, 8] rfl ?_
                refine r_lve (lv2 := [(8, .int (nI 1)), (7, .int (nI ((11 - lv_3.toNatClampNeg) % pe))), (6, .int ((11 : Int32) - lv_3)), (5, .int (nI dwn_5)), (4, .int won_4), (3, .int lv_3), (2, .int (s_X7_stands n kd nd (0 : Int32) la)), (0, .ref o), (1, .int itself)]) rfl ?_
                refine r_stk (st2 := [.int won_4, .int lv_3, .ref q15]) rfl ?_
                exact (by have z := J21; rw [show (s_X7_playsF_m150_0 pe n la kd nd co wo lv_3 won_4 vs_7 en_10) = 1 from (by unfold s_X7_playsF_m150_0; first | rfl | ((try rw [if_pos (show en_10 lv_3.toNatClampNeg < (0 : Int32) from by assumption)]); (try rfl); done) | (simp only [if_pos, if_neg, *, not_false_eq_true, ite_true, ite_false, if_true, if_false]; done) | (simp [*]; done)), show (s_X7_playsF_m150_1 pe n la kd nd co wo lv_3 won_4 vs_7 en_10) = won_4 from (by unfold s_X7_playsF_m150_1; first | rfl | ((try rw [if_pos (show en_10 lv_3.toNatClampNeg < (0 : Int32) from by assumption)]); (try rfl); done) | (simp only [if_pos, if_neg, *, not_false_eq_true, ite_true, ite_false, if_true, if_false]; done) | (simp [*]; done)), show (s_X7_playsF_m150_2 pe n la kd nd co wo lv_3 won_4 sm_6 vs_7 en_10) = sm_6 from (by unfold s_X7_playsF_m150_2; first | rfl | ((try rw [if_pos (show en_10 lv_3.toNatClampNeg < (0 : Int32) from by assumption)]); (try rfl); done) | (simp only [if_pos, if_neg, *, not_false_eq_true, ite_true, ite_false, if_true, if_false]; done) | (simp [*]; done)), show (s_X7_playsF_m150_3 pe n la kd nd co wo lv_3 won_4 vs_7 en_10) = vs_7 from (by unfold s_X7_playsF_m150_3; first | rfl | ((try rw [if_pos (show en_10 lv_3.toNatClampNeg < (0 : Int32) from by assumption)]); (try rfl); done) | (simp only [if_pos, if_neg, *, not_false_eq_true, ite_true, ite_false, if_true, if_false]; done) | (simp [*]; done))] at z; exact z)
            · skip
              refine r_aln C dX7_plays_99 rfl 6 rfl ?_
              refine r_il C dX7_plays_100 3 rfl ?_
              refine r_il C dX7_plays_102 0 rfl ?_
              refine aft_wa (ws2 := wM D o q1 q2 q3 q4 q5 q6 q7 q8 q9 q10 q11 q12 q13 q14 q15 q16 q17 q18 q19 q20 q21 q22 pe n la ri td ys ty ap wg rd ((s_X7_counts pe n kd nd co wo vs_7 won_4 la).1) bt up lw ii kd dy nd co od wo tp rk ry rn ((s_X7_counts pe n kd nd co wo vs_7 won_4 la).2) bs ch_8 tr_9 en_10 du ol ig ln sz it mo) (st' := [.int (((s_X7_counts pe n kd nd co wo vs_7 won_4 la).2) ((11 - lv_3.toNatClampNeg) % pe))]) h0 rfl rfl (run_V (rest := []) C (c_X7_own l D o q1 q2 q3 q4 q5 q6 q7 q8 q9 q10 q11 q12 q13 q14 q15 q16 q17 q18 q19 q20 q21 q22 pe n la ri td ys ty ap wg rd sm_6 bt up lw ii kd dy nd co od wo tp rk ry rn vs_7 bs ch_8 tr_9 en_10 du ol ig ln sz it mo won_4 ((11 - lv_3.toNatClampNeg) % pe) (by omega) (by omega) (by omega) (dis_all h0 rfl)) ok_X7_own wn_X7_own wl_X7_own wm_X7_195 _ 0 rfl rfl rfl ⟨Nat.le_of_ble_eq_true rfl, Nat.le_of_ble_eq_true rfl⟩ fm_all rfl (Nat.le_of_ble_eq_true rfl) dX7_plays_104) rfl rfl ?_
              refine r_aln C dX7_plays_107 rfl 6 rfl ?_
              refine r_aln C dX7_plays_108 rfl 6 rfl ?_
              refine gf_X7_52 C 0 rfl rfl dX7_plays_109 ?_
              refine r_iln C dX7_plays_112 rfl 4 rfl ?_
              refine r_iald C 15 lv_3.toNatClampNeg rfl e13.1 (by omega) (by decide) rfl dX7_plays_113 ?_
              refine r_il C dX7_plays_114 0 rfl ?_
              refine aft_wa (ws2 := wM D o q1 q2 q3 q4 q5 q6 q7 q8 q9 q10 q11 q12 q13 q14 q15 q16 q17 q18 q19 q20 q21 q22 pe n la ri td ys ty ap wg rd ((s_X7_counts pe n kd nd co wo ((s_X7_counts pe n kd nd co wo vs_7 won_4 la).2) (en_10 lv_3.toNatClampNeg) la).1) bt up lw ii kd dy nd co od wo tp rk ry rn ((s_X7_counts pe n kd nd co wo ((s_X7_counts pe n kd nd co wo vs_7 won_4 la).2) (en_10 lv_3.toNatClampNeg) la).2) bs ch_8 tr_9 en_10 du ol ig ln sz it mo) (st' := [.int (((s_X7_counts pe n kd nd co wo ((s_X7_counts pe n kd nd co wo vs_7 won_4 la).2) (en_10 lv_3.toNatClampNeg) la).2) ((11 - lv_3.toNatClampNeg) % pe)), .int (((s_X7_counts pe n kd nd co wo vs_7 won_4 la).2) ((11 - lv_3.toNatClampNeg) % pe))]) h0 rfl rfl (run_V (rest := [.int (((s_X7_counts pe n kd nd co wo vs_7 won_4 la).2) ((11 - lv_3.toNatClampNeg) % pe))]) C (c_X7_own l D o q1 q2 q3 q4 q5 q6 q7 q8 q9 q10 q11 q12 q13 q14 q15 q16 q17 q18 q19 q20 q21 q22 pe n la ri td ys ty ap wg rd ((s_X7_counts pe n kd nd co wo vs_7 won_4 la).1) bt up lw ii kd dy nd co od wo tp rk ry rn ((s_X7_counts pe n kd nd co wo vs_7 won_4 la).2) bs ch_8 tr_9 en_10 du ol ig ln sz it mo (en_10 lv_3.toNatClampNeg) ((11 - lv_3.toNatClampNeg) % pe) (by omega) (by omega) (by omega) (dis_all h0 rfl)) ok_X7_own wn_X7_own wl_X7_own wm_X7_195 _ 0 rfl rfl rfl ⟨Nat.le_of_ble_eq_true rfl, Nat.le_of_ble_eq_true rfl⟩ fm_all rfl (Nat.le_of_ble_eq_true rfl) dX7_plays_116) rfl rfl ?_
              refine r_icle C (tgt := 126) dX7_plays_119 (by decide) (fun c18 => ?_) (fun c18 => ?_)
              · skip
                refine r_ic C (v := (0 : Int32)) dX7_plays_126 (by decide) ?_
                refine r_is C (lv' := [(8, .int (0 : Int32)), (7, .int (nI ((11 - lv_3.toNatClampNeg) % pe))), (6, .int ((11 : Int32) - lv_3)), (5, .int (nI dwn_5)), (4, .int won_4), (3, .int lv_3), (2, .int (s_X7_stands n kd nd (0 : Int32) la)), (0, .ref o), (1, .int itself)]) dX7_plays_127 (by decide) rfl ?_
                refine r_aln C dX7_plays_129 rfl 7 rfl ?_
                refine gf_X7_52 C 0 rfl rfl dX7_plays_130 ?_
                refine r_iln C dX7_plays_133 rfl 5 rfl ?_
                refine r_il C dX7_plays_134 0 rfl ?_
                refine r_ifeq C (tgt := 144) dX7_plays_136 (by decide) (fun c19 => ?_) (fun c19 => ?_)
                · skip
                  refine r_aln C dX7_plays_144 rfl 7 rfl ?_
                  refine gf_X7_52 C 0 rfl rfl dX7_plays_145 ?_
                  refine r_iln C dX7_plays_148 rfl 5 rfl ?_
                  refine r_iald C 15 lv_3.toNatClampNeg rfl e13.1 (by omega) (by decide) rfl dX7_plays_149 ?_
                  refine r_lv [0, 1, 2, 3, 4, 5, 6, 7, 8] rfl ?_
                  refine r_lve (lv2 := [(8, .int (nI 0)), (7, .int (nI ((11 - lv_3.toNatClampNeg) % pe))), (6, .int ((11 : Int32) - lv_3)), (5, .int (nI dwn_5)), (4, .int won_4), (3, .int lv_3), (2, .int (s_X7_stands n kd nd (0 : Int32) la)), (0, .ref o), (1, .int itself)]) rfl ?_
                  refine r_stk (st2 := [.int (en_10 lv_3.toNatClampNeg), .int lv_3, .ref q15]) rfl ?_
                  exact (by have z := J21; rw [show (s_X7_playsF_m150_0 pe n la kd nd co wo lv_3 won_4 vs_7 en_10) = 0 from (by unfold s_X7_playsF_m150_0; first | rfl | ((try rw [if_neg (show ¬ (en_10 lv_3.toNatClampNeg < (0 : Int32)) from by assumption)]); (try rw [if_neg (show ¬ (((s_X7_counts pe n kd nd co wo ((s_X7_counts pe n kd nd co wo vs_7 won_4 la).2) (en_10 lv_3.toNatClampNeg) la).2) ((11 - lv_3.toNatClampNeg) % pe) < ((s_X7_counts pe n kd nd co wo vs_7 won_4 la).2) ((11 - lv_3.toNatClampNeg) % pe)) from by assumption)]); (try rfl); done) | (simp only [if_pos, if_neg, *, not_false_eq_true, ite_true, ite_false, if_true, if_false]; done) | (simp [*]; done)), show (s_X7_playsF_m150_1 pe n la kd nd co wo lv_3 won_4 vs_7 en_10) = en_10 lv_3.toNatClampNeg from (by unfold s_X7_playsF_m150_1; first | rfl | ((try rw [if_neg (show ¬ (en_10 lv_3.toNatClampNeg < (0 : Int32)) from by assumption)]); (try rw [if_neg (show ¬ (((s_X7_counts pe n kd nd co wo ((s_X7_counts pe n kd nd co wo vs_7 won_4 la).2) (en_10 lv_3.toNatClampNeg) la).2) ((11 - lv_3.toNatClampNeg) % pe) < ((s_X7_counts pe n kd nd co wo vs_7 won_4 la).2) ((11 - lv_3.toNatClampNeg) % pe)) from by assumption)]); (try rfl); done) | (simp only [if_pos, if_neg, *, not_false_eq_true, ite_true, ite_false, if_true, if_false]; done) | (simp [*]; done)), show (s_X7_playsF_m150_2 pe n la kd nd co wo lv_3 won_4 sm_6 vs_7 en_10) = (s_X7_counts pe n kd nd co wo ((s_X7_counts pe n kd nd co wo vs_7 won_4 la).2) (en_10 lv_3.toNatClampNeg) la).1 from (by unfold s_X7_playsF_m150_2; first | rfl | ((try rw [if_neg (show ¬ (en_10 lv_3.toNatClampNeg < (0 : Int32)) from by assumption)]); (try rw [if_neg (show ¬ (((s_X7_counts pe n kd nd co wo ((s_X7_counts pe n kd nd co wo vs_7 won_4 la).2) (en_10 lv_3.toNatClampNeg) la).2) ((11 - lv_3.toNatClampNeg) % pe) < ((s_X7_counts pe n kd nd co wo vs_7 won_4 la).2) ((11 - lv_3.toNatClampNeg) % pe)) from by assumption)]); (try rfl); done) | (simp only [if_pos, if_neg, *, not_false_eq_true, ite_true, ite_false, if_true, if_false]; done) | (simp [*]; done)), show (s_X7_playsF_m150_3 pe n la kd nd co wo lv_3 won_4 vs_7 en_10) = (s_X7_counts pe n kd nd co wo ((s_X7_counts pe n kd nd co wo vs_7 won_4 la).2) (en_10 lv_3.toNatClampNeg) la).2 from (by unfold s_X7_playsF_m150_3; first | rfl | ((try rw [if_neg (show ¬ (en_10 lv_3.toNatClampNeg < (0 : Int32)) from by assumption)]); (try rw [if_neg (show ¬ (((s_X7_counts pe n kd nd co wo ((s_X7_counts pe n kd nd co wo vs_7 won_4 la).2) (en_10 lv_3.toNatClampNeg) la).2) ((11 - lv_3.toNatClampNeg) % pe) < ((s_X7_counts pe n kd nd co wo vs_7 won_4 la).2) ((11 - lv_3.toNatClampNeg) % pe)) from by assumption)]); (try rfl); done) | (simp only [if_pos, if_neg, *, not_false_eq_true, ite_true, ite_false, if_true, if_false]; done) | (simp [*]; done))] at z; exact z)
                · exact absurd (by decide) c19
              · skip
                refine r_ic C (v := (1 : Int32)) dX7_plays_122 (by decide) ?_
                refine r_goto C (tgt := 127) dX7_plays_123 (by decide) ?_
                refine r_is C (lv' := [(8, .int (1 : Int32)), (7, .int (nI ((11 - lv_3.toNatClampNeg) % pe))), (6, .int ((11 : Int32) - lv_3)), (5, .int (nI dwn_5)), (4, .int won_4), (3, .int lv_3), (2, .int (s_X7_stands n kd nd (0 : Int32) la)), (0, .ref o), (1, .int itself)]) dX7_plays_127 (by decide) rfl ?_
                refine r_aln C dX7_plays_129 rfl 7 rfl ?_
                refine gf_X7_52 C 0 rfl rfl dX7_plays_130 ?_
                refine r_iln C dX7_plays_133 rfl 5 rfl ?_
                refine r_il C dX7_plays_134 0 rfl ?_
                refine r_ifeq C (tgt := 144) dX7_plays_136 (by decide) (fun c20 => ?_) (fun c20 => ?_)
                · exact absurd c20 (by decide)
                · skip
                  refine r_il C dX7_plays_139 4 rfl ?_
                  refine r_goto C (tgt := 150) dX7_plays_141 (by decide) ?_
                  refine r_lv [0, 1, 2, 3, 4, 5, 6, 7, 8] rfl ?_
                  refine r_lve (lv2 := [(8, .int (nI 1)), (7, .int (nI ((11 - lv_3.toNatClampNeg) % pe))), (6, .int ((11 : Int32) - lv_3)), (5, .int (nI dwn_5)), (4, .int won_4), (3, .int lv_3), (2, .int (s_X7_stands n kd nd (0 : Int32) la)), (0, .ref o), (1, .int itself)]) rfl ?_
                  refine r_stk (st2 := [.int won_4, .int lv_3, .ref q15]) rfl ?_
                  exact (by have z := J21; rw [show (s_X7_playsF_m150_0 pe n la kd nd co wo lv_3 won_4 vs_7 en_10) = 1 from (by unfold s_X7_playsF_m150_0; first | rfl | ((try rw [if_neg (show ¬ (en_10 lv_3.toNatClampNeg < (0 : Int32)) from by assumption)]); (try rw [if_pos (show ((s_X7_counts pe n kd nd co wo ((s_X7_counts pe n kd nd co wo vs_7 won_4 la).2) (en_10 lv_3.toNatClampNeg) la).2) ((11 - lv_3.toNatClampNeg) % pe) < ((s_X7_counts pe n kd nd co wo vs_7 won_4 la).2) ((11 - lv_3.toNatClampNeg) % pe) from by assumption)]); (try rfl); done) | (simp only [if_pos, if_neg, *, not_false_eq_true, ite_true, ite_false, if_true, if_false]; done) | (simp [*]; done)), show (s_X7_playsF_m150_1 pe n la kd nd co wo lv_3 won_4 vs_7 en_10) = won_4 from (by unfold s_X7_playsF_m150_1; first | rfl | ((try rw [if_neg (show ¬ (en_10 lv_3.toNatClampNeg < (0 : Int32)) from by assumption)]); (try rw [if_pos (show ((s_X7_counts pe n kd nd co wo ((s_X7_counts pe n kd nd co wo vs_7 won_4 la).2) (en_10 lv_3.toNatClampNeg) la).2) ((11 - lv_3.toNatClampNeg) % pe) < ((s_X7_counts pe n kd nd co wo vs_7 won_4 la).2) ((11 - lv_3.toNatClampNeg) % pe) from by assumption)]); (try rfl); done) | (simp only [if_pos, if_neg, *, not_false_eq_true, ite_true, ite_false, if_true, if_false]; done) | (simp [*]; done)), show (s_X7_playsF_m150_2 pe n la kd nd co wo lv_3 won_4 sm_6 vs_7 en_10) = (s_X7_counts pe n kd nd co wo ((s_X7_counts pe n kd nd co wo vs_7 won_4 la).2) (en_10 lv_3.toNatClampNeg) la).1 from (by unfold s_X7_playsF_m150_2; first | rfl | ((try rw [if_neg (show ¬ (en_10 lv_3.toNatClampNeg < (0 : Int32)) from by assumption)]); (try rw [if_pos (show ((s_X7_counts pe n kd nd co wo ((s_X7_counts pe n kd nd co wo vs_7 won_4 la).2) (en_10 lv_3.toNatClampNeg) la).2) ((11 - lv_3.toNatClampNeg) % pe) < ((s_X7_counts pe n kd nd co wo vs_7 won_4 la).2) ((11 - lv_3.toNatClampNeg) % pe) from by assumption)]); (try rfl); done) | (simp only [if_pos, if_neg, *, not_false_eq_true, ite_true, ite_false, if_true, if_false]; done) | (simp [*]; done)), show (s_X7_playsF_m150_3 pe n la kd nd co wo lv_3 won_4 vs_7 en_10) = (s_X7_counts pe n kd nd co wo ((s_X7_counts pe n kd nd co wo vs_7 won_4 la).2) (en_10 lv_3.toNatClampNeg) la).2 from (by unfold s_X7_playsF_m150_3; first | rfl | ((try rw [if_neg (show ¬ (en_10 lv_3.toNatClampNeg < (0 : Int32)) from by assumption)]); (try rw [if_pos (show ((s_X7_counts pe n kd nd co wo ((s_X7_counts pe n kd nd co wo vs_7 won_4 la).2) (en_10 lv_3.toNatClampNeg) la).2) ((11 - lv_3.toNatClampNeg) % pe) < ((s_X7_counts pe n kd nd co wo vs_7 won_4 la).2) ((11 - lv_3.toNatClampNeg) % pe) from by assumption)]); (try rfl); done) | (simp only [if_pos, if_neg, *, not_false_eq_true, ite_true, ite_false, if_true, if_false]; done) | (simp [*]; done))] at z; exact z)
          · skip
            refine r_aln C dX7_plays_73 rfl 6 rfl ?_
            refine gf_X7_49 C 0 rfl rfl dX7_plays_74 ?_
            refine r_iln C dX7_plays_77 rfl 4 rfl ?_
            refine r_ic C (v := (-1 : Int32)) dX7_plays_78 (by decide) ?_
            refine r_iast C (ws2 := wM D o q1 q2 q3 q4 q5 q6 q7 q8 q9 q10 q11 q12 q13 q14 q15 q16 q17 q18 q19 q20 q21 q22 pe n la ri td ys ty ap wg rd sm_6 bt up lw ii kd dy nd co od wo tp rk ry rn vs_7 bs ch_8 (upd tr_9 lv_3.toNatClampNeg (-1 : Int32)) en_10 du ol ig ln sz it mo) h0 rfl 14 lv_3.toNatClampNeg rfl e13.1 (by omega) (by decide) dX7_plays_79 rfl rfl ?_
            refine r_aln C dX7_plays_80 rfl 6 rfl ?_
            refine gf_X7_52 C 0 rfl rfl dX7_plays_81 ?_
            refine r_iln C dX7_plays_84 rfl 4 rfl ?_
            refine r_ic C (v := (-1 : Int32)) dX7_plays_85 (by decide) ?_
            refine r_iast C (ws2 := wM D o q1 q2 q3 q4 q5 q6 q7 q8 q9 q10 q11 q12 q13 q14 q15 q16 q17 q18 q19 q20 q21 q22 pe n la ri td ys ty ap wg rd sm_6 bt up lw ii kd dy nd co od wo tp rk ry rn vs_7 bs ch_8 (upd tr_9 lv_3.toNatClampNeg (-1 : Int32)) (upd en_10 lv_3.toNatClampNeg (-1 : Int32)) du ol ig ln sz it mo) h0 rfl 15 lv_3.toNatClampNeg rfl e13.1 (by omega) (by decide) dX7_plays_86 rfl rfl ?_
            refine r_goto C (tgt := 161) dX7_plays_87 (by decide) ?_
            refine r_lv [0, 1, 2, 3, 4, 5, 6, 7] rfl ?_
            exact (by have z := J38; rw [show (s_X7_playsF_m161_0 pe n la kd nd co wo lv_3 won_4 dwn_5 sm_6 vs_7 en_10) = sm_6 from (by unfold s_X7_playsF_m161_0; first | rfl | ((try rw [if_neg (show ¬ (nI dwn_5 = (0 : Int32)) from by assumption)]); (try rfl); done) | (simp only [if_pos, if_neg, *, not_false_eq_true, ite_true, ite_false, if_true, if_false]; done) | (simp [*]; done)), show (s_X7_playsF_m161_1 pe n la kd nd co wo lv_3 won_4 dwn_5 vs_7 en_10) = vs_7 from (by unfold s_X7_playsF_m161_1; first | rfl | ((try rw [if_neg (show ¬ (nI dwn_5 = (0 : Int32)) from by assumption)]); (try rfl); done) | (simp only [if_pos, if_neg, *, not_false_eq_true, ite_true, ite_false, if_true, if_false]; done) | (simp [*]; done)), show (s_X7_playsF_m161_2 lv_3 dwn_5 tr_9) = upd tr_9 lv_3.toNatClampNeg (-1 : Int32) from (by unfold s_X7_playsF_m161_2; first | rfl | ((try rw [if_neg (show ¬ (nI dwn_5 = (0 : Int32)) from by assumption)]); (try rfl); done) | (simp only [if_pos, if_neg, *, not_false_eq_true, ite_true, ite_false, if_true, if_false]; done) | (simp [*]; done)), show (s_X7_playsF_m161_3 pe n la kd nd co wo lv_3 won_4 dwn_5 vs_7 en_10) = upd en_10 lv_3.toNatClampNeg (-1 : Int32) from (by unfold s_X7_playsF_m161_3; first | rfl | ((try rw [if_neg (show ¬ (nI dwn_5 = (0 : Int32)) from by assumption)]); (try rfl); done) | (simp only [if_pos, if_neg, *, not_false_eq_true, ite_true, ite_false, if_true, if_false]; done) | (simp [*]; done))] at z; exact z)
        · rw [if_pos c14] at hv
          have fc14 : lv_3.toNatClampNeg = 12 := (nv_eq (a := lv_3.toNatClampNeg) (b := 12) e13.1 rfl (by omega) (by omega)).mp c14
          refine r_aln C dX7_plays_41 rfl 5 rfl ?_
          refine gf_X7_46 C 0 rfl rfl dX7_plays_42 ?_
          refine r_bp C (v := (12 : Int32)) dX7_plays_45 (by decide) ?_
          refine r_iald C 13 12 rfl rfl (by omega) (by decide) rfl dX7_plays_47 ?_
          refine r_is C (lv' := [(4, .int (ch_8 12)), (6, .int ((11 : Int32) - lv_3)), (5, .int (nI dwn_5)), (3, .int lv_3), (2, .int (s_X7_stands n kd nd (0 : Int32) la)), (0, .ref o), (1, .int itself)]) dX7_plays_48 (by decide) rfl ?_
          refine r_inc C (v := lv_3 + (-1 : Int32)) (lv' := [(3, .int (lv_3 + (-1 : Int32))), (4, .int (ch_8 12)), (6, .int ((11 : Int32) - lv_3)), (5, .int (nI dwn_5)), (2, .int (s_X7_stands n kd nd (0 : Int32) la)), (0, .ref o), (1, .int itself)]) dX7_plays_50 3 rfl (by rfl) (by decide) rfl ?_
          have hlv2 : lvOK (lv_3 + (-1 : Int32)) := lvOK_dec (by assumption)
          refine r_ic C (v := (0 : Int32)) dX7_plays_53 (by decide) ?_
          refine r_is C (lv' := [(5, .int (0 : Int32)), (3, .int (lv_3 + (-1 : Int32))), (4, .int (ch_8 12)), (6, .int ((11 : Int32) - lv_3)), (2, .int (s_X7_stands n kd nd (0 : Int32) la)), (0, .ref o), (1, .int itself)]) dX7_plays_54 (by decide) rfl ?_
          refine r_goto C (tgt := 302) dX7_plays_56 (by decide) ?_
          refine r_goto C (tgt := 25) dX7_plays_302 (by decide) ?_
          refine r_lv [0, 2, 1, 4, 5, 6] rfl ?_
          refine r_lve (lv2 := [(5, .int (nI 0)), (4, .int (ch_8 12)), (3, .int (lv_3 + (-1 : Int32))), (2, .int (s_X7_stands n kd nd (0 : Int32) la)), (0, .ref o), (1, .int itself)]) (congrArg (fun (z : Int32) => ([(5, .int z), (4, .int (ch_8 12)), (3, .int (lv_3 + (-1 : Int32))), (2, .int (s_X7_stands n kd nd (0 : Int32) la)), (0, .ref o), (1, .int itself)] : List (Nat × Value))) rfl) ?_
          exact ih11 (lv_3 + (-1 : Int32)) (ch_8 12) 0 sm_6 vs_7 ch_8 tr_9 en_10 rfl hlv2 hv
  refine r_lve (lv2 := [(5, .int (nI 1)), (4, .int (0 : Int32)), (3, .int (0 : Int32)), (2, .int (s_X7_stands n kd nd (0 : Int32) la)), (0, .ref o), (1, .int itself)]) (congrArg (fun (z : Int32) => ([(5, .int z), (4, .int (0 : Int32)), (3, .int (0 : Int32)), (2, .int (s_X7_stands n kd nd (0 : Int32) la)), (0, .ref o), (1, .int itself)] : List (Nat × Value))) rfl) ?_
  exact L39 fuel (0 : Int32) (0 : Int32) 1 sm vs (upd ch 0 (0 : Int32)) tr en rfl (lvOK_nI (d := 0) (by omega)) hv
