def s_X7_upper (pe : Nat) (n : Nat) (la : Int32) (kd : Nat → Int32) (nd : Nat → Int32) (od : Nat → Int32) (wo : Nat → Int32) : Int64 × Int64 × Int64 := ((s_X7_expects pe n la kd nd od wo).1, (s_X7_expects pe n la kd nd od wo).1, (s_X7_expects pe n la kd nd od wo).2)
set_option maxHeartbeats 8000000 in
set_option maxRecDepth 100000 in
theorem c_X7_upper (l : Launch) (D : va_G) (o : Nat) (q1 : Nat) (q2 : Nat) (q3 : Nat) (q4 : Nat) (q5 : Nat) (q6 : Nat) (q7 : Nat) (q8 : Nat) (q9 : Nat) (q10 : Nat) (q11 : Nat) (q12 : Nat) (q13 : Nat) (q14 : Nat) (q15 : Nat) (q16 : Nat) (q17 : Nat) (q18 : Nat) (q19 : Nat) (q20 : Nat) (q21 : Nat) (q22 : Nat) (pe : Nat) (n : Nat) (la : Int32) (ri : Int32) (td : Int32) (ys : Int32) (ty : Nat) (ap : Nat) (wg : Int32) (rd : Nat) (sm : Int32) (bt : Int32) (up : Int64) (lw : Int64) (ii : Int32) (kd : Nat → Int32) (dy : Nat → Int32) (nd : Nat → Int32) (co : Nat → Int32) (od : Nat → Int32) (wo : Nat → Int32) (tp : Nat → Int32) (rk : Nat → Int32) (ry : Nat → Int32) (rn : Nat → Int32) (vs : Nat → Int32) (bs : Nat → Int32) (ch : Nat → Int32) (tr : Nat → Int32) (en : Nat → Int32) (du : Nat → Int32) (ol : Nat → Int32) (ig : Nat → Int32) (ln : Nat → Int32) (sz : Nat → Int32) (it : Nat → Int64) (mo : Nat → Int64) (hn : n ≤ 12) (hp : 1 ≤ pe ∧ pe ≤ 4) (h0 : va_D (fun _ => True) (wM D o q1 q2 q3 q4 q5 q6 q7 q8 q9 q10 q11 q12 q13 q14 q15 q16 q17 q18 q19 q20 q21 q22 pe n la ri td ys ty ap wg rd sm bt up lw ii kd dy nd co od wo tp rk ry rn vs bs ch tr en du ol ig ln sz it mo)) : ct l yX7_upper cX7_upper 1 (some .long) 2 55 D [.ref o] (wM D o q1 q2 q3 q4 q5 q6 q7 q8 q9 q10 q11 q12 q13 q14 q15 q16 q17 q18 q19 q20 q21 q22 pe n la ri td ys ty ap wg rd sm bt up lw ii kd dy nd co od wo tp rk ry rn vs bs ch tr en du ol ig ln sz it mo) (wM D o q1 q2 q3 q4 q5 q6 q7 q8 q9 q10 q11 q12 q13 q14 q15 q16 q17 q18 q19 q20 q21 q22 pe n la ri td ys ty ap wg rd sm bt (s_X7_upper pe n la kd nd od wo).2.1 (s_X7_upper pe n la kd nd od wo).2.2 ii kd dy nd co od wo tp rk ry rn vs bs ch tr en du ol ig ln sz it mo) (Ad (wM D o q1 q2 q3 q4 q5 q6 q7 q8 q9 q10 q11 q12 q13 q14 q15 q16 q17 q18 q19 q20 q21 q22 pe n la ri td ys ty ap wg rd sm bt up lw ii kd dy nd co od wo tp rk ry rn vs bs ch tr en du ol ig ln sz it mo)) (some (Value.long (s_X7_upper pe n la kd nd od wo).1)) := by
  obtain ⟨V, hv⟩ : ∃ V, s_X7_upper pe n la kd nd od wo = V := ⟨_, rfl⟩
  rw [hv]
  refine ct_intro (own := RX7) (lv := [(0, .ref o)]) (by decide) rfl (Nat.le_of_ble_eq_true rfl) rfl ?_
  intro p_ e_ s_ m_ below_ meth_ c_ C
  have hv : ((s_X7_expects pe n la kd nd od wo).1, (s_X7_expects pe n la kd nd od wo).1, (s_X7_expects pe n la kd nd od wo).2) = V := hv
  refine r_aln C dX7_upper_0 rfl 0 rfl ?_
  refine aft_wa (ws2 := wM D o q1 q2 q3 q4 q5 q6 q7 q8 q9 q10 q11 q12 q13 q14 q15 q16 q17 q18 q19 q20 q21 q22 pe n la ri td ys ty ap wg rd sm bt ((s_X7_expects pe n la kd nd od wo).1) ((s_X7_expects pe n la kd nd od wo).2) ii kd dy nd co od wo tp rk ry rn vs bs ch tr en du ol ig ln sz it mo) (st' := []) h0 rfl rfl (run_V (rest := []) C (c_X7_expects l D o q1 q2 q3 q4 q5 q6 q7 q8 q9 q10 q11 q12 q13 q14 q15 q16 q17 q18 q19 q20 q21 q22 pe n la ri td ys ty ap wg rd sm bt up lw ii kd dy nd co od wo tp rk ry rn vs bs ch tr en du ol ig ln sz it mo (by omega) (by omega) (dis_all h0 rfl)) ok_X7_expects wn_X7_expects wl_X7_expects wm_X7_214 _ 0 rfl rfl rfl ⟨Nat.le_of_ble_eq_true rfl, Nat.le_of_ble_eq_true rfl⟩ fm_all rfl (Nat.le_of_ble_eq_true rfl) dX7_upper_1) rfl rfl ?_
  refine r_aln C dX7_upper_4 rfl 0 rfl ?_
  refine gf_X7_207 C 0 rfl rfl dX7_upper_5 ?_
  exact r_lret rfl C (by rw [← hv]) (by rw [← hv]) dX7_upper_8

def s_X7_lower (pe : Nat) (n : Nat) (la : Int32) (kd : Nat → Int32) (nd : Nat → Int32) (od : Nat → Int32) (wo : Nat → Int32) : Int64 × Int64 × Int64 := ((s_X7_expects pe n la kd nd od wo).2, (s_X7_expects pe n la kd nd od wo).1, (s_X7_expects pe n la kd nd od wo).2)
set_option maxHeartbeats 8000000 in
set_option maxRecDepth 100000 in
theorem c_X7_lower (l : Launch) (D : va_G) (o : Nat) (q1 : Nat) (q2 : Nat) (q3 : Nat) (q4 : Nat) (q5 : Nat) (q6 : Nat) (q7 : Nat) (q8 : Nat) (q9 : Nat) (q10 : Nat) (q11 : Nat) (q12 : Nat) (q13 : Nat) (q14 : Nat) (q15 : Nat) (q16 : Nat) (q17 : Nat) (q18 : Nat) (q19 : Nat) (q20 : Nat) (q21 : Nat) (q22 : Nat) (pe : Nat) (n : Nat) (la : Int32) (ri : Int32) (td : Int32) (ys : Int32) (ty : Nat) (ap : Nat) (wg : Int32) (rd : Nat) (sm : Int32) (bt : Int32) (up : Int64) (lw : Int64) (ii : Int32) (kd : Nat → Int32) (dy : Nat → Int32) (nd : Nat → Int32) (co : Nat → Int32) (od : Nat → Int32) (wo : Nat → Int32) (tp : Nat → Int32) (rk : Nat → Int32) (ry : Nat → Int32) (rn : Nat → Int32) (vs : Nat → Int32) (bs : Nat → Int32) (ch : Nat → Int32) (tr : Nat → Int32) (en : Nat → Int32) (du : Nat → Int32) (ol : Nat → Int32) (ig : Nat → Int32) (ln : Nat → Int32) (sz : Nat → Int32) (it : Nat → Int64) (mo : Nat → Int64) (hn : n ≤ 12) (hp : 1 ≤ pe ∧ pe ≤ 4) (h0 : va_D (fun _ => True) (wM D o q1 q2 q3 q4 q5 q6 q7 q8 q9 q10 q11 q12 q13 q14 q15 q16 q17 q18 q19 q20 q21 q22 pe n la ri td ys ty ap wg rd sm bt up lw ii kd dy nd co od wo tp rk ry rn vs bs ch tr en du ol ig ln sz it mo)) : ct l yX7_lower cX7_lower 1 (some .long) 2 55 D [.ref o] (wM D o q1 q2 q3 q4 q5 q6 q7 q8 q9 q10 q11 q12 q13 q14 q15 q16 q17 q18 q19 q20 q21 q22 pe n la ri td ys ty ap wg rd sm bt up lw ii kd dy nd co od wo tp rk ry rn vs bs ch tr en du ol ig ln sz it mo) (wM D o q1 q2 q3 q4 q5 q6 q7 q8 q9 q10 q11 q12 q13 q14 q15 q16 q17 q18 q19 q20 q21 q22 pe n la ri td ys ty ap wg rd sm bt (s_X7_lower pe n la kd nd od wo).2.1 (s_X7_lower pe n la kd nd od wo).2.2 ii kd dy nd co od wo tp rk ry rn vs bs ch tr en du ol ig ln sz it mo) (Ad (wM D o q1 q2 q3 q4 q5 q6 q7 q8 q9 q10 q11 q12 q13 q14 q15 q16 q17 q18 q19 q20 q21 q22 pe n la ri td ys ty ap wg rd sm bt up lw ii kd dy nd co od wo tp rk ry rn vs bs ch tr en du ol ig ln sz it mo)) (some (Value.long (s_X7_lower pe n la kd nd od wo).1)) := by
  obtain ⟨V, hv⟩ : ∃ V, s_X7_lower pe n la kd nd od wo = V := ⟨_, rfl⟩
  rw [hv]
  refine ct_intro (own := RX7) (lv := [(0, .ref o)]) (by decide) rfl (Nat.le_of_ble_eq_true rfl) rfl ?_
  intro p_ e_ s_ m_ below_ meth_ c_ C
  have hv : ((s_X7_expects pe n la kd nd od wo).2, (s_X7_expects pe n la kd nd od wo).1, (s_X7_expects pe n la kd nd od wo).2) = V := hv
  refine r_aln C dX7_lower_0 rfl 0 rfl ?_
  refine aft_wa (ws2 := wM D o q1 q2 q3 q4 q5 q6 q7 q8 q9 q10 q11 q12 q13 q14 q15 q16 q17 q18 q19 q20 q21 q22 pe n la ri td ys ty ap wg rd sm bt ((s_X7_expects pe n la kd nd od wo).1) ((s_X7_expects pe n la kd nd od wo).2) ii kd dy nd co od wo tp rk ry rn vs bs ch tr en du ol ig ln sz it mo) (st' := []) h0 rfl rfl (run_V (rest := []) C (c_X7_expects l D o q1 q2 q3 q4 q5 q6 q7 q8 q9 q10 q11 q12 q13 q14 q15 q16 q17 q18 q19 q20 q21 q22 pe n la ri td ys ty ap wg rd sm bt up lw ii kd dy nd co od wo tp rk ry rn vs bs ch tr en du ol ig ln sz it mo (by omega) (by omega) (dis_all h0 rfl)) ok_X7_expects wn_X7_expects wl_X7_expects wm_X7_214 _ 0 rfl rfl rfl ⟨Nat.le_of_ble_eq_true rfl, Nat.le_of_ble_eq_true rfl⟩ fm_all rfl (Nat.le_of_ble_eq_true rfl) dX7_lower_1) rfl rfl ?_
  refine r_aln C dX7_lower_4 rfl 0 rfl ?_
  refine gf_X7_211 C 0 rfl rfl dX7_lower_5 ?_
  exact r_lret rfl C (by rw [← hv]) (by rw [← hv]) dX7_lower_8

def s_X7_comes_L77 (pe : Nat) (n : Nat) (kd : Nat → Int32) (dy : Nat → Int32) (nd : Nat → Int32) (co : Nat → Int32) (wo : Nat → Int32) (k : Int32) (what : Int32) (d4 : Nat) (ol_5 : Nat → Int32) (vs_6 : Nat → Int32) (bs_8 : Nat → Int32) (K : Int32 × Int32 × Int32 × (Nat → Int32) × (Nat → Int32) × (Nat → Int32)) : Nat → Nat → Int32 × Int32 × Int32 × (Nat → Int32) × (Nat → Int32) × (Nat → Int32)
  | 0, _ => K
  | k13 + 1, d14 => (if (upd ol_5 d4 (s_X7_stands n kd nd ((s_X7_bestOf pe n kd dy nd co wo vs_6 bs_8 k (0 : Int32) (ol_5 (d4 - 1))).1) (ol_5 (d4 - 1)))) d14 = (upd ol_5 d4 (s_X7_stands n kd nd ((s_X7_bestOf pe n kd dy nd co wo vs_6 bs_8 k (0 : Int32) (ol_5 (d4 - 1))).1) (ol_5 (d4 - 1)))) d4 then (if what = (0 : Int32) then (nI d4, (s_X7_bestOf pe n kd dy nd co wo vs_6 bs_8 k (0 : Int32) (ol_5 (d4 - 1))).2.1, (s_X7_bestOf pe n kd dy nd co wo vs_6 bs_8 k (0 : Int32) (ol_5 (d4 - 1))).2.2.1, (s_X7_bestOf pe n kd dy nd co wo vs_6 bs_8 k (0 : Int32) (ol_5 (d4 - 1))).2.2.2.1, (s_X7_bestOf pe n kd dy nd co wo vs_6 bs_8 k (0 : Int32) (ol_5 (d4 - 1))).2.2.2.2, upd ol_5 d4 (s_X7_stands n kd nd ((s_X7_bestOf pe n kd dy nd co wo vs_6 bs_8 k (0 : Int32) (ol_5 (d4 - 1))).1) (ol_5 (d4 - 1)))) else ((nI d4) - (nI d14), (s_X7_bestOf pe n kd dy nd co wo vs_6 bs_8 k (0 : Int32) (ol_5 (d4 - 1))).2.1, (s_X7_bestOf pe n kd dy nd co wo vs_6 bs_8 k (0 : Int32) (ol_5 (d4 - 1))).2.2.1, (s_X7_bestOf pe n kd dy nd co wo vs_6 bs_8 k (0 : Int32) (ol_5 (d4 - 1))).2.2.2.1, (s_X7_bestOf pe n kd dy nd co wo vs_6 bs_8 k (0 : Int32) (ol_5 (d4 - 1))).2.2.2.2, upd ol_5 d4 (s_X7_stands n kd nd ((s_X7_bestOf pe n kd dy nd co wo vs_6 bs_8 k (0 : Int32) (ol_5 (d4 - 1))).1) (ol_5 (d4 - 1))))) else (s_X7_comes_L77 pe n kd dy nd co wo k what d4 ol_5 vs_6 bs_8 K k13 (d14 + 1)))
def s_X7_comes_L36 (pe : Nat) (n : Nat) (kd : Nat → Int32) (dy : Nat → Int32) (nd : Nat → Int32) (co : Nat → Int32) (wo : Nat → Int32) (k : Int32) (what : Int32) (K : (Nat → Int32) → (Nat → Int32) → Int32 → (Nat → Int32) → Int32 → Int32 × Int32 × Int32 × (Nat → Int32) × (Nat → Int32) × (Nat → Int32)) : Nat → Nat → (Nat → Int32) → (Nat → Int32) → Int32 → (Nat → Int32) → Int32 → Int32 × Int32 × Int32 × (Nat → Int32) × (Nat → Int32) × (Nat → Int32)
  | 0, _, ol_5, vs_6, sm_7, bs_8, bt_9 => K ol_5 vs_6 sm_7 bs_8 bt_9
  | k3 + 1, d4, ol_5, vs_6, sm_7, bs_8, bt_9 => (s_X7_comes_L77 pe n kd dy nd co wo k what d4 ol_5 vs_6 bs_8 (s_X7_comes_L36 pe n kd dy nd co wo k what K k3 (d4 + 1) (upd ol_5 d4 (s_X7_stands n kd nd ((s_X7_bestOf pe n kd dy nd co wo vs_6 bs_8 k (0 : Int32) (ol_5 (d4 - 1))).1) (ol_5 (d4 - 1)))) ((s_X7_bestOf pe n kd dy nd co wo vs_6 bs_8 k (0 : Int32) (ol_5 (d4 - 1))).2.2.2.1) ((s_X7_bestOf pe n kd dy nd co wo vs_6 bs_8 k (0 : Int32) (ol_5 (d4 - 1))).2.1) ((s_X7_bestOf pe n kd dy nd co wo vs_6 bs_8 k (0 : Int32) (ol_5 (d4 - 1))).2.2.2.2) ((s_X7_bestOf pe n kd dy nd co wo vs_6 bs_8 k (0 : Int32) (ol_5 (d4 - 1))).2.2.1)) d4 0)
def s_X7_comes (pe : Nat) (n : Nat) (la : Int32) (sm : Int32) (bt : Int32) (kd : Nat → Int32) (dy : Nat → Int32) (nd : Nat → Int32) (co : Nat → Int32) (wo : Nat → Int32) (vs : Nat → Int32) (bs : Nat → Int32) (ol : Nat → Int32) (k : Int32) (what : Int32) : Int32 × Int32 × Int32 × (Nat → Int32) × (Nat → Int32) × (Nat → Int32) := (if s_X7_in k.toInt64 (0 : Int64) (4 : Int64) = (0 : Int32) then ((-1 : Int32), sm, bt, vs, bs, ol) else (if s_X7_in what.toInt64 (0 : Int64) (1 : Int64) = (0 : Int32) then ((-1 : Int32), sm, bt, vs, bs, ol) else (s_X7_comes_L36 pe n kd dy nd co wo k what (fun ol_5 vs_6 sm_7 bs_8 bt_9 => ((-4 : Int32), sm_7, bt_9, vs_6, bs_8, ol_5)) 60 1 (upd ol 0 la) vs sm bs bt)))
set_option maxHeartbeats 8000000 in
set_option maxRecDepth 100000 in
theorem c_X7_comes (l : Launch) (D : va_G) (o : Nat) (q1 : Nat) (q2 : Nat) (q3 : Nat) (q4 : Nat) (q5 : Nat) (q6 : Nat) (q7 : Nat) (q8 : Nat) (q9 : Nat) (q10 : Nat) (q11 : Nat) (q12 : Nat) (q13 : Nat) (q14 : Nat) (q15 : Nat) (q16 : Nat) (q17 : Nat) (q18 : Nat) (q19 : Nat) (q20 : Nat) (q21 : Nat) (q22 : Nat) (pe : Nat) (n : Nat) (la : Int32) (ri : Int32) (td : Int32) (ys : Int32) (ty : Nat) (ap : Nat) (wg : Int32) (rd : Nat) (sm : Int32) (bt : Int32) (up : Int64) (lw : Int64) (ii : Int32) (kd : Nat → Int32) (dy : Nat → Int32) (nd : Nat → Int32) (co : Nat → Int32) (od : Nat → Int32) (wo : Nat → Int32) (tp : Nat → Int32) (rk : Nat → Int32) (ry : Nat → Int32) (rn : Nat → Int32) (vs : Nat → Int32) (bs : Nat → Int32) (ch : Nat → Int32) (tr : Nat → Int32) (en : Nat → Int32) (du : Nat → Int32) (ol : Nat → Int32) (ig : Nat → Int32) (ln : Nat → Int32) (sz : Nat → Int32) (it : Nat → Int64) (mo : Nat → Int64) (k : Int32) (what : Int32) (hn : n ≤ 12) (hp : 1 ≤ pe ∧ pe ≤ 4) (h0 : va_D (fun _ => True) (wM D o q1 q2 q3 q4 q5 q6 q7 q8 q9 q10 q11 q12 q13 q14 q15 q16 q17 q18 q19 q20 q21 q22 pe n la ri td ys ty ap wg rd sm bt up lw ii kd dy nd co od wo tp rk ry rn vs bs ch tr en du ol ig ln sz it mo)) : ct l yX7_comes cX7_comes 5 (some .int) 4 101 D [.ref o, .int k, .int what] (wM D o q1 q2 q3 q4 q5 q6 q7 q8 q9 q10 q11 q12 q13 q14 q15 q16 q17 q18 q19 q20 q21 q22 pe n la ri td ys ty ap wg rd sm bt up lw ii kd dy nd co od wo tp rk ry rn vs bs ch tr en du ol ig ln sz it mo) (wM D o q1 q2 q3 q4 q5 q6 q7 q8 q9 q10 q11 q12 q13 q14 q15 q16 q17 q18 q19 q20 q21 q22 pe n la ri td ys ty ap wg rd (s_X7_comes pe n la sm bt kd dy nd co wo vs bs ol k what).2.1 (s_X7_comes pe n la sm bt kd dy nd co wo vs bs ol k what).2.2.1 up lw ii kd dy nd co od wo tp rk ry rn (s_X7_comes pe n la sm bt kd dy nd co wo vs bs ol k what).2.2.2.1 (s_X7_comes pe n la sm bt kd dy nd co wo vs bs ol k what).2.2.2.2.1 ch tr en du (s_X7_comes pe n la sm bt kd dy nd co wo vs bs ol k what).2.2.2.2.2 ig ln sz it mo) (Ad (wM D o q1 q2 q3 q4 q5 q6 q7 q8 q9 q10 q11 q12 q13 q14 q15 q16 q17 q18 q19 q20 q21 q22 pe n la ri td ys ty ap wg rd sm bt up lw ii kd dy nd co od wo tp rk ry rn vs bs ch tr en du ol ig ln sz it mo)) (some (Value.int (s_X7_comes pe n la sm bt kd dy nd co wo vs bs ol k what).1)) := by
  obtain ⟨V, hv⟩ : ∃ V, s_X7_comes pe n la sm bt kd dy nd co wo vs bs ol k what = V := ⟨_, rfl⟩
  rw [hv]
  refine ct_intro (own := RX7) (lv := [(0, .ref o), (1, .int k), (2, .int what)]) (by decide) rfl (Nat.le_of_ble_eq_true rfl) rfl ?_
  intro p_ e_ s_ m_ below_ meth_ c_ C
  have hv : (if s_X7_in k.toInt64 (0 : Int64) (4 : Int64) = (0 : Int32) then ((-1 : Int32), sm, bt, vs, bs, ol) else (if s_X7_in what.toInt64 (0 : Int64) (1 : Int64) = (0 : Int32) then ((-1 : Int32), sm, bt, vs, bs, ol) else (s_X7_comes_L36 pe n kd dy nd co wo k what (fun ol_5 vs_6 sm_7 bs_8 bt_9 => ((-4 : Int32), sm_7, bt_9, vs_6, bs_8, ol_5)) 60 1 (upd ol 0 la) vs sm bs bt))) = V := hv
  refine r_iln C dX7_comes_0 rfl 1 rfl ?_
  refine r_i2l C dX7_comes_1 ?_
  refine r_lc C (v := (0 : Int64)) dX7_comes_2 (by decide) ?_
  refine r_ldc2 C wc_X7_91 dX7_comes_3 ?_
  refine aft_rd (st' := [.int (s_X7_in k.toInt64 (0 : Int64) (4 : Int64))]) (run_S (rest := []) C (c_X7_in l D k.toInt64 (0 : Int64) (4 : Int64) ) ok_X7_in ws_X7_in wm_X7_87 [] rfl ⟨Nat.le_of_ble_eq_true rfl, Nat.le_of_ble_eq_true rfl⟩ rfl rfl (Nat.le_of_ble_eq_true rfl) dX7_comes_6) rfl ?_
  refine r_ifeq C (tgt := 22) dX7_comes_9 (by decide) (fun c1 => ?_) (fun c1 => ?_)
  · rw [if_pos c1] at hv
    refine r_ic C (v := (-1 : Int32)) dX7_comes_22 (by decide) ?_
    exact r_iret rfl C (by rw [← hv]) (by rw [← hv]) dX7_comes_23
  · rw [if_neg c1] at hv
    refine r_iln C dX7_comes_12 rfl 2 rfl ?_
    refine r_i2l C dX7_comes_13 ?_
    refine r_lc C (v := (0 : Int64)) dX7_comes_14 (by decide) ?_
    refine r_lc C (v := (1 : Int64)) dX7_comes_15 (by decide) ?_
    refine aft_rd (st' := [.int (s_X7_in what.toInt64 (0 : Int64) (1 : Int64))]) (run_S (rest := []) C (c_X7_in l D what.toInt64 (0 : Int64) (1 : Int64) ) ok_X7_in ws_X7_in wm_X7_87 [] rfl ⟨Nat.le_of_ble_eq_true rfl, Nat.le_of_ble_eq_true rfl⟩ rfl rfl (Nat.le_of_ble_eq_true rfl) dX7_comes_16) rfl ?_
    refine r_ifne C (tgt := 24) dX7_comes_19 (by decide) (fun c2 => ?_) (fun c2 => ?_)
    · rw [if_neg c2] at hv
      refine r_aln C dX7_comes_24 rfl 0 rfl ?_
      refine gf_X7_58 C 0 rfl rfl dX7_comes_25 ?_
      refine r_ic C (v := (0 : Int32)) dX7_comes_28 (by decide) ?_
      refine r_aln C dX7_comes_29 rfl 0 rfl ?_
      refine gf_X7_116 C 0 rfl rfl dX7_comes_30 ?_
      refine r_iast C (ws2 := wM D o q1 q2 q3 q4 q5 q6 q7 q8 q9 q10 q11 q12 q13 q14 q15 q16 q17 q18 q19 q20 q21 q22 pe n la ri td ys ty ap wg rd sm bt up lw ii kd dy nd co od wo tp rk ry rn vs bs ch tr en du (upd ol 0 la) ig ln sz it mo) h0 rfl 17 0 rfl rfl (by omega) (by decide) dX7_comes_33 rfl rfl ?_
      refine r_ic C (v := (1 : Int32)) dX7_comes_34 (by decide) ?_
      refine r_isn C (lv' := [(3, .int (1 : Int32)), (0, .ref o), (1, .int k), (2, .int what)]) dX7_comes_35 rfl (by decide) rfl ?_
      have L21 : ∀ (k3 : Nat) (d4 : Nat) (ol_5 : Nat → Int32) (vs_6 : Nat → Int32) (sm_7 : Int32) (bs_8 : Nat → Int32) (bt_9 : Int32), (d4 + k3 = 61) → (1 ≤ d4) → (s_X7_comes_L36 pe n kd dy nd co wo k what (fun ol_5 vs_6 sm_7 bs_8 bt_9 => ((-4 : Int32), sm_7, bt_9, vs_6, bs_8, ol_5)) k3 d4 ol_5 vs_6 sm_7 bs_8 bt_9) = V → GM p_ l e_ s_ m_ below_ meth_ c_ D 4 101 5 [.ref o, .int k, .int what] (wM D o q1 q2 q3 q4 q5 q6 q7 q8 q9 q10 q11 q12 q13 q14 q15 q16 q17 q18 q19 q20 q21 q22 pe n la ri td ys ty ap wg rd V.2.1 V.2.2.1 up lw ii kd dy nd co od wo tp rk ry rn V.2.2.2.1 V.2.2.2.2.1 ch tr en du V.2.2.2.2.2 ig ln sz it mo) (Ad (wM D o q1 q2 q3 q4 q5 q6 q7 q8 q9 q10 q11 q12 q13 q14 q15 q16 q17 q18 q19 q20 q21 q22 pe n la ri td ys ty ap wg rd sm bt up lw ii kd dy nd co od wo tp rk ry rn vs bs ch tr en du ol ig ln sz it mo)) (some (Value.int V.1)) (wM D o q1 q2 q3 q4 q5 q6 q7 q8 q9 q10 q11 q12 q13 q14 q15 q16 q17 q18 q19 q20 q21 q22 pe n la ri td ys ty ap wg rd sm_7 bt_9 up lw ii kd dy nd co od wo tp rk ry rn vs_6 bs_8 ch tr en du ol_5 ig ln sz it mo) 36 [(3, .int (nI d4)), (0, .ref o), (1, .int k), (2, .int what)] [] := by
        intro k3
        induction k3 with
        | zero =>
          intro d4 ol_5 vs_6 sm_7 bs_8 bt_9 hk h1d hv
          have hv : ((-4 : Int32), sm_7, bt_9, vs_6, bs_8, ol_5) = V := hv
          refine r_iln C dX7_comes_36 rfl 0 rfl ?_
          refine r_bp C (v := (60 : Int32)) dX7_comes_37 (by decide) ?_
          refine r_icgt C (tgt := 124) dX7_comes_39 (by decide) (fun c10 => ?_) (fun c10 => ?_)
          · skip
            refine r_bp C (v := (-4 : Int32)) dX7_comes_124 (by decide) ?_
            exact r_iret rfl C (by rw [← hv]) (by rw [← hv]) dX7_comes_126
          · exact absurd ((nv_lt (a := 60) (b := d4) rfl rfl (by omega) (by omega)).mpr (by omega)) c10
        | succ k3 ih11 =>
          intro d4 ol_5 vs_6 sm_7 bs_8 bt_9 hk h1d hv
          have hv : (s_X7_comes_L77 pe n kd dy nd co wo k what d4 ol_5 vs_6 bs_8 (s_X7_comes_L36 pe n kd dy nd co wo k what (fun ol_5 vs_6 sm_7 bs_8 bt_9 => ((-4 : Int32), sm_7, bt_9, vs_6, bs_8, ol_5)) k3 (d4 + 1) (upd ol_5 d4 (s_X7_stands n kd nd ((s_X7_bestOf pe n kd dy nd co wo vs_6 bs_8 k (0 : Int32) (ol_5 (d4 - 1))).1) (ol_5 (d4 - 1)))) ((s_X7_bestOf pe n kd dy nd co wo vs_6 bs_8 k (0 : Int32) (ol_5 (d4 - 1))).2.2.2.1) ((s_X7_bestOf pe n kd dy nd co wo vs_6 bs_8 k (0 : Int32) (ol_5 (d4 - 1))).2.1) ((s_X7_bestOf pe n kd dy nd co wo vs_6 bs_8 k (0 : Int32) (ol_5 (d4 - 1))).2.2.2.2) ((s_X7_bestOf pe n kd dy nd co wo vs_6 bs_8 k (0 : Int32) (ol_5 (d4 - 1))).2.2.1)) d4 0) = V := hv
          refine r_iln C dX7_comes_36 rfl 0 rfl ?_
          refine r_bp C (v := (60 : Int32)) dX7_comes_37 (by decide) ?_
          refine r_icgt C (tgt := 124) dX7_comes_39 (by decide) (fun c12 => ?_) (fun c12 => ?_)
          · exact absurd c12 (fun z => absurd ((nv_lt (a := 60) (b := d4) rfl rfl (by omega) (by omega)).mp z) (by omega))
          · skip
            refine r_aln C dX7_comes_42 rfl 1 rfl ?_
            refine gf_X7_58 C 0 rfl rfl dX7_comes_43 ?_
            refine r_iln C dX7_comes_46 rfl 0 rfl ?_
            refine r_aln C dX7_comes_47 rfl 1 rfl ?_
            refine r_aln C dX7_comes_48 rfl 1 rfl ?_
            refine r_iln C dX7_comes_49 rfl 2 rfl ?_
            refine r_ic C (v := (0 : Int32)) dX7_comes_50 (by decide) ?_
            refine r_aln C dX7_comes_51 rfl 1 rfl ?_
            refine gf_X7_58 C 0 rfl rfl dX7_comes_52 ?_
            refine r_iln C dX7_comes_55 rfl 0 rfl ?_
            refine r_ic C (v := (1 : Int32)) dX7_comes_56 (by decide) ?_
            refine r_isub C dX7_comes_57 ?_
            refine r_top (nv_sub (by omega) rfl rfl) ?_
            refine r_iald C 17 (d4 - 1) rfl rfl (by omega) (by decide) rfl dX7_comes_58 ?_
            refine aft_wa (ws2 := wM D o q1 q2 q3 q4 q5 q6 q7 q8 q9 q10 q11 q12 q13 q14 q15 q16 q17 q18 q19 q20 q21 q22 pe n la ri td ys ty ap wg rd ((s_X7_bestOf pe n kd dy nd co wo vs_6 bs_8 k (0 : Int32) (ol_5 (d4 - 1))).2.1) ((s_X7_bestOf pe n kd dy nd co wo vs_6 bs_8 k (0 : Int32) (ol_5 (d4 - 1))).2.2.1) up lw ii kd dy nd co od wo tp rk ry rn ((s_X7_bestOf pe n kd dy nd co wo vs_6 bs_8 k (0 : Int32) (ol_5 (d4 - 1))).2.2.2.1) ((s_X7_bestOf pe n kd dy nd co wo vs_6 bs_8 k (0 : Int32) (ol_5 (d4 - 1))).2.2.2.2) ch tr en du ol_5 ig ln sz it mo) (st' := [.int ((s_X7_bestOf pe n kd dy nd co wo vs_6 bs_8 k (0 : Int32) (ol_5 (d4 - 1))).1), .ref o, .int (nI d4), .ref q17]) h0 rfl rfl (run_V (rest := [.ref o, .int (nI d4), .ref q17]) C (c_X7_bestOf l D o q1 q2 q3 q4 q5 q6 q7 q8 q9 q10 q11 q12 q13 q14 q15 q16 q17 q18 q19 q20 q21 q22 pe n la ri td ys ty ap wg rd sm_7 bt_9 up lw ii kd dy nd co od wo tp rk ry rn vs_6 bs_8 ch tr en du ol_5 ig ln sz it mo k (0 : Int32) (ol_5 (d4 - 1)) (by omega) (by omega) (dis_all h0 rfl)) ok_X7_bestOf wn_X7_bestOf wl_X7_bestOf wm_X7_191 _ 0 rfl rfl rfl ⟨Nat.le_of_ble_eq_true rfl, Nat.le_of_ble_eq_true rfl⟩ fm_all rfl (Nat.le_of_ble_eq_true rfl) dX7_comes_59) rfl rfl ?_
            refine r_aln C dX7_comes_62 rfl 1 rfl ?_
            refine gf_X7_58 C 0 rfl rfl dX7_comes_63 ?_
            refine r_iln C dX7_comes_66 rfl 0 rfl ?_
            refine r_ic C (v := (1 : Int32)) dX7_comes_67 (by decide) ?_
            refine r_isub C dX7_comes_68 ?_
            refine r_top (nv_sub (by omega) rfl rfl) ?_
            refine r_iald C 17 (d4 - 1) rfl rfl (by omega) (by decide) rfl dX7_comes_69 ?_
            refine aft_rd (st' := [.int (s_X7_stands n kd nd ((s_X7_bestOf pe n kd dy nd co wo vs_6 bs_8 k (0 : Int32) (ol_5 (d4 - 1))).1) (ol_5 (d4 - 1))), .int (nI d4), .ref q17]) (run_V (rest := [.int (nI d4), .ref q17]) C (c_X7_stands l D o q1 q2 q3 q4 q5 q6 q7 q8 q9 q10 q11 q12 q13 q14 q15 q16 q17 q18 q19 q20 q21 q22 pe n la ri td ys ty ap wg rd ((s_X7_bestOf pe n kd dy nd co wo vs_6 bs_8 k (0 : Int32) (ol_5 (d4 - 1))).2.1) ((s_X7_bestOf pe n kd dy nd co wo vs_6 bs_8 k (0 : Int32) (ol_5 (d4 - 1))).2.2.1) up lw ii kd dy nd co od wo tp rk ry rn ((s_X7_bestOf pe n kd dy nd co wo vs_6 bs_8 k (0 : Int32) (ol_5 (d4 - 1))).2.2.2.1) ((s_X7_bestOf pe n kd dy nd co wo vs_6 bs_8 k (0 : Int32) (ol_5 (d4 - 1))).2.2.2.2) ch tr en du ol_5 ig ln sz it mo ((s_X7_bestOf pe n kd dy nd co wo vs_6 bs_8 k (0 : Int32) (ol_5 (d4 - 1))).1) (ol_5 (d4 - 1)) (by omega)) ok_X7_stands wn_X7_stands wl_X7_stands wm_X7_119 _ 0 rfl rfl rfl ⟨Nat.le_of_ble_eq_true rfl, Nat.le_of_ble_eq_true rfl⟩ fm_all rfl (Nat.le_of_ble_eq_true rfl) dX7_comes_70) rfl ?_
            refine r_iast C (ws2 := wM D o q1 q2 q3 q4 q5 q6 q7 q8 q9 q10 q11 q12 q13 q14 q15 q16 q17 q18 q19 q20 q21 q22 pe n la ri td ys ty ap wg rd ((s_X7_bestOf pe n kd dy nd co wo vs_6 bs_8 k (0 : Int32) (ol_5 (d4 - 1))).2.1) ((s_X7_bestOf pe n kd dy nd co wo vs_6 bs_8 k (0 : Int32) (ol_5 (d4 - 1))).2.2.1) up lw ii kd dy nd co od wo tp rk ry rn ((s_X7_bestOf pe n kd dy nd co wo vs_6 bs_8 k (0 : Int32) (ol_5 (d4 - 1))).2.2.2.1) ((s_X7_bestOf pe n kd dy nd co wo vs_6 bs_8 k (0 : Int32) (ol_5 (d4 - 1))).2.2.2.2) ch tr en du (upd ol_5 d4 (s_X7_stands n kd nd ((s_X7_bestOf pe n kd dy nd co wo vs_6 bs_8 k (0 : Int32) (ol_5 (d4 - 1))).1) (ol_5 (d4 - 1)))) ig ln sz it mo) h0 rfl 17 d4 rfl rfl (by omega) (by decide) dX7_comes_73 rfl rfl ?_
            refine r_ic C (v := (0 : Int32)) dX7_comes_74 (by decide) ?_
            refine r_is C (lv' := [(4, .int (0 : Int32)), (3, .int (nI d4)), (0, .ref o), (1, .int k), (2, .int what)]) dX7_comes_75 (by decide) rfl ?_
            have L20 : ∀ (k13 : Nat) (d14 : Nat), (d14 + k13 = d4) → (s_X7_comes_L77 pe n kd dy nd co wo k what d4 ol_5 vs_6 bs_8 (s_X7_comes_L36 pe n kd dy nd co wo k what (fun ol_5 vs_6 sm_7 bs_8 bt_9 => ((-4 : Int32), sm_7, bt_9, vs_6, bs_8, ol_5)) k3 (d4 + 1) (upd ol_5 d4 (s_X7_stands n kd nd ((s_X7_bestOf pe n kd dy nd co wo vs_6 bs_8 k (0 : Int32) (ol_5 (d4 - 1))).1) (ol_5 (d4 - 1)))) ((s_X7_bestOf pe n kd dy nd co wo vs_6 bs_8 k (0 : Int32) (ol_5 (d4 - 1))).2.2.2.1) ((s_X7_bestOf pe n kd dy nd co wo vs_6 bs_8 k (0 : Int32) (ol_5 (d4 - 1))).2.1) ((s_X7_bestOf pe n kd dy nd co wo vs_6 bs_8 k (0 : Int32) (ol_5 (d4 - 1))).2.2.2.2) ((s_X7_bestOf pe n kd dy nd co wo vs_6 bs_8 k (0 : Int32) (ol_5 (d4 - 1))).2.2.1)) k13 d14) = V → GM p_ l e_ s_ m_ below_ meth_ c_ D 4 101 5 [.ref o, .int k, .int what] (wM D o q1 q2 q3 q4 q5 q6 q7 q8 q9 q10 q11 q12 q13 q14 q15 q16 q17 q18 q19 q20 q21 q22 pe n la ri td ys ty ap wg rd V.2.1 V.2.2.1 up lw ii kd dy nd co od wo tp rk ry rn V.2.2.2.1 V.2.2.2.2.1 ch tr en du V.2.2.2.2.2 ig ln sz it mo) (Ad (wM D o q1 q2 q3 q4 q5 q6 q7 q8 q9 q10 q11 q12 q13 q14 q15 q16 q17 q18 q19 q20 q21 q22 pe n la ri td ys ty ap wg rd sm bt up lw ii kd dy nd co od wo tp rk ry rn vs bs ch tr en du ol ig ln sz it mo)) (some (Value.int V.1)) (wM D o q1 q2 q3 q4 q5 q6 q7 q8 q9 q10 q11 q12 q13 q14 q15 q16 q17 q18 q19 q20 q21 q22 pe n la ri td ys ty ap wg rd ((s_X7_bestOf pe n kd dy nd co wo vs_6 bs_8 k (0 : Int32) (ol_5 (d4 - 1))).2.1) ((s_X7_bestOf pe n kd dy nd co wo vs_6 bs_8 k (0 : Int32) (ol_5 (d4 - 1))).2.2.1) up lw ii kd dy nd co od wo tp rk ry rn ((s_X7_bestOf pe n kd dy nd co wo vs_6 bs_8 k (0 : Int32) (ol_5 (d4 - 1))).2.2.2.1) ((s_X7_bestOf pe n kd dy nd co wo vs_6 bs_8 k (0 : Int32) (ol_5 (d4 - 1))).2.2.2.2) ch tr en du (upd ol_5 d4 (s_X7_stands n kd nd ((s_X7_bestOf pe n kd dy nd co wo vs_6 bs_8 k (0 : Int32) (ol_5 (d4 - 1))).1) (ol_5 (d4 - 1)))) ig ln sz it mo) 77 [(4, .int (nI d14)), (3, .int (nI d4)), (0, .ref o), (1, .int k), (2, .int what)] [] := by
              intro k13
              induction k13 with
              | zero =>
                intro d14 hk hv
                have hv : (s_X7_comes_L36 pe n kd dy nd co wo k what (fun ol_5 vs_6 sm_7 bs_8 bt_9 => ((-4 : Int32), sm_7, bt_9, vs_6, bs_8, ol_5)) k3 (d4 + 1) (upd ol_5 d4 (s_X7_stands n kd nd ((s_X7_bestOf pe n kd dy nd co wo vs_6 bs_8 k (0 : Int32) (ol_5 (d4 - 1))).1) (ol_5 (d4 - 1)))) ((s_X7_bestOf pe n kd dy nd co wo vs_6 bs_8 k (0 : Int32) (ol_5 (d4 - 1))).2.2.2.1) ((s_X7_bestOf pe n kd dy nd co wo vs_6 bs_8 k (0 : Int32) (ol_5 (d4 - 1))).2.1) ((s_X7_bestOf pe n kd dy nd co wo vs_6 bs_8 k (0 : Int32) (ol_5 (d4 - 1))).2.2.2.2) ((s_X7_bestOf pe n kd dy nd co wo vs_6 bs_8 k (0 : Int32) (ol_5 (d4 - 1))).2.2.1)) = V := hv
                refine r_il C dX7_comes_77 0 rfl ?_
                refine r_iln C dX7_comes_79 rfl 1 rfl ?_
                refine r_icge C (tgt := 118) dX7_comes_80 (by decide) (fun c15 => ?_) (fun c15 => ?_)
                · skip
                  refine r_inc C (v := nI (d4 + 1)) (lv' := [(3, .int (nI (d4 + 1))), (4, .int (nI d14)), (0, .ref o), (1, .int k), (2, .int what)]) dX7_comes_118 1 rfl (inc_nI d4) (by decide) rfl ?_
                  refine r_goto C (tgt := 36) dX7_comes_121 (by decide) ?_
                  refine r_lv [0, 2, 3, 4] rfl ?_
                  exact ih11 (d4 + 1) (upd ol_5 d4 (s_X7_stands n kd nd ((s_X7_bestOf pe n kd dy nd co wo vs_6 bs_8 k (0 : Int32) (ol_5 (d4 - 1))).1) (ol_5 (d4 - 1)))) ((s_X7_bestOf pe n kd dy nd co wo vs_6 bs_8 k (0 : Int32) (ol_5 (d4 - 1))).2.2.2.1) ((s_X7_bestOf pe n kd dy nd co wo vs_6 bs_8 k (0 : Int32) (ol_5 (d4 - 1))).2.1) ((s_X7_bestOf pe n kd dy nd co wo vs_6 bs_8 k (0 : Int32) (ol_5 (d4 - 1))).2.2.2.2) ((s_X7_bestOf pe n kd dy nd co wo vs_6 bs_8 k (0 : Int32) (ol_5 (d4 - 1))).2.2.1) (by omega) (by omega) hv
                · exact absurd c15 (fun z => absurd ((nv_lt (a := d14) (b := d4) rfl rfl (by omega) (by omega)).mp z) (by omega))
              | succ k13 ih16 =>
                intro d14 hk hv
                have hv : (if (upd ol_5 d4 (s_X7_stands n kd nd ((s_X7_bestOf pe n kd dy nd co wo vs_6 bs_8 k (0 : Int32) (ol_5 (d4 - 1))).1) (ol_5 (d4 - 1)))) d14 = (upd ol_5 d4 (s_X7_stands n kd nd ((s_X7_bestOf pe n kd dy nd co wo vs_6 bs_8 k (0 : Int32) (ol_5 (d4 - 1))).1) (ol_5 (d4 - 1)))) d4 then (if what = (0 : Int32) then (nI d4, (s_X7_bestOf pe n kd dy nd co wo vs_6 bs_8 k (0 : Int32) (ol_5 (d4 - 1))).2.1, (s_X7_bestOf pe n kd dy nd co wo vs_6 bs_8 k (0 : Int32) (ol_5 (d4 - 1))).2.2.1, (s_X7_bestOf pe n kd dy nd co wo vs_6 bs_8 k (0 : Int32) (ol_5 (d4 - 1))).2.2.2.1, (s_X7_bestOf pe n kd dy nd co wo vs_6 bs_8 k (0 : Int32) (ol_5 (d4 - 1))).2.2.2.2, upd ol_5 d4 (s_X7_stands n kd nd ((s_X7_bestOf pe n kd dy nd co wo vs_6 bs_8 k (0 : Int32) (ol_5 (d4 - 1))).1) (ol_5 (d4 - 1)))) else ((nI d4) - (nI d14), (s_X7_bestOf pe n kd dy nd co wo vs_6 bs_8 k (0 : Int32) (ol_5 (d4 - 1))).2.1, (s_X7_bestOf pe n kd dy nd co wo vs_6 bs_8 k (0 : Int32) (ol_5 (d4 - 1))).2.2.1, (s_X7_bestOf pe n kd dy nd co wo vs_6 bs_8 k (0 : Int32) (ol_5 (d4 - 1))).2.2.2.1, (s_X7_bestOf pe n kd dy nd co wo vs_6 bs_8 k (0 : Int32) (ol_5 (d4 - 1))).2.2.2.2, upd ol_5 d4 (s_X7_stands n kd nd ((s_X7_bestOf pe n kd dy nd co wo vs_6 bs_8 k (0 : Int32) (ol_5 (d4 - 1))).1) (ol_5 (d4 - 1))))) else (s_X7_comes_L77 pe n kd dy nd co wo k what d4 ol_5 vs_6 bs_8 (s_X7_comes_L36 pe n kd dy nd co wo k what (fun ol_5 vs_6 sm_7 bs_8 bt_9 => ((-4 : Int32), sm_7, bt_9, vs_6, bs_8, ol_5)) k3 (d4 + 1) (upd ol_5 d4 (s_X7_stands n kd nd ((s_X7_bestOf pe n kd dy nd co wo vs_6 bs_8 k (0 : Int32) (ol_5 (d4 - 1))).1) (ol_5 (d4 - 1)))) ((s_X7_bestOf pe n kd dy nd co wo vs_6 bs_8 k (0 : Int32) (ol_5 (d4 - 1))).2.2.2.1) ((s_X7_bestOf pe n kd dy nd co wo vs_6 bs_8 k (0 : Int32) (ol_5 (d4 - 1))).2.1) ((s_X7_bestOf pe n kd dy nd co wo vs_6 bs_8 k (0 : Int32) (ol_5 (d4 - 1))).2.2.2.2) ((s_X7_bestOf pe n kd dy nd co wo vs_6 bs_8 k (0 : Int32) (ol_5 (d4 - 1))).2.2.1)) k13 (d14 + 1))) = V := hv
                refine r_il C dX7_comes_77 0 rfl ?_
                refine r_iln C dX7_comes_79 rfl 1 rfl ?_
                refine r_icge C (tgt := 118) dX7_comes_80 (by decide) (fun c17 => ?_) (fun c17 => ?_)
                · exact absurd ((nv_lt (a := d14) (b := d4) rfl rfl (by omega) (by omega)).mpr (by omega)) c17
                · skip
                  refine r_aln C dX7_comes_83 rfl 2 rfl ?_
                  refine gf_X7_58 C 0 rfl rfl dX7_comes_84 ?_
                  refine r_il C dX7_comes_87 0 rfl ?_
                  refine r_iald C 17 d14 rfl rfl (by omega) (by decide) rfl dX7_comes_89 ?_
                  refine r_aln C dX7_comes_90 rfl 2 rfl ?_
                  refine gf_X7_58 C 0 rfl rfl dX7_comes_91 ?_
                  refine r_iln C dX7_comes_94 rfl 1 rfl ?_
                  refine r_iald C 17 d4 rfl rfl (by omega) (by decide) rfl dX7_comes_95 ?_
                  refine r_icne C (tgt := 112) dX7_comes_96 (by decide) (fun c18 => ?_) (fun c18 => ?_)
                  · rw [if_neg c18] at hv
                    refine r_inc C (v := nI (d14 + 1)) (lv' := [(4, .int (nI (d14 + 1))), (3, .int (nI d4)), (0, .ref o), (1, .int k), (2, .int what)]) dX7_comes_112 0 rfl (inc_nI d14) (by decide) rfl ?_
                    refine r_goto C (tgt := 77) dX7_comes_115 (by decide) ?_
                    exact ih16 (d14 + 1) (by omega) hv
                  · rw [if_pos c18] at hv
                    refine r_iln C dX7_comes_99 rfl 4 rfl ?_
                    refine r_ifne C (tgt := 107) dX7_comes_100 (by decide) (fun c19 => ?_) (fun c19 => ?_)
                    · rw [if_neg c19] at hv
                      refine r_iln C dX7_comes_107 rfl 1 rfl ?_
                      refine r_il C dX7_comes_108 0 rfl ?_
                      refine r_isub C dX7_comes_110 ?_
                      exact r_iret rfl C (by rw [← hv]) (by rw [← hv]) dX7_comes_111
                    · rw [if_pos c19] at hv
                      refine r_iln C dX7_comes_103 rfl 1 rfl ?_
                      refine r_goto C (tgt := 111) dX7_comes_104 (by decide) ?_
                      exact r_iret rfl C (by rw [← hv]) (by rw [← hv]) dX7_comes_111
            refine r_lve (lv2 := [(4, .int (nI 0)), (3, .int (nI d4)), (0, .ref o), (1, .int k), (2, .int what)]) (congrArg (fun (z : Int32) => ([(4, .int z), (3, .int (nI d4)), (0, .ref o), (1, .int k), (2, .int what)] : List (Nat × Value))) rfl) ?_
            exact L20 d4 0 (by omega) hv
      refine r_lve (lv2 := [(3, .int (nI 1)), (0, .ref o), (1, .int k), (2, .int what)]) (congrArg (fun (z : Int32) => ([(3, .int z), (0, .ref o), (1, .int k), (2, .int what)] : List (Nat × Value))) rfl) ?_
      exact L21 60 1 (upd ol 0 la) vs sm bs bt (by omega) (by omega) hv
    · rw [if_pos c2] at hv
      refine r_ic C (v := (-1 : Int32)) dX7_comes_22 (by decide) ?_
      exact r_iret rfl C (by rw [← hv]) (by rw [← hv]) dX7_comes_23

def s_X7_notes12_L2 (ff : Nat → Int32) (kk : Nat) : Nat → Nat → (Nat → Int32) → (Nat → Int32)
  | 0, _, ig_3 => ig_3
  | k1 + 1, d2, ig_3 => (s_X7_notes12_L2 ff kk k1 (d2 + 1) (upd ig_3 (kk + d2) (ff d2)))
def s_X7_notes12 (ig : Nat → Int32) (ff : Nat → Int32) (kk : Nat) : Int32 × (Nat → Int32) := ((nI kk) + (nI 12), (s_X7_notes12_L2 ff kk 12 0 ig))
set_option maxHeartbeats 8000000 in
set_option maxRecDepth 100000 in
theorem c_X7_notes12 (l : Launch) (D : va_G) (o : Nat) (q1 : Nat) (q2 : Nat) (q3 : Nat) (q4 : Nat) (q5 : Nat) (q6 : Nat) (q7 : Nat) (q8 : Nat) (q9 : Nat) (q10 : Nat) (q11 : Nat) (q12 : Nat) (q13 : Nat) (q14 : Nat) (q15 : Nat) (q16 : Nat) (q17 : Nat) (q18 : Nat) (q19 : Nat) (q20 : Nat) (q21 : Nat) (q22 : Nat) (fa : Nat) (pe : Nat) (n : Nat) (la : Int32) (ri : Int32) (td : Int32) (ys : Int32) (ty : Nat) (ap : Nat) (wg : Int32) (rd : Nat) (sm : Int32) (bt : Int32) (up : Int64) (lw : Int64) (ii : Int32) (ig : Nat → Int32) (ff : Nat → Int32) (kk : Nat) (hk1 : kk + 12 ≤ 114) (h0 : va_D (fun _ => True) (wMn12 D o q1 q2 q3 q4 q5 q6 q7 q8 q9 q10 q11 q12 q13 q14 q15 q16 q17 q18 q19 q20 q21 q22 fa pe n la ri td ys ty ap wg rd sm bt up lw ii ig ff)) : ct l yX7_notes cX7_notes 4 (some .int) 0 0 D [.ref o, .ref fa, .int (nI kk)] (wMn12 D o q1 q2 q3 q4 q5 q6 q7 q8 q9 q10 q11 q12 q13 q14 q15 q16 q17 q18 q19 q20 q21 q22 fa pe n la ri td ys ty ap wg rd sm bt up lw ii ig ff) (wMn12 D o q1 q2 q3 q4 q5 q6 q7 q8 q9 q10 q11 q12 q13 q14 q15 q16 q17 q18 q19 q20 q21 q22 fa pe n la ri td ys ty ap wg rd sm bt up lw ii (s_X7_notes12 ig ff kk).2 ff) (Ad (wMn12 D o q1 q2 q3 q4 q5 q6 q7 q8 q9 q10 q11 q12 q13 q14 q15 q16 q17 q18 q19 q20 q21 q22 fa pe n la ri td ys ty ap wg rd sm bt up lw ii ig ff)) (some (Value.int (s_X7_notes12 ig ff kk).1)) := by
  obtain ⟨V, hv⟩ : ∃ V, s_X7_notes12 ig ff kk = V := ⟨_, rfl⟩
  rw [hv]
  refine ct_intro (own := RX7) (lv := [(0, .ref o), (1, .ref fa), (2, .int (nI kk))]) (by decide) rfl (Nat.le_of_ble_eq_true rfl) rfl ?_
  intro p_ e_ s_ m_ below_ meth_ c_ C
  have hv : ((nI kk) + (nI 12), (s_X7_notes12_L2 ff kk 12 0 ig)) = V := hv
  refine r_ic C (v := (0 : Int32)) dX7_notes_0 (by decide) ?_
  refine r_isn C (lv' := [(3, .int (0 : Int32)), (0, .ref o), (1, .ref fa), (2, .int (nI kk))]) dX7_notes_1 rfl (by decide) rfl ?_
  have L7 : ∀ (k1 : Nat) (d2 : Nat) (ig_3 : Nat → Int32), (d2 + k1 = 12) → ((nI kk) + (nI 12), (s_X7_notes12_L2 ff kk k1 d2 ig_3)) = V → GM p_ l e_ s_ m_ below_ meth_ c_ D 0 0 4 [.ref o, .ref fa, .int (nI kk)] (wMn12 D o q1 q2 q3 q4 q5 q6 q7 q8 q9 q10 q11 q12 q13 q14 q15 q16 q17 q18 q19 q20 q21 q22 fa pe n la ri td ys ty ap wg rd sm bt up lw ii V.2 ff) (Ad (wMn12 D o q1 q2 q3 q4 q5 q6 q7 q8 q9 q10 q11 q12 q13 q14 q15 q16 q17 q18 q19 q20 q21 q22 fa pe n la ri td ys ty ap wg rd sm bt up lw ii ig ff)) (some (Value.int V.1)) (wMn12 D o q1 q2 q3 q4 q5 q6 q7 q8 q9 q10 q11 q12 q13 q14 q15 q16 q17 q18 q19 q20 q21 q22 fa pe n la ri td ys ty ap wg rd sm bt up lw ii ig_3 ff) 2 [(3, .int (nI d2)), (0, .ref o), (1, .ref fa), (2, .int (nI kk))] [] := by
    intro k1
    induction k1 with
    | zero =>
      intro d2 ig_3 hk hv
      have hv : ((nI kk) + (nI 12), ig_3) = V := hv
      refine r_iln C dX7_notes_2 rfl 0 rfl ?_
      refine r_aln C dX7_notes_3 rfl 2 rfl ?_
      refine r_alen C 2 0 rfl rfl dX7_notes_4 ?_
      refine r_icge C (tgt := 25) dX7_notes_5 (by decide) (fun c4 => ?_) (fun c4 => ?_)
      · skip
        refine r_iln C dX7_notes_25 rfl 3 rfl ?_
        refine r_aln C dX7_notes_26 rfl 2 rfl ?_
        refine r_alen C 2 0 rfl rfl dX7_notes_27 ?_
        refine r_iadd C dX7_notes_28 ?_
        exact r_iret rfl C (by rw [← hv]) (by rw [← hv]) dX7_notes_29
      · exact absurd c4 (fun z => absurd ((nv_lt (a := d2) (b := 12) rfl rfl (by omega) (by omega)).mp z) (by omega))
    | succ k1 ih5 =>
      intro d2 ig_3 hk hv
      have hv : ((nI kk) + (nI 12), (s_X7_notes12_L2 ff kk k1 (d2 + 1) (upd ig_3 (kk + d2) (ff d2)))) = V := hv
      refine r_iln C dX7_notes_2 rfl 0 rfl ?_
      refine r_aln C dX7_notes_3 rfl 2 rfl ?_
      refine r_alen C 2 0 rfl rfl dX7_notes_4 ?_
      refine r_icge C (tgt := 25) dX7_notes_5 (by decide) (fun c6 => ?_) (fun c6 => ?_)
      · exact absurd ((nv_lt (a := d2) (b := 12) rfl rfl (by omega) (by omega)).mpr (by omega)) c6
      · skip
        refine r_aln C dX7_notes_8 rfl 1 rfl ?_
        refine gf_X7_61 C 0 rfl rfl dX7_notes_9 ?_
        refine r_iln C dX7_notes_12 rfl 3 rfl ?_
        refine r_iln C dX7_notes_13 rfl 0 rfl ?_
        refine r_iadd C dX7_notes_14 ?_
        refine r_aln C dX7_notes_15 rfl 2 rfl ?_
        refine r_iln C dX7_notes_16 rfl 0 rfl ?_
        refine r_iald C 2 d2 rfl rfl (by omega) (by decide) rfl dX7_notes_17 ?_
        refine r_iast C (ws2 := wMn12 D o q1 q2 q3 q4 q5 q6 q7 q8 q9 q10 q11 q12 q13 q14 q15 q16 q17 q18 q19 q20 q21 q22 fa pe n la ri td ys ty ap wg rd sm bt up lw ii (upd ig_3 (kk + d2) (ff d2)) ff) h0 rfl 1 (kk + d2) rfl (nv_add rfl rfl) (by omega) (by decide) dX7_notes_18 rfl rfl ?_
        refine r_inc C (v := nI (d2 + 1)) (lv' := [(3, .int (nI (d2 + 1))), (0, .ref o), (1, .ref fa), (2, .int (nI kk))]) dX7_notes_19 0 rfl (inc_nI d2) (by decide) rfl ?_
        refine r_goto C (tgt := 2) dX7_notes_22 (by decide) ?_
        exact ih5 (d2 + 1) (upd ig_3 (kk + d2) (ff d2)) (by omega) hv
  refine r_lve (lv2 := [(3, .int (nI 0)), (0, .ref o), (1, .ref fa), (2, .int (nI kk))]) (congrArg (fun (z : Int32) => ([(3, .int z), (0, .ref o), (1, .ref fa), (2, .int (nI kk))] : List (Nat × Value))) rfl) ?_
  exact L7 12 0 ig (by omega) hv

