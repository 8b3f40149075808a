def s_X7_value (pe : Nat) (n : Nat) (la : Int32) (ri : Int32) (sm : Int32) (kd : Nat → Int32) (nd : Nat → Int32) (co : Nat → Int32) (wo : Nat → Int32) (vs : Nat → Int32) (person : Int32) : Int32 × Int32 × (Nat → Int32) := (if person = (-1 : Int32) then ((s_X7_counts pe n kd nd co wo vs ri la).1, (s_X7_counts pe n kd nd co wo vs ri la).1, (s_X7_counts pe n kd nd co wo vs ri la).2) else (if s_X7_isOne pe person = (0 : Int32) then ((-100001 : Int32), sm, vs) else (if person < (0 : Int32) then ((s_X7_counts pe n kd nd co wo vs ri la).1, (s_X7_counts pe n kd nd co wo vs ri la).1, (s_X7_counts pe n kd nd co wo vs ri la).2) else (((s_X7_counts pe n kd nd co wo vs ri la).2) person.toNatClampNeg, (s_X7_counts pe n kd nd co wo vs ri la).1, (s_X7_counts pe n kd nd co wo vs ri la).2))))
set_option maxHeartbeats 8000000 in
set_option maxRecDepth 100000 in
theorem c_X7_value (l : Launch) (D : va_G) (o : Nat) (q1 : Nat) (q2 : Nat) (q3 : Nat) (q4 : Nat) (q5 : Nat) (q6 : Nat) (q7 : Nat) (q8 : Nat) (q9 : Nat) (q10 : Nat) (q11 : Nat) (q12 : Nat) (q13 : Nat) (q14 : Nat) (q15 : Nat) (q16 : Nat) (q17 : Nat) (q18 : Nat) (q19 : Nat) (q20 : Nat) (q21 : Nat) (q22 : Nat) (pe : Nat) (n : Nat) (la : Int32) (ri : Int32) (td : Int32) (ys : Int32) (ty : Nat) (ap : Nat) (wg : Int32) (rd : Nat) (sm : Int32) (bt : Int32) (up : Int64) (lw : Int64) (ii : Int32) (kd : Nat → Int32) (dy : Nat → Int32) (nd : Nat → Int32) (co : Nat → Int32) (od : Nat → Int32) (wo : Nat → Int32) (tp : Nat → Int32) (rk : Nat → Int32) (ry : Nat → Int32) (rn : Nat → Int32) (vs : Nat → Int32) (bs : Nat → Int32) (ch : Nat → Int32) (tr : Nat → Int32) (en : Nat → Int32) (du : Nat → Int32) (ol : Nat → Int32) (ig : Nat → Int32) (ln : Nat → Int32) (sz : Nat → Int32) (it : Nat → Int64) (mo : Nat → Int64) (person : Int32) (hn : n ≤ 12) (hp : 1 ≤ pe ∧ pe ≤ 4) (h0 : va_D (fun _ => True) (wM D o q1 q2 q3 q4 q5 q6 q7 q8 q9 q10 q11 q12 q13 q14 q15 q16 q17 q18 q19 q20 q21 q22 pe n la ri td ys ty ap wg rd sm bt up lw ii kd dy nd co od wo tp rk ry rn vs bs ch tr en du ol ig ln sz it mo)) : ct l yX7_value cX7_value 2 (some .int) 3 73 D [.ref o, .int person] (wM D o q1 q2 q3 q4 q5 q6 q7 q8 q9 q10 q11 q12 q13 q14 q15 q16 q17 q18 q19 q20 q21 q22 pe n la ri td ys ty ap wg rd sm bt up lw ii kd dy nd co od wo tp rk ry rn vs bs ch tr en du ol ig ln sz it mo) (wM D o q1 q2 q3 q4 q5 q6 q7 q8 q9 q10 q11 q12 q13 q14 q15 q16 q17 q18 q19 q20 q21 q22 pe n la ri td ys ty ap wg rd (s_X7_value pe n la ri sm kd nd co wo vs person).2.1 bt up lw ii kd dy nd co od wo tp rk ry rn (s_X7_value pe n la ri sm kd nd co wo vs person).2.2 bs ch tr en du ol ig ln sz it mo) (Ad (wM D o q1 q2 q3 q4 q5 q6 q7 q8 q9 q10 q11 q12 q13 q14 q15 q16 q17 q18 q19 q20 q21 q22 pe n la ri td ys ty ap wg rd sm bt up lw ii kd dy nd co od wo tp rk ry rn vs bs ch tr en du ol ig ln sz it mo)) (some (Value.int (s_X7_value pe n la ri sm kd nd co wo vs person).1)) := by
  obtain ⟨V, hv⟩ : ∃ V, s_X7_value pe n la ri sm kd nd co wo vs person = V := ⟨_, rfl⟩
  rw [hv]
  refine ct_intro (own := RX7) (lv := [(0, .ref o), (1, .int person)]) (by decide) rfl (Nat.le_of_ble_eq_true rfl) rfl ?_
  intro p_ e_ s_ m_ below_ meth_ c_ C
  have hv : (if person = (-1 : Int32) then ((s_X7_counts pe n kd nd co wo vs ri la).1, (s_X7_counts pe n kd nd co wo vs ri la).1, (s_X7_counts pe n kd nd co wo vs ri la).2) else (if s_X7_isOne pe person = (0 : Int32) then ((-100001 : Int32), sm, vs) else (if person < (0 : Int32) then ((s_X7_counts pe n kd nd co wo vs ri la).1, (s_X7_counts pe n kd nd co wo vs ri la).1, (s_X7_counts pe n kd nd co wo vs ri la).2) else (((s_X7_counts pe n kd nd co wo vs ri la).2) person.toNatClampNeg, (s_X7_counts pe n kd nd co wo vs ri la).1, (s_X7_counts pe n kd nd co wo vs ri la).2)))) = V := hv
  refine r_iln C dX7_value_0 rfl 1 rfl ?_
  refine r_ic C (v := (-1 : Int32)) dX7_value_1 (by decide) ?_
  refine r_iceq C (tgt := 16) dX7_value_2 (by decide) (fun c1 => ?_) (fun c1 => ?_)
  · rw [if_pos c1] at hv
    refine r_aln C dX7_value_16 rfl 0 rfl ?_
    refine r_aln C dX7_value_17 rfl 0 rfl ?_
    refine gf_X7_113 C 0 rfl rfl dX7_value_18 ?_
    refine r_aln C dX7_value_21 rfl 0 rfl ?_
    refine gf_X7_116 C 0 rfl rfl dX7_value_22 ?_
    refine aft_wa (ws2 := wM D o q1 q2 q3 q4 q5 q6 q7 q8 q9 q10 q11 q12 q13 q14 q15 q16 q17 q18 q19 q20 q21 q22 pe n la ri td ys ty ap wg rd ((s_X7_counts pe n kd nd co wo vs ri la).1) bt up lw ii kd dy nd co od wo tp rk ry rn ((s_X7_counts pe n kd nd co wo vs ri la).2) bs ch tr en du ol ig ln sz it mo) (st' := []) h0 rfl rfl (run_V (rest := []) C (c_X7_counts l D o q1 q2 q3 q4 q5 q6 q7 q8 q9 q10 q11 q12 q13 q14 q15 q16 q17 q18 q19 q20 q21 q22 pe n la ri td ys ty ap wg rd sm bt up lw ii kd dy nd co od wo tp rk ry rn vs bs ch tr en du ol ig ln sz it mo ri la (by omega) (by omega) (dis_all h0 rfl)) ok_X7_counts wn_X7_counts wl_X7_counts wm_X7_180 _ 0 rfl rfl rfl ⟨Nat.le_of_ble_eq_true rfl, Nat.le_of_ble_eq_true rfl⟩ fm_all rfl (Nat.le_of_ble_eq_true rfl) dX7_value_25) rfl rfl ?_
    refine r_iln C dX7_value_28 rfl 1 rfl ?_
    refine r_ifge C (tgt := 39) dX7_value_29 (by decide) (fun c2 => ?_) (fun c2 => ?_)
    · exact absurd (by rw [c1]; decide) c2
    · skip
      refine r_aln C dX7_value_32 rfl 0 rfl ?_
      refine gf_X7_173 C 0 rfl rfl dX7_value_33 ?_
      refine r_goto C (tgt := 45) dX7_value_36 (by decide) ?_
      exact r_iret rfl C (by rw [← hv]) (by rw [← hv]) dX7_value_45
  · rw [if_neg c1] at hv
    refine r_aln C dX7_value_5 rfl 0 rfl ?_
    refine r_iln C dX7_value_6 rfl 1 rfl ?_
    refine aft_rd (st' := [.int (s_X7_isOne pe person)]) (run_V (rest := []) C (c_X7_isOne l D o q1 q2 q3 q4 q5 q6 q7 q8 q9 q10 q11 q12 q13 q14 q15 q16 q17 q18 q19 q20 q21 q22 pe n la ri td ys ty ap wg rd sm bt up lw ii kd dy nd co od wo tp rk ry rn vs bs ch tr en du ol ig ln sz it mo person ) ok_X7_isOne wn_X7_isOne wl_X7_isOne wm_X7_176 _ 0 rfl rfl rfl ⟨Nat.le_of_ble_eq_true rfl, Nat.le_of_ble_eq_true rfl⟩ fm_all rfl (Nat.le_of_ble_eq_true rfl) dX7_value_7) rfl ?_
    refine r_ifne C (tgt := 16) dX7_value_10 (by decide) (fun c3 => ?_) (fun c3 => ?_)
    · rw [if_neg c3] at hv
      have e4 := mone_nat hp c3
      refine r_aln C dX7_value_16 rfl 0 rfl ?_
      refine r_aln C dX7_value_17 rfl 0 rfl ?_
      refine gf_X7_113 C 0 rfl rfl dX7_value_18 ?_
      refine r_aln C dX7_value_21 rfl 0 rfl ?_
      refine gf_X7_116 C 0 rfl rfl dX7_value_22 ?_
      refine aft_wa (ws2 := wM D o q1 q2 q3 q4 q5 q6 q7 q8 q9 q10 q11 q12 q13 q14 q15 q16 q17 q18 q19 q20 q21 q22 pe n la ri td ys ty ap wg rd ((s_X7_counts pe n kd nd co wo vs ri la).1) bt up lw ii kd dy nd co od wo tp rk ry rn ((s_X7_counts pe n kd nd co wo vs ri la).2) bs ch tr en du ol ig ln sz it mo) (st' := []) h0 rfl rfl (run_V (rest := []) C (c_X7_counts l D o q1 q2 q3 q4 q5 q6 q7 q8 q9 q10 q11 q12 q13 q14 q15 q16 q17 q18 q19 q20 q21 q22 pe n la ri td ys ty ap wg rd sm bt up lw ii kd dy nd co od wo tp rk ry rn vs bs ch tr en du ol ig ln sz it mo ri la (by omega) (by omega) (dis_all h0 rfl)) ok_X7_counts wn_X7_counts wl_X7_counts wm_X7_180 _ 0 rfl rfl rfl ⟨Nat.le_of_ble_eq_true rfl, Nat.le_of_ble_eq_true rfl⟩ fm_all rfl (Nat.le_of_ble_eq_true rfl) dX7_value_25) rfl rfl ?_
      refine r_iln C dX7_value_28 rfl 1 rfl ?_
      refine r_ifge C (tgt := 39) dX7_value_29 (by decide) (fun c5 => ?_) (fun c5 => ?_)
      · rw [if_neg c5] at hv
        refine r_aln C dX7_value_39 rfl 0 rfl ?_
        refine gf_X7_40 C 0 rfl rfl dX7_value_40 ?_
        refine r_iln C dX7_value_43 rfl 1 rfl ?_
        refine r_iald C 11 person.toNatClampNeg rfl e4.1 (by omega) (by decide) rfl dX7_value_44 ?_
        exact r_iret rfl C (by rw [← hv]) (by rw [← hv]) dX7_value_45
      · rw [if_pos c5] at hv
        refine r_aln C dX7_value_32 rfl 0 rfl ?_
        refine gf_X7_173 C 0 rfl rfl dX7_value_33 ?_
        refine r_goto C (tgt := 45) dX7_value_36 (by decide) ?_
        exact r_iret rfl C (by rw [← hv]) (by rw [← hv]) dX7_value_45
    · rw [if_pos c3] at hv
      refine r_ldc C wc_X7_127 dX7_value_13 ?_
      exact r_iret rfl C (by rw [← hv]) (by rw [← hv]) dX7_value_15

def s_X7_isWalk_m15_0 (set : Int32) (stand : Int32) : Nat := (if set &&& (stand ^^^ (-1 : Int32)) = (0 : Int32) then 1 else 0)
def s_X7_isWalk_L20 (dy : Nat → Int32) (set : Int32) : Nat → Nat → Int32 → Int32 → Int32 × Int32
  | 0, _, met_4, iw_5 => (met_4, iw_5)
  | k2 + 1, d3, met_4, iw_5 => (if (set >>> ((nI d3) &&& 31)) &&& (1 : Int32) = (1 : Int32) then (if iw_5 = (0 : Int32) then (s_X7_isWalk_L20 dy set k2 (d3 + 1) (met_4 ||| ((1 : Int32) <<< ((dy d3) &&& 31))) (0 : Int32)) else (if (met_4 >>> ((dy d3) &&& 31)) &&& (1 : Int32) = (0 : Int32) then (s_X7_isWalk_L20 dy set k2 (d3 + 1) (met_4 ||| ((1 : Int32) <<< ((dy d3) &&& 31))) (1 : Int32)) else (s_X7_isWalk_L20 dy set k2 (d3 + 1) (met_4 ||| ((1 : Int32) <<< ((dy d3) &&& 31))) (0 : Int32)))) else (s_X7_isWalk_L20 dy set k2 (d3 + 1) met_4 iw_5))
def s_X7_isWalk (n : Nat) (dy : Nat → Int32) (set : Int32) (stand : Int32) : Int32 := ((s_X7_isWalk_L20 dy set n 0 (0 : Int32) (nI (s_X7_isWalk_m15_0 set stand))).2)
set_option maxHeartbeats 8000000 in
set_option maxRecDepth 100000 in
theorem c_X7_isWalk (l : Launch) (D : va_G) (o : Nat) (q1 : Nat) (q2 : Nat) (q3 : Nat) (q4 : Nat) (q5 : Nat) (q6 : Nat) (q7 : Nat) (q8 : Nat) (q9 : Nat) (q10 : Nat) (q11 : Nat) (q12 : Nat) (q13 : Nat) (q14 : Nat) (q15 : Nat) (q16 : Nat) (q17 : Nat) (q18 : Nat) (q19 : Nat) (q20 : Nat) (q21 : Nat) (q22 : Nat) (pe : Nat) (n : Nat) (la : Int32) (ri : Int32) (td : Int32) (ys : Int32) (ty : Nat) (ap : Nat) (wg : Int32) (rd : Nat) (sm : Int32) (bt : Int32) (up : Int64) (lw : Int64) (ii : Int32) (kd : Nat → Int32) (dy : Nat → Int32) (nd : Nat → Int32) (co : Nat → Int32) (od : Nat → Int32) (wo : Nat → Int32) (tp : Nat → Int32) (rk : Nat → Int32) (ry : Nat → Int32) (rn : Nat → Int32) (vs : Nat → Int32) (bs : Nat → Int32) (ch : Nat → Int32) (tr : Nat → Int32) (en : Nat → Int32) (du : Nat → Int32) (ol : Nat → Int32) (ig : Nat → Int32) (ln : Nat → Int32) (sz : Nat → Int32) (it : Nat → Int64) (mo : Nat → Int64) (set : Int32) (stand : Int32) (hn : n ≤ 12) : ct l yX7_isWalk cX7_isWalk 6 (some .boolean) 0 0 D [.ref o, .int set, .int stand] (wM D o q1 q2 q3 q4 q5 q6 q7 q8 q9 q10 q11 q12 q13 q14 q15 q16 q17 q18 q19 q20 q21 q22 pe n la ri td ys ty ap wg rd sm bt up lw ii kd dy nd co od wo tp rk ry rn vs bs ch tr en du ol ig ln sz it mo) (wM D o q1 q2 q3 q4 q5 q6 q7 q8 q9 q10 q11 q12 q13 q14 q15 q16 q17 q18 q19 q20 q21 q22 pe n la ri td ys ty ap wg rd sm bt up lw ii kd dy nd co od wo tp rk ry rn vs bs ch tr en du ol ig ln sz it mo) (fun _ => False) (some (Value.int (s_X7_isWalk n dy set stand))) := by
  obtain ⟨V, hv⟩ : ∃ V, s_X7_isWalk n dy set stand = V := ⟨_, rfl⟩
  rw [hv]
  refine ct_intro (own := RX7) (lv := [(0, .ref o), (1, .int set), (2, .int stand)]) (by decide) rfl (Nat.le_of_ble_eq_true rfl) rfl ?_
  intro p_ e_ s_ m_ below_ meth_ c_ C
  have hv : ((s_X7_isWalk_L20 dy set n 0 (0 : Int32) (nI (s_X7_isWalk_m15_0 set stand))).2) = V := hv
  refine r_ic C (v := (0 : Int32)) dX7_isWalk_0 (by decide) ?_
  refine r_isn C (lv' := [(3, .int (0 : Int32)), (0, .ref o), (1, .int set), (2, .int stand)]) dX7_isWalk_1 rfl (by decide) rfl ?_
  refine r_iln C dX7_isWalk_2 rfl 2 rfl ?_
  refine r_iln C dX7_isWalk_3 rfl 3 rfl ?_
  refine r_ic C (v := (-1 : Int32)) dX7_isWalk_4 (by decide) ?_
  refine r_ixor C dX7_isWalk_5 ?_
  refine r_iand C dX7_isWalk_6 ?_
  have J13 : GM p_ l e_ s_ m_ below_ meth_ c_ D 0 0 6 [.ref o, .int set, .int stand] (wM D o q1 q2 q3 q4 q5 q6 q7 q8 q9 q10 q11 q12 q13 q14 q15 q16 q17 q18 q19 q20 q21 q22 pe n la ri td ys ty ap wg rd sm bt up lw ii kd dy nd co od wo tp rk ry rn vs bs ch tr en du ol ig ln sz it mo) (fun _ => False) (some (Value.int V)) (wM D o q1 q2 q3 q4 q5 q6 q7 q8 q9 q10 q11 q12 q13 q14 q15 q16 q17 q18 q19 q20 q21 q22 pe n la ri td ys ty ap wg rd sm bt up lw ii kd dy nd co od wo tp rk ry rn vs bs ch tr en du ol ig ln sz it mo) 15 [(3, .int (0 : Int32)), (0, .ref o), (1, .int set), (2, .int stand)] [.int (nI (s_X7_isWalk_m15_0 set stand))] := by
    refine r_is C (lv' := [(4, .int (nI (s_X7_isWalk_m15_0 set stand))), (3, .int (0 : Int32)), (0, .ref o), (1, .int set), (2, .int stand)]) dX7_isWalk_15 (by decide) rfl ?_
    refine r_ic C (v := (0 : Int32)) dX7_isWalk_17 (by decide) ?_
    refine r_is C (lv' := [(5, .int (0 : Int32)), (4, .int (nI (s_X7_isWalk_m15_0 set stand))), (3, .int (0 : Int32)), (0, .ref o), (1, .int set), (2, .int stand)]) dX7_isWalk_18 (by decide) rfl ?_
    have L12 : ∀ (k2 : Nat) (d3 : Nat) (met_4 : Int32) (iw_5 : Int32), (d3 + k2 = n) → (narrow .boolean (.int iw_5) = .int iw_5) → ((s_X7_isWalk_L20 dy set k2 d3 met_4 iw_5).2) = V → GM p_ l e_ s_ m_ below_ meth_ c_ D 0 0 6 [.ref o, .int set, .int stand] (wM D o q1 q2 q3 q4 q5 q6 q7 q8 q9 q10 q11 q12 q13 q14 q15 q16 q17 q18 q19 q20 q21 q22 pe n la ri td ys ty ap wg rd sm bt up lw ii kd dy nd co od wo tp rk ry rn vs bs ch tr en du ol ig ln sz it mo) (fun _ => False) (some (Value.int V)) (wM D o q1 q2 q3 q4 q5 q6 q7 q8 q9 q10 q11 q12 q13 q14 q15 q16 q17 q18 q19 q20 q21 q22 pe n la ri td ys ty ap wg rd sm bt up lw ii kd dy nd co od wo tp rk ry rn vs bs ch tr en du ol ig ln sz it mo) 20 [(5, .int (nI d3)), (4, .int iw_5), (3, .int met_4), (0, .ref o), (1, .int set), (2, .int stand)] [] := by
      intro k2
      induction k2 with
      | zero =>
        intro d3 met_4 iw_5 hk hz hv
        have hv : iw_5 = V := hv
        refine r_il C dX7_isWalk_20 0 rfl ?_
        refine r_aln C dX7_isWalk_22 rfl 3 rfl ?_
        refine gf_X7_84 C 0 rfl rfl dX7_isWalk_23 ?_
        refine r_icge C (tgt := 83) dX7_isWalk_26 (by decide) (fun c6 => ?_) (fun c6 => ?_)
        · skip
          refine r_il C dX7_isWalk_83 1 rfl ?_
          exact r_zret rfl C hz (congrArg (fun z => some (Value.int z)) hv) rfl dX7_isWalk_85
        · exact absurd c6 (fun z => absurd ((nv_lt (a := d3) (b := n) rfl rfl (by omega) (by omega)).mp z) (by omega))
      | succ k2 ih7 =>
        intro d3 met_4 iw_5 hk hz hv
        have hv : ((if (set >>> ((nI d3) &&& 31)) &&& (1 : Int32) = (1 : Int32) then (if iw_5 = (0 : Int32) then (s_X7_isWalk_L20 dy set k2 (d3 + 1) (met_4 ||| ((1 : Int32) <<< ((dy d3) &&& 31))) (0 : Int32)) else (if (met_4 >>> ((dy d3) &&& 31)) &&& (1 : Int32) = (0 : Int32) then (s_X7_isWalk_L20 dy set k2 (d3 + 1) (met_4 ||| ((1 : Int32) <<< ((dy d3) &&& 31))) (1 : Int32)) else (s_X7_isWalk_L20 dy set k2 (d3 + 1) (met_4 ||| ((1 : Int32) <<< ((dy d3) &&& 31))) (0 : Int32)))) else (s_X7_isWalk_L20 dy set k2 (d3 + 1) met_4 iw_5)).2) = V := hv
        refine r_il C dX7_isWalk_20 0 rfl ?_
        refine r_aln C dX7_isWalk_22 rfl 3 rfl ?_
        refine gf_X7_84 C 0 rfl rfl dX7_isWalk_23 ?_
        refine r_icge C (tgt := 83) dX7_isWalk_26 (by decide) (fun c8 => ?_) (fun c8 => ?_)
        · exact absurd ((nv_lt (a := d3) (b := n) rfl rfl (by omega) (by omega)).mpr (by omega)) c8
        · skip
          refine r_iln C dX7_isWalk_29 rfl 4 rfl ?_
          refine r_il C dX7_isWalk_30 0 rfl ?_
          refine r_ishr C dX7_isWalk_32 ?_
          refine r_ic C (v := (1 : Int32)) dX7_isWalk_33 (by decide) ?_
          refine r_iand C dX7_isWalk_34 ?_
          refine r_ic C (v := (1 : Int32)) dX7_isWalk_35 (by decide) ?_
          refine r_icne C (tgt := 77) dX7_isWalk_36 (by decide) (fun c9 => ?_) (fun c9 => ?_)
          · rw [if_neg c9] at hv
            refine r_inc C (v := nI (d3 + 1)) (lv' := [(5, .int (nI (d3 + 1))), (4, .int iw_5), (3, .int met_4), (0, .ref o), (1, .int set), (2, .int stand)]) dX7_isWalk_77 0 rfl (inc_nI d3) (by decide) rfl ?_
            refine r_goto C (tgt := 20) dX7_isWalk_80 (by decide) ?_
            exact ih7 (d3 + 1) met_4 iw_5 (by omega) (by first | exact hz | exact nz0 | exact nz1) hv
          · rw [if_pos c9] at hv
            refine r_il C dX7_isWalk_39 1 rfl ?_
            refine r_ifeq C (tgt := 62) dX7_isWalk_41 (by decide) (fun c10 => ?_) (fun c10 => ?_)
            · rw [if_pos c10] at hv
              refine r_ic C (v := (0 : Int32)) dX7_isWalk_62 (by decide) ?_
              refine r_is C (lv' := [(4, .int (0 : Int32)), (5, .int (nI d3)), (3, .int met_4), (0, .ref o), (1, .int set), (2, .int stand)]) dX7_isWalk_63 (by decide) rfl ?_
              refine r_iln C dX7_isWalk_65 rfl 2 rfl ?_
              refine r_ic C (v := (1 : Int32)) dX7_isWalk_66 (by decide) ?_
              refine r_aln C dX7_isWalk_67 rfl 3 rfl ?_
              refine gf_X7_13 C 0 rfl rfl dX7_isWalk_68 ?_
              refine r_il C dX7_isWalk_71 1 rfl ?_
              refine r_iald C 2 d3 rfl rfl (by omega) (by decide) rfl dX7_isWalk_73 ?_
              refine r_ishl C dX7_isWalk_74 ?_
              refine r_ior C dX7_isWalk_75 ?_
              refine r_isn C (lv' := [(3, .int (met_4 ||| ((1 : Int32) <<< ((dy d3) &&& 31)))), (4, .int (0 : Int32)), (5, .int (nI d3)), (0, .ref o), (1, .int set), (2, .int stand)]) dX7_isWalk_76 rfl (by decide) rfl ?_
              refine r_inc C (v := nI (d3 + 1)) (lv' := [(5, .int (nI (d3 + 1))), (3, .int (met_4 ||| ((1 : Int32) <<< ((dy d3) &&& 31)))), (4, .int (0 : Int32)), (0, .ref o), (1, .int set), (2, .int stand)]) dX7_isWalk_77 2 rfl (inc_nI d3) (by decide) rfl ?_
              refine r_goto C (tgt := 20) dX7_isWalk_80 (by decide) ?_
              refine r_lv [0, 2, 1, 3, 4, 5] rfl ?_
              exact ih7 (d3 + 1) (met_4 ||| ((1 : Int32) <<< ((dy d3) &&& 31))) (0 : Int32) (by omega) (by first | exact hz | exact nz0 | exact nz1) hv
            · rw [if_neg c10] at hv
              refine r_iln C dX7_isWalk_44 rfl 2 rfl ?_
              refine r_aln C dX7_isWalk_45 rfl 3 rfl ?_
              refine gf_X7_13 C 0 rfl rfl dX7_isWalk_46 ?_
              refine r_il C dX7_isWalk_49 0 rfl ?_
              refine r_iald C 2 d3 rfl rfl (by omega) (by decide) rfl dX7_isWalk_51 ?_
              refine r_ishr C dX7_isWalk_52 ?_
              refine r_ic C (v := (1 : Int32)) dX7_isWalk_53 (by decide) ?_
              refine r_iand C dX7_isWalk_54 ?_
              refine r_ifne C (tgt := 62) dX7_isWalk_55 (by decide) (fun c11 => ?_) (fun c11 => ?_)
              · rw [if_neg c11] at hv
                refine r_ic C (v := (0 : Int32)) dX7_isWalk_62 (by decide) ?_
                refine r_is C (lv' := [(4, .int (0 : Int32)), (5, .int (nI d3)), (3, .int met_4), (0, .ref o), (1, .int set), (2, .int stand)]) dX7_isWalk_63 (by decide) rfl ?_
                refine r_iln C dX7_isWalk_65 rfl 2 rfl ?_
                refine r_ic C (v := (1 : Int32)) dX7_isWalk_66 (by decide) ?_
                refine r_aln C dX7_isWalk_67 rfl 3 rfl ?_
                refine gf_X7_13 C 0 rfl rfl dX7_isWalk_68 ?_
                refine r_il C dX7_isWalk_71 1 rfl ?_
                refine r_iald C 2 d3 rfl rfl (by omega) (by decide) rfl dX7_isWalk_73 ?_
                refine r_ishl C dX7_isWalk_74 ?_
                refine r_ior C dX7_isWalk_75 ?_
                refine r_isn C (lv' := [(3, .int (met_4 ||| ((1 : Int32) <<< ((dy d3) &&& 31)))), (4, .int (0 : Int32)), (5, .int (nI d3)), (0, .ref o), (1, .int set), (2, .int stand)]) dX7_isWalk_76 rfl (by decide) rfl ?_
                refine r_inc C (v := nI (d3 + 1)) (lv' := [(5, .int (nI (d3 + 1))), (3, .int (met_4 ||| ((1 : Int32) <<< ((dy d3) &&& 31)))), (4, .int (0 : Int32)), (0, .ref o), (1, .int set), (2, .int stand)]) dX7_isWalk_77 2 rfl (inc_nI d3) (by decide) rfl ?_
                refine r_goto C (tgt := 20) dX7_isWalk_80 (by decide) ?_
                refine r_lv [0, 2, 1, 3, 4, 5] rfl ?_
                exact ih7 (d3 + 1) (met_4 ||| ((1 : Int32) <<< ((dy d3) &&& 31))) (0 : Int32) (by omega) (by first | exact hz | exact nz0 | exact nz1) hv
              · rw [if_pos c11] at hv
                refine r_ic C (v := (1 : Int32)) dX7_isWalk_58 (by decide) ?_
                refine r_goto C (tgt := 63) dX7_isWalk_59 (by decide) ?_
                refine r_is C (lv' := [(4, .int (1 : Int32)), (5, .int (nI d3)), (3, .int met_4), (0, .ref o), (1, .int set), (2, .int stand)]) dX7_isWalk_63 (by decide) rfl ?_
                refine r_iln C dX7_isWalk_65 rfl 2 rfl ?_
                refine r_ic C (v := (1 : Int32)) dX7_isWalk_66 (by decide) ?_
                refine r_aln C dX7_isWalk_67 rfl 3 rfl ?_
                refine gf_X7_13 C 0 rfl rfl dX7_isWalk_68 ?_
                refine r_il C dX7_isWalk_71 1 rfl ?_
                refine r_iald C 2 d3 rfl rfl (by omega) (by decide) rfl dX7_isWalk_73 ?_
                refine r_ishl C dX7_isWalk_74 ?_
                refine r_ior C dX7_isWalk_75 ?_
                refine r_isn C (lv' := [(3, .int (met_4 ||| ((1 : Int32) <<< ((dy d3) &&& 31)))), (4, .int (1 : Int32)), (5, .int (nI d3)), (0, .ref o), (1, .int set), (2, .int stand)]) dX7_isWalk_76 rfl (by decide) rfl ?_
                refine r_inc C (v := nI (d3 + 1)) (lv' := [(5, .int (nI (d3 + 1))), (3, .int (met_4 ||| ((1 : Int32) <<< ((dy d3) &&& 31)))), (4, .int (1 : Int32)), (0, .ref o), (1, .int set), (2, .int stand)]) dX7_isWalk_77 2 rfl (inc_nI d3) (by decide) rfl ?_
                refine r_goto C (tgt := 20) dX7_isWalk_80 (by decide) ?_
                refine r_lv [0, 2, 1, 3, 4, 5] rfl ?_
                exact ih7 (d3 + 1) (met_4 ||| ((1 : Int32) <<< ((dy d3) &&& 31))) (1 : Int32) (by omega) (by first | exact hz | exact nz0 | exact nz1) hv
    refine r_lve (lv2 := [(5, .int (nI 0)), (4, .int (nI (s_X7_isWalk_m15_0 set stand))), (3, .int (0 : Int32)), (0, .ref o), (1, .int set), (2, .int stand)]) (congrArg (fun (z : Int32) => ([(5, .int z), (4, .int (nI (s_X7_isWalk_m15_0 set stand))), (3, .int (0 : Int32)), (0, .ref o), (1, .int set), (2, .int stand)] : List (Nat × Value))) rfl) ?_
    exact L12 n 0 (0 : Int32) (nI (s_X7_isWalk_m15_0 set stand)) (by omega) (by unfold s_X7_isWalk_m15_0; split <;> rfl) hv
  refine r_ifne C (tgt := 14) dX7_isWalk_7 (by decide) (fun c1 => ?_) (fun c1 => ?_)
  · skip
    refine r_ic C (v := (0 : Int32)) dX7_isWalk_14 (by decide) ?_
    refine r_lv [0, 1, 2, 3] rfl ?_
    refine r_lve (lv2 := [(3, .int (0 : Int32)), (0, .ref o), (1, .int set), (2, .int stand)]) rfl ?_
    refine r_stk (st2 := [.int (nI 0)]) rfl ?_
    exact (by have z := J13; rw [show (s_X7_isWalk_m15_0 set stand) = 0 from (by unfold s_X7_isWalk_m15_0; first | rfl | ((try rw [if_neg (show ¬ (set &&& (stand ^^^ (-1 : Int32)) = (0 : Int32)) from by assumption)]); (try rfl); done) | (simp only [if_pos, if_neg, *, not_false_eq_true, ite_true, ite_false, if_true, if_false]; done) | (simp [*]; done))] at z; exact z)
  · skip
    refine r_ic C (v := (1 : Int32)) dX7_isWalk_10 (by decide) ?_
    refine r_goto C (tgt := 15) dX7_isWalk_11 (by decide) ?_
    refine r_lv [0, 1, 2, 3] rfl ?_
    refine r_lve (lv2 := [(3, .int (0 : Int32)), (0, .ref o), (1, .int set), (2, .int stand)]) rfl ?_
    refine r_stk (st2 := [.int (nI 1)]) rfl ?_
    exact (by have z := J13; rw [show (s_X7_isWalk_m15_0 set stand) = 1 from (by unfold s_X7_isWalk_m15_0; first | rfl | ((try rw [if_pos (show set &&& (stand ^^^ (-1 : Int32)) = (0 : Int32) from by assumption)]); (try rfl); done) | (simp only [if_pos, if_neg, *, not_false_eq_true, ite_true, ite_false, if_true, if_false]; done) | (simp [*]; done))] at z; exact z)

