def s_X7_drop (ln : Nat → Int32) (sz : Nat → Int32) (sheet : Int32) : Int32 × (Nat → Int32) := (if s_X7_isSheet sheet = (0 : Int32) then ((-1 : Int32), ln) else (if ln sheet.toNatClampNeg < (0 : Int32) then ((-11 : Int32), ln) else (sz sheet.toNatClampNeg, upd ln sheet.toNatClampNeg (-1 : Int32))))
set_option maxHeartbeats 8000000 in
set_option maxRecDepth 100000 in
theorem c_X7_drop (l : Launch) (D : va_G) (o : Nat) (q1 : Nat) (q2 : Nat) (q3 : Nat) (q4 : Nat) (q5 : Nat) (q6 : Nat) (q7 : Nat) (q8 : Nat) (q9 : Nat) (q10 : Nat) (q11 : Nat) (q12 : Nat) (q13 : Nat) (q14 : Nat) (q15 : Nat) (q16 : Nat) (q17 : Nat) (q18 : Nat) (q19 : Nat) (q20 : Nat) (q21 : Nat) (q22 : Nat) (pe : Nat) (n : Nat) (la : Int32) (ri : Int32) (td : Int32) (ys : Int32) (ty : Nat) (ap : Nat) (wg : Int32) (rd : Nat) (sm : Int32) (bt : Int32) (up : Int64) (lw : Int64) (ii : Int32) (kd : Nat → Int32) (dy : Nat → Int32) (nd : Nat → Int32) (co : Nat → Int32) (od : Nat → Int32) (wo : Nat → Int32) (tp : Nat → Int32) (rk : Nat → Int32) (ry : Nat → Int32) (rn : Nat → Int32) (vs : Nat → Int32) (bs : Nat → Int32) (ch : Nat → Int32) (tr : Nat → Int32) (en : Nat → Int32) (du : Nat → Int32) (ol : Nat → Int32) (ig : Nat → Int32) (ln : Nat → Int32) (sz : Nat → Int32) (it : Nat → Int64) (mo : Nat → Int64) (sheet : Int32) (h0 : va_D (fun _ => True) (wM D o q1 q2 q3 q4 q5 q6 q7 q8 q9 q10 q11 q12 q13 q14 q15 q16 q17 q18 q19 q20 q21 q22 pe n la ri td ys ty ap wg rd sm bt up lw ii kd dy nd co od wo tp rk ry rn vs bs ch tr en du ol ig ln sz it mo)) : ct l yX7_drop cX7_drop 2 (some .int) 2 45 D [.ref o, .int sheet] (wM D o q1 q2 q3 q4 q5 q6 q7 q8 q9 q10 q11 q12 q13 q14 q15 q16 q17 q18 q19 q20 q21 q22 pe n la ri td ys ty ap wg rd sm bt up lw ii kd dy nd co od wo tp rk ry rn vs bs ch tr en du ol ig ln sz it mo) (wM D o q1 q2 q3 q4 q5 q6 q7 q8 q9 q10 q11 q12 q13 q14 q15 q16 q17 q18 q19 q20 q21 q22 pe n la ri td ys ty ap wg rd sm bt up lw ii kd dy nd co od wo tp rk ry rn vs bs ch tr en du ol ig (s_X7_drop ln sz sheet).2 sz it mo) (Ad (wM D o q1 q2 q3 q4 q5 q6 q7 q8 q9 q10 q11 q12 q13 q14 q15 q16 q17 q18 q19 q20 q21 q22 pe n la ri td ys ty ap wg rd sm bt up lw ii kd dy nd co od wo tp rk ry rn vs bs ch tr en du ol ig ln sz it mo)) (some (Value.int (s_X7_drop ln sz sheet).1)) := by
  obtain ⟨V, hv⟩ : ∃ V, s_X7_drop ln sz sheet = V := ⟨_, rfl⟩
  rw [hv]
  refine ct_intro (own := RX7) (lv := [(0, .ref o), (1, .int sheet)]) (by decide) rfl (Nat.le_of_ble_eq_true rfl) rfl ?_
  intro p_ e_ s_ m_ below_ meth_ c_ C
  have hv : (if s_X7_isSheet sheet = (0 : Int32) then ((-1 : Int32), ln) else (if ln sheet.toNatClampNeg < (0 : Int32) then ((-11 : Int32), ln) else (sz sheet.toNatClampNeg, upd ln sheet.toNatClampNeg (-1 : Int32)))) = V := hv
  refine r_iln C dX7_drop_0 rfl 1 rfl ?_
  refine aft_rd (st' := [.int (s_X7_isSheet sheet)]) (run_S (rest := []) C (c_X7_isSheet l D sheet ) ok_X7_isSheet ws_X7_isSheet wm_X7_228 [] rfl ⟨Nat.le_of_ble_eq_true rfl, Nat.le_of_ble_eq_true rfl⟩ rfl rfl (Nat.le_of_ble_eq_true rfl) dX7_drop_1) rfl ?_
  refine r_ifne C (tgt := 9) dX7_drop_4 (by decide) (fun c1 => ?_) (fun c1 => ?_)
  · rw [if_neg c1] at hv
    have e2 := mSheet_nat c1
    refine r_aln C dX7_drop_9 rfl 0 rfl ?_
    refine gf_X7_64 C 0 rfl rfl dX7_drop_10 ?_
    refine r_iln C dX7_drop_13 rfl 1 rfl ?_
    refine r_iald C 19 sheet.toNatClampNeg rfl e2.1 (by omega) (by decide) rfl dX7_drop_14 ?_
    refine r_ifge C (tgt := 21) dX7_drop_15 (by decide) (fun c3 => ?_) (fun c3 => ?_)
    · rw [if_neg c3] at hv
      refine r_aln C dX7_drop_21 rfl 0 rfl ?_
      refine gf_X7_64 C 0 rfl rfl dX7_drop_22 ?_
      refine r_iln C dX7_drop_25 rfl 1 rfl ?_
      refine r_ic C (v := (-1 : Int32)) dX7_drop_26 (by decide) ?_
      refine r_iast C (ws2 := wM D o q1 q2 q3 q4 q5 q6 q7 q8 q9 q10 q11 q12 q13 q14 q15 q16 q17 q18 q19 q20 q21 q22 pe n la ri td ys ty ap wg rd sm bt up lw ii kd dy nd co od wo tp rk ry rn vs bs ch tr en du ol ig (upd ln sheet.toNatClampNeg (-1 : Int32)) sz it mo) h0 rfl 19 sheet.toNatClampNeg rfl e2.1 (by omega) (by decide) dX7_drop_27 rfl rfl ?_
      refine r_aln C dX7_drop_28 rfl 0 rfl ?_
      refine gf_X7_67 C 0 rfl rfl dX7_drop_29 ?_
      refine r_iln C dX7_drop_32 rfl 1 rfl ?_
      refine r_iald C 20 sheet.toNatClampNeg rfl e2.1 (by omega) (by decide) rfl dX7_drop_33 ?_
      exact r_iret rfl C (by rw [← hv]) (by rw [← hv]) dX7_drop_34
    · rw [if_pos c3] at hv
      refine r_bp C (v := (-11 : Int32)) dX7_drop_18 (by decide) ?_
      exact r_iret rfl C (by rw [← hv]) (by rw [← hv]) dX7_drop_20
  · rw [if_pos c1] at hv
    refine r_ic C (v := (-1 : Int32)) dX7_drop_7 (by decide) ?_
    exact r_iret rfl C (by rw [← hv]) (by rw [← hv]) dX7_drop_8

def s_X7_item (ln : Nat → Int32) (sz : Nat → Int32) (it : Nat → Int64) (sheet : Int32) (lane : Int32) (i : Int32) (v : Int64) : Int32 × (Nat → Int64) := (if s_X7_isSheet sheet = (0 : Int32) then ((-1 : Int32), it) else (if s_X7_isLane lane = (0 : Int32) then ((-1 : Int32), it) else (if s_X7_why ln sz sheet.toNatClampNeg lane i (1 : Int32) < (0 : Int32) then (s_X7_why ln sz sheet.toNatClampNeg lane i (1 : Int32), it) else ((1 : Int32), s_X7_puts ln it sheet.toNatClampNeg i.toNatClampNeg v))))
set_option maxHeartbeats 8000000 in
set_option maxRecDepth 100000 in
theorem c_X7_item (l : Launch) (D : va_G) (o : Nat) (q1 : Nat) (q2 : Nat) (q3 : Nat) (q4 : Nat) (q5 : Nat) (q6 : Nat) (q7 : Nat) (q8 : Nat) (q9 : Nat) (q10 : Nat) (q11 : Nat) (q12 : Nat) (q13 : Nat) (q14 : Nat) (q15 : Nat) (q16 : Nat) (q17 : Nat) (q18 : Nat) (q19 : Nat) (q20 : Nat) (q21 : Nat) (q22 : Nat) (pe : Nat) (n : Nat) (la : Int32) (ri : Int32) (td : Int32) (ys : Int32) (ty : Nat) (ap : Nat) (wg : Int32) (rd : Nat) (sm : Int32) (bt : Int32) (up : Int64) (lw : Int64) (ii : Int32) (kd : Nat → Int32) (dy : Nat → Int32) (nd : Nat → Int32) (co : Nat → Int32) (od : Nat → Int32) (wo : Nat → Int32) (tp : Nat → Int32) (rk : Nat → Int32) (ry : Nat → Int32) (rn : Nat → Int32) (vs : Nat → Int32) (bs : Nat → Int32) (ch : Nat → Int32) (tr : Nat → Int32) (en : Nat → Int32) (du : Nat → Int32) (ol : Nat → Int32) (ig : Nat → Int32) (ln : Nat → Int32) (sz : Nat → Int32) (it : Nat → Int64) (mo : Nat → Int64) (sheet : Int32) (lane : Int32) (i : Int32) (v : Int64) (hz : ∀ j, j < 4 → ∃ z : Nat, z ≤ 16 ∧ sz j = nI z) (h0 : va_D (fun _ => True) (wM D o q1 q2 q3 q4 q5 q6 q7 q8 q9 q10 q11 q12 q13 q14 q15 q16 q17 q18 q19 q20 q21 q22 pe n la ri td ys ty ap wg rd sm bt up lw ii kd dy nd co od wo tp rk ry rn vs bs ch tr en du ol ig ln sz it mo)) : ct l yX7_item cX7_item 7 (some .int) 2 45 D [.ref o, .int sheet, .int lane, .int i, .long v] (wM D o q1 q2 q3 q4 q5 q6 q7 q8 q9 q10 q11 q12 q13 q14 q15 q16 q17 q18 q19 q20 q21 q22 pe n la ri td ys ty ap wg rd sm bt up lw ii kd dy nd co od wo tp rk ry rn vs bs ch tr en du ol ig ln sz it mo) (wM D o q1 q2 q3 q4 q5 q6 q7 q8 q9 q10 q11 q12 q13 q14 q15 q16 q17 q18 q19 q20 q21 q22 pe n la ri td ys ty ap wg rd sm bt up lw ii kd dy nd co od wo tp rk ry rn vs bs ch tr en du ol ig ln sz (s_X7_item ln sz it sheet lane i v).2 mo) (Ad (wM D o q1 q2 q3 q4 q5 q6 q7 q8 q9 q10 q11 q12 q13 q14 q15 q16 q17 q18 q19 q20 q21 q22 pe n la ri td ys ty ap wg rd sm bt up lw ii kd dy nd co od wo tp rk ry rn vs bs ch tr en du ol ig ln sz it mo)) (some (Value.int (s_X7_item ln sz it sheet lane i v).1)) := by
  obtain ⟨V, hv⟩ : ∃ V, s_X7_item ln sz it sheet lane i v = V := ⟨_, rfl⟩
  rw [hv]
  refine ct_intro (own := RX7) (lv := [(0, .ref o), (1, .int sheet), (2, .int lane), (3, .int i), (4, .long v)]) (by decide) rfl (Nat.le_of_ble_eq_true rfl) rfl ?_
  intro p_ e_ s_ m_ below_ meth_ c_ C
  have hv : (if s_X7_isSheet sheet = (0 : Int32) then ((-1 : Int32), it) else (if s_X7_isLane lane = (0 : Int32) then ((-1 : Int32), it) else (if s_X7_why ln sz sheet.toNatClampNeg lane i (1 : Int32) < (0 : Int32) then (s_X7_why ln sz sheet.toNatClampNeg lane i (1 : Int32), it) else ((1 : Int32), s_X7_puts ln it sheet.toNatClampNeg i.toNatClampNeg v)))) = V := hv
  refine r_iln C dX7_item_0 rfl 1 rfl ?_
  refine aft_rd (st' := [.int (s_X7_isSheet sheet)]) (run_S (rest := []) C (c_X7_isSheet l D sheet ) ok_X7_isSheet ws_X7_isSheet wm_X7_228 [] rfl ⟨Nat.le_of_ble_eq_true rfl, Nat.le_of_ble_eq_true rfl⟩ rfl rfl (Nat.le_of_ble_eq_true rfl) dX7_item_1) rfl ?_
  refine r_ifeq C (tgt := 14) dX7_item_4 (by decide) (fun c1 => ?_) (fun c1 => ?_)
  · rw [if_pos c1] at hv
    refine r_ic C (v := (-1 : Int32)) dX7_item_14 (by decide) ?_
    exact r_iret rfl C (by rw [← hv]) (by rw [← hv]) dX7_item_15
  · rw [if_neg c1] at hv
    have e2 := mSheet_nat c1
    refine r_iln C dX7_item_7 rfl 2 rfl ?_
    refine aft_rd (st' := [.int (s_X7_isLane lane)]) (run_S (rest := []) C (c_X7_isLane l D lane ) ok_X7_isLane ws_X7_isLane wm_X7_231 [] rfl ⟨Nat.le_of_ble_eq_true rfl, Nat.le_of_ble_eq_true rfl⟩ rfl rfl (Nat.le_of_ble_eq_true rfl) dX7_item_8) rfl ?_
    refine r_ifne C (tgt := 16) dX7_item_11 (by decide) (fun c3 => ?_) (fun c3 => ?_)
    · rw [if_neg c3] at hv
      refine r_aln C dX7_item_16 rfl 0 rfl ?_
      refine r_iln C dX7_item_17 rfl 1 rfl ?_
      refine r_iln C dX7_item_18 rfl 2 rfl ?_
      refine r_iln C dX7_item_19 rfl 3 rfl ?_
      refine r_ic C (v := (1 : Int32)) dX7_item_20 (by decide) ?_
      refine r_stk (st2 := [.int (1 : Int32), .int i, .int lane, .int (nI sheet.toNatClampNeg), .ref o]) (congrArg (fun (z : Int32) => ([.int (1 : Int32), .int i, .int lane, .int z, .ref o] : List Value)) e2.1) ?_
      refine aft_rd (st' := [.int (s_X7_why ln sz sheet.toNatClampNeg lane i (1 : Int32))]) (run_V (rest := []) C (c_X7_why l D o q1 q2 q3 q4 q5 q6 q7 q8 q9 q10 q11 q12 q13 q14 q15 q16 q17 q18 q19 q20 q21 q22 pe n la ri td ys ty ap wg rd sm bt up lw ii kd dy nd co od wo tp rk ry rn vs bs ch tr en du ol ig ln sz it mo sheet.toNatClampNeg lane i (1 : Int32) (by omega)) ok_X7_why wn_X7_why wl_X7_why wm_X7_234 _ 0 rfl rfl rfl ⟨Nat.le_of_ble_eq_true rfl, Nat.le_of_ble_eq_true rfl⟩ fm_all rfl (Nat.le_of_ble_eq_true rfl) dX7_item_21) rfl ?_
      refine r_is C (lv' := [(6, .int (s_X7_why ln sz sheet.toNatClampNeg lane i (1 : Int32))), (0, .ref o), (1, .int sheet), (2, .int lane), (3, .int i), (4, .long v)]) dX7_item_24 (by decide) rfl ?_
      refine r_il C dX7_item_26 0 rfl ?_
      refine r_ifge C (tgt := 34) dX7_item_28 (by decide) (fun c4 => ?_) (fun c4 => ?_)
      · rw [if_neg c4] at hv
        have e5 := mwhy_i (mn := 1) rfl (by omega) hz (by omega) c4
        refine r_aln C dX7_item_34 rfl 1 rfl ?_
        refine r_iln C dX7_item_35 rfl 2 rfl ?_
        refine r_iln C dX7_item_36 rfl 4 rfl ?_
        refine r_ll C dX7_item_37 5 rfl ?_
        refine r_stk (st2 := [.long v, .int i, .int (nI sheet.toNatClampNeg), .ref o]) (congrArg (fun (z : Int32) => ([.long v, .int i, .int z, .ref o] : List Value)) e2.1) ?_
        refine r_stk (st2 := [.long v, .int (nI i.toNatClampNeg), .int (nI sheet.toNatClampNeg), .ref o]) (congrArg (fun (z : Int32) => ([.long v, .int z, .int (nI sheet.toNatClampNeg), .ref o] : List Value)) e5.1) ?_
        refine aft_wa (ws2 := wM D o q1 q2 q3 q4 q5 q6 q7 q8 q9 q10 q11 q12 q13 q14 q15 q16 q17 q18 q19 q20 q21 q22 pe n la ri td ys ty ap wg rd sm bt up lw ii kd dy nd co od wo tp rk ry rn vs bs ch tr en du ol ig ln sz (s_X7_puts ln it sheet.toNatClampNeg i.toNatClampNeg v) mo) (st' := []) h0 rfl rfl (run_V (rest := []) C (c_X7_puts l D o q1 q2 q3 q4 q5 q6 q7 q8 q9 q10 q11 q12 q13 q14 q15 q16 q17 q18 q19 q20 q21 q22 pe n la ri td ys ty ap wg rd sm bt up lw ii kd dy nd co od wo tp rk ry rn vs bs ch tr en du ol ig ln sz it mo sheet.toNatClampNeg i.toNatClampNeg v (by omega) (by omega) (dis_all h0 rfl)) ok_X7_puts wn_X7_puts wl_X7_puts wm_X7_242 _ 0 rfl rfl rfl ⟨Nat.le_of_ble_eq_true rfl, Nat.le_of_ble_eq_true rfl⟩ fm_all rfl (Nat.le_of_ble_eq_true rfl) dX7_item_39) rfl rfl ?_
        refine r_ic C (v := (1 : Int32)) dX7_item_42 (by decide) ?_
        exact r_iret rfl C (by rw [← hv]) (by rw [← hv]) dX7_item_43
      · rw [if_pos c4] at hv
        refine r_il C dX7_item_31 0 rfl ?_
        exact r_iret rfl C (by rw [← hv]) (by rw [← hv]) dX7_item_33
    · rw [if_pos c3] at hv
      refine r_ic C (v := (-1 : Int32)) dX7_item_14 (by decide) ?_
      exact r_iret rfl C (by rw [← hv]) (by rw [← hv]) dX7_item_15

