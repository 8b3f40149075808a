def s_X7_puts (ln : Nat → Int32) (it : Nat → Int64) (sheet : Nat) (i : Nat) (v : Int64) : (Nat → Int64) := (if ln sheet = (0 : Int32) then vp_updL it ((16 * sheet) + i) v.toInt32.toInt8.toInt32.toInt64 else (if ln sheet = (1 : Int32) then vp_updL it ((16 * sheet) + i) v.toInt32.toInt16.toInt32.toInt64 else (if ln sheet = (2 : Int32) then vp_updL it ((16 * sheet) + i) v.toInt32.toInt64 else vp_updL it ((16 * sheet) + i) v)))
set_option maxHeartbeats 8000000 in
set_option maxRecDepth 100000 in
theorem c_X7_puts (l : Launch) (D : va_G) (o : Nat) (q1 : Nat) (q2 : Nat) (q3 : Nat) (q4 : Nat) (q5 : Nat) (q6 : Nat) (q7 : Nat) (q8 : Nat) (q9 : Nat) (q10 : Nat) (q11 : Nat) (q12 : Nat) (q13 : Nat) (q14 : Nat) (q15 : Nat) (q16 : Nat) (q17 : Nat) (q18 : Nat) (q19 : Nat) (q20 : Nat) (q21 : Nat) (q22 : Nat) (pe : Nat) (n : Nat) (la : Int32) (ri : Int32) (td : Int32) (ys : Int32) (ty : Nat) (ap : Nat) (wg : Int32) (rd : Nat) (sm : Int32) (bt : Int32) (up : Int64) (lw : Int64) (ii : Int32) (kd : Nat → Int32) (dy : Nat → Int32) (nd : Nat → Int32) (co : Nat → Int32) (od : Nat → Int32) (wo : Nat → Int32) (tp : Nat → Int32) (rk : Nat → Int32) (ry : Nat → Int32) (rn : Nat → Int32) (vs : Nat → Int32) (bs : Nat → Int32) (ch : Nat → Int32) (tr : Nat → Int32) (en : Nat → Int32) (du : Nat → Int32) (ol : Nat → Int32) (ig : Nat → Int32) (ln : Nat → Int32) (sz : Nat → Int32) (it : Nat → Int64) (mo : Nat → Int64) (sheet : Nat) (i : Nat) (v : Int64) (hs : sheet < 4) (hi : i < 16) (h0 : va_D (fun _ => True) (wM D o q1 q2 q3 q4 q5 q6 q7 q8 q9 q10 q11 q12 q13 q14 q15 q16 q17 q18 q19 q20 q21 q22 pe n la ri td ys ty ap wg rd sm bt up lw ii kd dy nd co od wo tp rk ry rn vs bs ch tr en du ol ig ln sz it mo)) : ct l yX7_puts cX7_puts 6 none 0 0 D [.ref o, .int (nI sheet), .int (nI i), .long v] (wM D o q1 q2 q3 q4 q5 q6 q7 q8 q9 q10 q11 q12 q13 q14 q15 q16 q17 q18 q19 q20 q21 q22 pe n la ri td ys ty ap wg rd sm bt up lw ii kd dy nd co od wo tp rk ry rn vs bs ch tr en du ol ig ln sz it mo) (wM D o q1 q2 q3 q4 q5 q6 q7 q8 q9 q10 q11 q12 q13 q14 q15 q16 q17 q18 q19 q20 q21 q22 pe n la ri td ys ty ap wg rd sm bt up lw ii kd dy nd co od wo tp rk ry rn vs bs ch tr en du ol ig ln sz (s_X7_puts ln it sheet i v) mo) (Ad (wM D o q1 q2 q3 q4 q5 q6 q7 q8 q9 q10 q11 q12 q13 q14 q15 q16 q17 q18 q19 q20 q21 q22 pe n la ri td ys ty ap wg rd sm bt up lw ii kd dy nd co od wo tp rk ry rn vs bs ch tr en du ol ig ln sz it mo)) (none) := by
  obtain ⟨V, hv⟩ : ∃ V, s_X7_puts ln it sheet i v = V := ⟨_, rfl⟩
  rw [hv]
  refine ct_intro (own := RX7) (lv := [(0, .ref o), (1, .int (nI sheet)), (2, .int (nI i)), (3, .long v)]) (by decide) rfl (Nat.le_of_ble_eq_true rfl) rfl ?_
  intro p_ e_ s_ m_ below_ meth_ c_ C
  have hv : (if ln sheet = (0 : Int32) then vp_updL it ((16 * sheet) + i) v.toInt32.toInt8.toInt32.toInt64 else (if ln sheet = (1 : Int32) then vp_updL it ((16 * sheet) + i) v.toInt32.toInt16.toInt32.toInt64 else (if ln sheet = (2 : Int32) then vp_updL it ((16 * sheet) + i) v.toInt32.toInt64 else vp_updL it ((16 * sheet) + i) v))) = V := hv
  refine r_aln C dX7_puts_0 rfl 0 rfl ?_
  refine gf_X7_64 C 0 rfl rfl dX7_puts_1 ?_
  refine r_iln C dX7_puts_4 rfl 1 rfl ?_
  refine r_iald C 19 sheet rfl rfl (by omega) (by decide) rfl dX7_puts_5 ?_
  refine r_is C (lv' := [(5, .int (ln sheet)), (0, .ref o), (1, .int (nI sheet)), (2, .int (nI i)), (3, .long v)]) dX7_puts_6 (by decide) rfl ?_
  refine r_aln C dX7_puts_8 rfl 1 rfl ?_
  refine gf_X7_70 C 0 rfl rfl dX7_puts_9 ?_
  refine r_bp C (v := (16 : Int32)) dX7_puts_12 (by decide) ?_
  refine r_iln C dX7_puts_14 rfl 2 rfl ?_
  refine r_imul C dX7_puts_15 ?_
  refine r_iln C dX7_puts_16 rfl 3 rfl ?_
  refine r_iadd C dX7_puts_17 ?_
  refine r_il C dX7_puts_18 0 rfl ?_
  refine r_ifne C (tgt := 30) dX7_puts_20 (by decide) (fun c1 => ?_) (fun c1 => ?_)
  · rw [if_neg c1] at hv
    refine r_il C dX7_puts_30 0 rfl ?_
    refine r_ic C (v := (1 : Int32)) dX7_puts_32 (by decide) ?_
    refine r_icne C (tgt := 43) dX7_puts_33 (by decide) (fun c2 => ?_) (fun c2 => ?_)
    · rw [if_neg c2] at hv
      refine r_il C dX7_puts_43 0 rfl ?_
      refine r_ic C (v := (2 : Int32)) dX7_puts_45 (by decide) ?_
      refine r_icne C (tgt := 55) dX7_puts_46 (by decide) (fun c3 => ?_) (fun c3 => ?_)
      · rw [if_neg c3] at hv
        refine r_lln C dX7_puts_55 rfl 4 rfl ?_
        refine r_last C (ws2 := wM D o q1 q2 q3 q4 q5 q6 q7 q8 q9 q10 q11 q12 q13 q14 q15 q16 q17 q18 q19 q20 q21 q22 pe n la ri td ys ty ap wg rd sm bt up lw ii kd dy nd co od wo tp rk ry rn vs bs ch tr en du ol ig ln sz (vp_updL it ((16 * sheet) + i) v) mo) h0 rfl 21 ((16 * sheet) + i) rfl (nv_add (nv_mul rfl rfl) rfl) (by omega) (by decide) dX7_puts_56 rfl rfl ?_
        exact r_vret rfl C (by rw [← hv]) dX7_puts_57
      · rw [if_pos c3] at hv
        refine r_lln C dX7_puts_49 rfl 4 rfl ?_
        refine r_l2i C dX7_puts_50 ?_
        refine r_i2l C dX7_puts_51 ?_
        refine r_goto C (tgt := 56) dX7_puts_52 (by decide) ?_
        refine r_last C (ws2 := wM D o q1 q2 q3 q4 q5 q6 q7 q8 q9 q10 q11 q12 q13 q14 q15 q16 q17 q18 q19 q20 q21 q22 pe n la ri td ys ty ap wg rd sm bt up lw ii kd dy nd co od wo tp rk ry rn vs bs ch tr en du ol ig ln sz (vp_updL it ((16 * sheet) + i) v.toInt32.toInt64) mo) h0 rfl 21 ((16 * sheet) + i) rfl (nv_add (nv_mul rfl rfl) rfl) (by omega) (by decide) dX7_puts_56 rfl rfl ?_
        exact r_vret rfl C (by rw [← hv]) dX7_puts_57
    · rw [if_pos c2] at hv
      refine r_lln C dX7_puts_36 rfl 4 rfl ?_
      refine r_l2i C dX7_puts_37 ?_
      refine r_i2s C dX7_puts_38 ?_
      refine r_i2l C dX7_puts_39 ?_
      refine r_goto C (tgt := 56) dX7_puts_40 (by decide) ?_
      refine r_last C (ws2 := wM D o q1 q2 q3 q4 q5 q6 q7 q8 q9 q10 q11 q12 q13 q14 q15 q16 q17 q18 q19 q20 q21 q22 pe n la ri td ys ty ap wg rd sm bt up lw ii kd dy nd co od wo tp rk ry rn vs bs ch tr en du ol ig ln sz (vp_updL it ((16 * sheet) + i) v.toInt32.toInt16.toInt32.toInt64) mo) h0 rfl 21 ((16 * sheet) + i) rfl (nv_add (nv_mul rfl rfl) rfl) (by omega) (by decide) dX7_puts_56 rfl rfl ?_
      exact r_vret rfl C (by rw [← hv]) dX7_puts_57
  · rw [if_pos c1] at hv
    refine r_lln C dX7_puts_23 rfl 4 rfl ?_
    refine r_l2i C dX7_puts_24 ?_
    refine r_i2b C dX7_puts_25 ?_
    refine r_i2l C dX7_puts_26 ?_
    refine r_goto C (tgt := 56) dX7_puts_27 (by decide) ?_
    refine r_last C (ws2 := wM D o q1 q2 q3 q4 q5 q6 q7 q8 q9 q10 q11 q12 q13 q14 q15 q16 q17 q18 q19 q20 q21 q22 pe n la ri td ys ty ap wg rd sm bt up lw ii kd dy nd co od wo tp rk ry rn vs bs ch tr en du ol ig ln sz (vp_updL it ((16 * sheet) + i) v.toInt32.toInt8.toInt32.toInt64) mo) h0 rfl 21 ((16 * sheet) + i) rfl (nv_add (nv_mul rfl rfl) rfl) (by omega) (by decide) dX7_puts_56 rfl rfl ?_
    exact r_vret rfl C (by rw [← hv]) dX7_puts_57

def s_X7_film_L52 (pe : Nat) (n : Nat) (la : Int32) (ri : Int32) (kd : Nat → Int32) (nd : Nat → Int32) (co : Nat → Int32) (wo : Nat → Int32) (vs : Nat → Int32) (ln : Nat → Int32) (sheet : Int32) (i : Int32) : Nat → Nat → (Nat → Int64) → (Nat → Int64)
  | 0, _, it_8 => it_8
  | k6 + 1, d7, it_8 => (s_X7_film_L52 pe n la ri kd nd co wo vs ln sheet i k6 (d7 + 1) (s_X7_puts ln it_8 sheet.toNatClampNeg (i.toNatClampNeg + d7) ((((s_X7_counts pe n kd nd co wo vs ri la).2) d7).toInt64)))
def s_X7_film (pe : Nat) (n : Nat) (la : Int32) (ri : Int32) (sm : Int32) (kd : Nat → Int32) (nd : Nat → Int32) (co : Nat → Int32) (wo : Nat → Int32) (vs : Nat → Int32) (ln : Nat → Int32) (sz : Nat → Int32) (it : Nat → Int64) (sheet : Int32) (lane : Int32) (i : Int32) : Int32 × Int32 × (Nat → Int32) × (Nat → Int64) := (if s_X7_isSheet sheet = (0 : Int32) then ((-1 : Int32), sm, vs, it) else (if s_X7_isLane lane = (0 : Int32) then ((-1 : Int32), sm, vs, it) else (if s_X7_why ln sz sheet.toNatClampNeg lane i (nI pe) < (0 : Int32) then (s_X7_why ln sz sheet.toNatClampNeg lane i (nI pe), sm, vs, it) else (nI pe, (s_X7_counts pe n kd nd co wo vs ri la).1, (s_X7_counts pe n kd nd co wo vs ri la).2, (s_X7_film_L52 pe n la ri kd nd co wo vs ln sheet i pe 0 it)))))
set_option maxHeartbeats 8000000 in
set_option maxRecDepth 100000 in
theorem c_X7_film (l : Launch) (D : va_G) (o : Nat) (q1 : Nat) (q2 : Nat) (q3 : Nat) (q4 : Nat) (q5 : Nat) (q6 : Nat) (q7 : Nat) (q8 : Nat) (q9 : Nat) (q10 : Nat) (q11 : Nat) (q12 : Nat) (q13 : Nat) (q14 : Nat) (q15 : Nat) (q16 : Nat) (q17 : Nat) (q18 : Nat) (q19 : Nat) (q20 : Nat) (q21 : Nat) (q22 : Nat) (pe : Nat) (n : Nat) (la : Int32) (ri : Int32) (td : Int32) (ys : Int32) (ty : Nat) (ap : Nat) (wg : Int32) (rd : Nat) (sm : Int32) (bt : Int32) (up : Int64) (lw : Int64) (ii : Int32) (kd : Nat → Int32) (dy : Nat → Int32) (nd : Nat → Int32) (co : Nat → Int32) (od : Nat → Int32) (wo : Nat → Int32) (tp : Nat → Int32) (rk : Nat → Int32) (ry : Nat → Int32) (rn : Nat → Int32) (vs : Nat → Int32) (bs : Nat → Int32) (ch : Nat → Int32) (tr : Nat → Int32) (en : Nat → Int32) (du : Nat → Int32) (ol : Nat → Int32) (ig : Nat → Int32) (ln : Nat → Int32) (sz : Nat → Int32) (it : Nat → Int64) (mo : Nat → Int64) (sheet : Int32) (lane : Int32) (i : Int32) (hn : n ≤ 12) (hp : 1 ≤ pe ∧ pe ≤ 4) (hz : ∀ j, j < 4 → ∃ z : Nat, z ≤ 16 ∧ sz j = nI z) (h0 : va_D (fun _ => True) (wM D o q1 q2 q3 q4 q5 q6 q7 q8 q9 q10 q11 q12 q13 q14 q15 q16 q17 q18 q19 q20 q21 q22 pe n la ri td ys ty ap wg rd sm bt up lw ii kd dy nd co od wo tp rk ry rn vs bs ch tr en du ol ig ln sz it mo)) : ct l yX7_film cX7_film 6 (some .int) 3 73 D [.ref o, .int sheet, .int lane, .int i] (wM D o q1 q2 q3 q4 q5 q6 q7 q8 q9 q10 q11 q12 q13 q14 q15 q16 q17 q18 q19 q20 q21 q22 pe n la ri td ys ty ap wg rd sm bt up lw ii kd dy nd co od wo tp rk ry rn vs bs ch tr en du ol ig ln sz it mo) (wM D o q1 q2 q3 q4 q5 q6 q7 q8 q9 q10 q11 q12 q13 q14 q15 q16 q17 q18 q19 q20 q21 q22 pe n la ri td ys ty ap wg rd (s_X7_film pe n la ri sm kd nd co wo vs ln sz it sheet lane i).2.1 bt up lw ii kd dy nd co od wo tp rk ry rn (s_X7_film pe n la ri sm kd nd co wo vs ln sz it sheet lane i).2.2.1 bs ch tr en du ol ig ln sz (s_X7_film pe n la ri sm kd nd co wo vs ln sz it sheet lane i).2.2.2 mo) (Ad (wM D o q1 q2 q3 q4 q5 q6 q7 q8 q9 q10 q11 q12 q13 q14 q15 q16 q17 q18 q19 q20 q21 q22 pe n la ri td ys ty ap wg rd sm bt up lw ii kd dy nd co od wo tp rk ry rn vs bs ch tr en du ol ig ln sz it mo)) (some (Value.int (s_X7_film pe n la ri sm kd nd co wo vs ln sz it sheet lane i).1)) := by
  obtain ⟨V, hv⟩ : ∃ V, s_X7_film pe n la ri sm kd nd co wo vs ln sz it sheet lane i = V := ⟨_, rfl⟩
  rw [hv]
  refine ct_intro (own := RX7) (lv := [(0, .ref o), (1, .int sheet), (2, .int lane), (3, .int i)]) (by decide) rfl (Nat.le_of_ble_eq_true rfl) rfl ?_
  intro p_ e_ s_ m_ below_ meth_ c_ C
  have hv : (if s_X7_isSheet sheet = (0 : Int32) then ((-1 : Int32), sm, vs, it) else (if s_X7_isLane lane = (0 : Int32) then ((-1 : Int32), sm, vs, it) else (if s_X7_why ln sz sheet.toNatClampNeg lane i (nI pe) < (0 : Int32) then (s_X7_why ln sz sheet.toNatClampNeg lane i (nI pe), sm, vs, it) else (nI pe, (s_X7_counts pe n kd nd co wo vs ri la).1, (s_X7_counts pe n kd nd co wo vs ri la).2, (s_X7_film_L52 pe n la ri kd nd co wo vs ln sheet i pe 0 it))))) = V := hv
  refine r_iln C dX7_film_0 rfl 1 rfl ?_
  refine aft_rd (st' := [.int (s_X7_isSheet sheet)]) (run_S (rest := []) C (c_X7_isSheet l D sheet ) ok_X7_isSheet ws_X7_isSheet wm_X7_228 [] rfl ⟨Nat.le_of_ble_eq_true rfl, Nat.le_of_ble_eq_true rfl⟩ rfl rfl (Nat.le_of_ble_eq_true rfl) dX7_film_1) rfl ?_
  refine r_ifeq C (tgt := 14) dX7_film_4 (by decide) (fun c1 => ?_) (fun c1 => ?_)
  · rw [if_pos c1] at hv
    refine r_ic C (v := (-1 : Int32)) dX7_film_14 (by decide) ?_
    exact r_iret rfl C (by rw [← hv]) (by rw [← hv]) dX7_film_15
  · rw [if_neg c1] at hv
    have e2 := mSheet_nat c1
    refine r_iln C dX7_film_7 rfl 2 rfl ?_
    refine aft_rd (st' := [.int (s_X7_isLane lane)]) (run_S (rest := []) C (c_X7_isLane l D lane ) ok_X7_isLane ws_X7_isLane wm_X7_231 [] rfl ⟨Nat.le_of_ble_eq_true rfl, Nat.le_of_ble_eq_true rfl⟩ rfl rfl (Nat.le_of_ble_eq_true rfl) dX7_film_8) rfl ?_
    refine r_ifne C (tgt := 16) dX7_film_11 (by decide) (fun c3 => ?_) (fun c3 => ?_)
    · rw [if_neg c3] at hv
      refine r_aln C dX7_film_16 rfl 0 rfl ?_
      refine r_iln C dX7_film_17 rfl 1 rfl ?_
      refine r_iln C dX7_film_18 rfl 2 rfl ?_
      refine r_iln C dX7_film_19 rfl 3 rfl ?_
      refine r_aln C dX7_film_20 rfl 0 rfl ?_
      refine gf_X7_77 C 0 rfl rfl dX7_film_21 ?_
      refine r_stk (st2 := [.int (nI pe), .int i, .int lane, .int (nI sheet.toNatClampNeg), .ref o]) (congrArg (fun (z : Int32) => ([.int (nI pe), .int i, .int lane, .int z, .ref o] : List Value)) e2.1) ?_
      refine aft_rd (st' := [.int (s_X7_why ln sz sheet.toNatClampNeg lane i (nI pe))]) (run_V (rest := []) C (c_X7_why l D o q1 q2 q3 q4 q5 q6 q7 q8 q9 q10 q11 q12 q13 q14 q15 q16 q17 q18 q19 q20 q21 q22 pe n la ri td ys ty ap wg rd sm bt up lw ii kd dy nd co od wo tp rk ry rn vs bs ch tr en du ol ig ln sz it mo sheet.toNatClampNeg lane i (nI pe) (by omega)) ok_X7_why wn_X7_why wl_X7_why wm_X7_234 _ 0 rfl rfl rfl ⟨Nat.le_of_ble_eq_true rfl, Nat.le_of_ble_eq_true rfl⟩ fm_all rfl (Nat.le_of_ble_eq_true rfl) dX7_film_24) rfl ?_
      refine r_is C (lv' := [(4, .int (s_X7_why ln sz sheet.toNatClampNeg lane i (nI pe))), (0, .ref o), (1, .int sheet), (2, .int lane), (3, .int i)]) dX7_film_27 (by decide) rfl ?_
      refine r_il C dX7_film_29 0 rfl ?_
      refine r_ifge C (tgt := 37) dX7_film_31 (by decide) (fun c4 => ?_) (fun c4 => ?_)
      · rw [if_neg c4] at hv
        have e5 := mwhy_i (mn := pe) rfl (by omega) hz (by omega) c4
        refine r_aln C dX7_film_37 rfl 1 rfl ?_
        refine r_aln C dX7_film_38 rfl 1 rfl ?_
        refine gf_X7_113 C 0 rfl rfl dX7_film_39 ?_
        refine r_aln C dX7_film_42 rfl 1 rfl ?_
        refine gf_X7_116 C 0 rfl rfl dX7_film_43 ?_
        refine aft_wa (ws2 := wM D o q1 q2 q3 q4 q5 q6 q7 q8 q9 q10 q11 q12 q13 q14 q15 q16 q17 q18 q19 q20 q21 q22 pe n la ri td ys ty ap wg rd ((s_X7_counts pe n kd nd co wo vs ri la).1) bt up lw ii kd dy nd co od wo tp rk ry rn ((s_X7_counts pe n kd nd co wo vs ri la).2) bs ch tr en du ol ig ln sz it mo) (st' := []) h0 rfl rfl (run_V (rest := []) C (c_X7_counts l D o q1 q2 q3 q4 q5 q6 q7 q8 q9 q10 q11 q12 q13 q14 q15 q16 q17 q18 q19 q20 q21 q22 pe n la ri td ys ty ap wg rd sm bt up lw ii kd dy nd co od wo tp rk ry rn vs bs ch tr en du ol ig ln sz it mo ri la (by omega) (by omega) (dis_all h0 rfl)) ok_X7_counts wn_X7_counts wl_X7_counts wm_X7_180 _ 0 rfl rfl rfl ⟨Nat.le_of_ble_eq_true rfl, Nat.le_of_ble_eq_true rfl⟩ fm_all rfl (Nat.le_of_ble_eq_true rfl) dX7_film_46) rfl rfl ?_
        refine r_ic C (v := (0 : Int32)) dX7_film_49 (by decide) ?_
        refine r_is C (lv' := [(5, .int (0 : Int32)), (4, .int (s_X7_why ln sz sheet.toNatClampNeg lane i (nI pe))), (0, .ref o), (1, .int sheet), (2, .int lane), (3, .int i)]) dX7_film_50 (by decide) rfl ?_
        have L12 : ∀ (k6 : Nat) (d7 : Nat) (it_8 : Nat → Int64), (d7 + k6 = pe) → (nI pe, (s_X7_counts pe n kd nd co wo vs ri la).1, (s_X7_counts pe n kd nd co wo vs ri la).2, (s_X7_film_L52 pe n la ri kd nd co wo vs ln sheet i k6 d7 it_8)) = V → GM p_ l e_ s_ m_ below_ meth_ c_ D 3 73 6 [.ref o, .int sheet, .int lane, .int i] (wM D o q1 q2 q3 q4 q5 q6 q7 q8 q9 q10 q11 q12 q13 q14 q15 q16 q17 q18 q19 q20 q21 q22 pe n la ri td ys ty ap wg rd V.2.1 bt up lw ii kd dy nd co od wo tp rk ry rn V.2.2.1 bs ch tr en du ol ig ln sz V.2.2.2 mo) (Ad (wM D o q1 q2 q3 q4 q5 q6 q7 q8 q9 q10 q11 q12 q13 q14 q15 q16 q17 q18 q19 q20 q21 q22 pe n la ri td ys ty ap wg rd sm bt up lw ii kd dy nd co od wo tp rk ry rn vs bs ch tr en du ol ig ln sz it mo)) (some (Value.int V.1)) (wM D o q1 q2 q3 q4 q5 q6 q7 q8 q9 q10 q11 q12 q13 q14 q15 q16 q17 q18 q19 q20 q21 q22 pe n la ri td ys ty ap wg rd ((s_X7_counts pe n kd nd co wo vs ri la).1) bt up lw ii kd dy nd co od wo tp rk ry rn ((s_X7_counts pe n kd nd co wo vs ri la).2) bs ch tr en du ol ig ln sz it_8 mo) 52 [(5, .int (nI d7)), (4, .int (s_X7_why ln sz sheet.toNatClampNeg lane i (nI pe))), (0, .ref o), (1, .int sheet), (2, .int lane), (3, .int i)] [] := by
          intro k6
          induction k6 with
          | zero =>
            intro d7 it_8 hk hv
            have hv : (nI pe, (s_X7_counts pe n kd nd co wo vs ri la).1, (s_X7_counts pe n kd nd co wo vs ri la).2, it_8) = V := hv
            refine r_il C dX7_film_52 0 rfl ?_
            refine r_aln C dX7_film_54 rfl 2 rfl ?_
            refine gf_X7_77 C 0 rfl rfl dX7_film_55 ?_
            refine r_icge C (tgt := 84) dX7_film_58 (by decide) (fun c9 => ?_) (fun c9 => ?_)
            · skip
              refine r_aln C dX7_film_84 rfl 2 rfl ?_
              refine gf_X7_77 C 0 rfl rfl dX7_film_85 ?_
              exact r_iret rfl C (by rw [← hv]) (by rw [← hv]) dX7_film_88
            · exact absurd c9 (fun z => absurd ((nv_lt (a := d7) (b := pe) rfl rfl (by omega) (by omega)).mp z) (by omega))
          | succ k6 ih10 =>
            intro d7 it_8 hk hv
            have hv : (nI pe, (s_X7_counts pe n kd nd co wo vs ri la).1, (s_X7_counts pe n kd nd co wo vs ri la).2, (s_X7_film_L52 pe n la ri kd nd co wo vs ln sheet i k6 (d7 + 1) (s_X7_puts ln it_8 sheet.toNatClampNeg (i.toNatClampNeg + d7) ((((s_X7_counts pe n kd nd co wo vs ri la).2) d7).toInt64)))) = V := hv
            refine r_il C dX7_film_52 0 rfl ?_
            refine r_aln C dX7_film_54 rfl 2 rfl ?_
            refine gf_X7_77 C 0 rfl rfl dX7_film_55 ?_
            refine r_icge C (tgt := 84) dX7_film_58 (by decide) (fun c11 => ?_) (fun c11 => ?_)
            · exact absurd ((nv_lt (a := d7) (b := pe) rfl rfl (by omega) (by omega)).mpr (by omega)) c11
            · skip
              refine r_aln C dX7_film_61 rfl 2 rfl ?_
              refine r_iln C dX7_film_62 rfl 3 rfl ?_
              refine r_iln C dX7_film_63 rfl 5 rfl ?_
              refine r_il C dX7_film_64 0 rfl ?_
              refine r_iadd C dX7_film_66 ?_
              refine r_aln C dX7_film_67 rfl 2 rfl ?_
              refine gf_X7_40 C 0 rfl rfl dX7_film_68 ?_
              refine r_il C dX7_film_71 0 rfl ?_
              refine r_iald C 11 d7 rfl rfl (by omega) (by decide) rfl dX7_film_73 ?_
              refine r_i2l C dX7_film_74 ?_
              refine r_stk (st2 := [.long ((((s_X7_counts pe n kd nd co wo vs ri la).2) d7).toInt64), .int (i + (nI d7)), .int (nI sheet.toNatClampNeg), .ref o]) (congrArg (fun (z : Int32) => ([.long ((((s_X7_counts pe n kd nd co wo vs ri la).2) d7).toInt64), .int (i + (nI d7)), .int z, .ref o] : List Value)) e2.1) ?_
              refine r_stk (st2 := [.long ((((s_X7_counts pe n kd nd co wo vs ri la).2) d7).toInt64), .int (nI (i.toNatClampNeg + d7)), .int (nI sheet.toNatClampNeg), .ref o]) (congrArg (fun (z : Int32) => ([.long ((((s_X7_counts pe n kd nd co wo vs ri la).2) d7).toInt64), .int z, .int (nI sheet.toNatClampNeg), .ref o] : List Value)) (nv_add e5.1 rfl)) ?_
              refine aft_wa (ws2 := wM D o q1 q2 q3 q4 q5 q6 q7 q8 q9 q10 q11 q12 q13 q14 q15 q16 q17 q18 q19 q20 q21 q22 pe n la ri td ys ty ap wg rd ((s_X7_counts pe n kd nd co wo vs ri la).1) bt up lw ii kd dy nd co od wo tp rk ry rn ((s_X7_counts pe n kd nd co wo vs ri la).2) bs ch tr en du ol ig ln sz (s_X7_puts ln it_8 sheet.toNatClampNeg (i.toNatClampNeg + d7) ((((s_X7_counts pe n kd nd co wo vs ri la).2) d7).toInt64)) mo) (st' := []) h0 rfl rfl (run_V (rest := []) C (c_X7_puts l D o q1 q2 q3 q4 q5 q6 q7 q8 q9 q10 q11 q12 q13 q14 q15 q16 q17 q18 q19 q20 q21 q22 pe n la ri td ys ty ap wg rd ((s_X7_counts pe n kd nd co wo vs ri la).1) bt up lw ii kd dy nd co od wo tp rk ry rn ((s_X7_counts pe n kd nd co wo vs ri la).2) bs ch tr en du ol ig ln sz it_8 mo sheet.toNatClampNeg (i.toNatClampNeg + d7) ((((s_X7_counts pe n kd nd co wo vs ri la).2) d7).toInt64) (by omega) (by omega) (dis_all h0 rfl)) ok_X7_puts wn_X7_puts wl_X7_puts wm_X7_242 _ 0 rfl rfl rfl ⟨Nat.le_of_ble_eq_true rfl, Nat.le_of_ble_eq_true rfl⟩ fm_all rfl (Nat.le_of_ble_eq_true rfl) dX7_film_75) rfl rfl ?_
              refine r_inc C (v := nI (d7 + 1)) (lv' := [(5, .int (nI (d7 + 1))), (4, .int (s_X7_why ln sz sheet.toNatClampNeg lane i (nI pe))), (0, .ref o), (1, .int sheet), (2, .int lane), (3, .int i)]) dX7_film_78 0 rfl (inc_nI d7) (by decide) rfl ?_
              refine r_goto C (tgt := 52) dX7_film_81 (by decide) ?_
              exact ih10 (d7 + 1) (s_X7_puts ln it_8 sheet.toNatClampNeg (i.toNatClampNeg + d7) ((((s_X7_counts pe n kd nd co wo vs ri la).2) d7).toInt64)) (by omega) hv
        refine r_lve (lv2 := [(5, .int (nI 0)), (4, .int (s_X7_why ln sz sheet.toNatClampNeg lane i (nI pe))), (0, .ref o), (1, .int sheet), (2, .int lane), (3, .int i)]) (congrArg (fun (z : Int32) => ([(5, .int z), (4, .int (s_X7_why ln sz sheet.toNatClampNeg lane i (nI pe))), (0, .ref o), (1, .int sheet), (2, .int lane), (3, .int i)] : List (Nat × Value))) rfl) ?_
        exact L12 pe 0 it (by omega) hv
      · rw [if_pos c4] at hv
        refine r_il C dX7_film_34 0 rfl ?_
        exact r_iret rfl C (by rw [← hv]) (by rw [← hv]) dX7_film_36
    · rw [if_pos c3] at hv
      refine r_ic C (v := (-1 : Int32)) dX7_film_14 (by decide) ?_
      exact r_iret rfl C (by rw [← hv]) (by rw [← hv]) dX7_film_15

def s_X7_sheet_L46 (sheet : Int32) : Nat → Nat → (Nat → Int64) → (Nat → Int64)
  | 0, _, it_8 => it_8
  | k6 + 1, d7, it_8 => (s_X7_sheet_L46 sheet k6 (d7 + 1) (vp_updL it_8 ((16 * sheet.toNatClampNeg) + d7) (0 : Int64)))
def s_X7_sheet (ln : Nat → Int32) (sz : Nat → Int32) (it : Nat → Int64) (sheet : Int32) (lane : Int32) (m : Int32) : Int32 × (Nat → Int32) × (Nat → Int32) × (Nat → Int64) := (if s_X7_isSheet sheet = (0 : Int32) then ((-1 : Int32), ln, sz, it) else (if s_X7_isLane lane = (0 : Int32) then ((-1 : Int32), ln, sz, it) else (if (16 : Int32) < m then ((-1 : Int32), ln, sz, it) else (if m < (0 : Int32) then ((-14 : Int32), ln, sz, it) else (m, upd ln sheet.toNatClampNeg lane, upd sz sheet.toNatClampNeg m, (s_X7_sheet_L46 sheet 16 0 it))))))
set_option maxHeartbeats 8000000 in
set_option maxRecDepth 100000 in
theorem c_X7_sheet (l : Launch) (D : va_G) (o : Nat) (q1 : Nat) (q2 : Nat) (q3 : Nat) (q4 : Nat) (q5 : Nat) (q6 : Nat) (q7 : Nat) (q8 : Nat) (q9 : Nat) (q10 : Nat) (q11 : Nat) (q12 : Nat) (q13 : Nat) (q14 : Nat) (q15 : Nat) (q16 : Nat) (q17 : Nat) (q18 : Nat) (q19 : Nat) (q20 : Nat) (q21 : Nat) (q22 : Nat) (pe : Nat) (n : Nat) (la : Int32) (ri : Int32) (td : Int32) (ys : Int32) (ty : Nat) (ap : Nat) (wg : Int32) (rd : Nat) (sm : Int32) (bt : Int32) (up : Int64) (lw : Int64) (ii : Int32) (kd : Nat → Int32) (dy : Nat → Int32) (nd : Nat → Int32) (co : Nat → Int32) (od : Nat → Int32) (wo : Nat → Int32) (tp : Nat → Int32) (rk : Nat → Int32) (ry : Nat → Int32) (rn : Nat → Int32) (vs : Nat → Int32) (bs : Nat → Int32) (ch : Nat → Int32) (tr : Nat → Int32) (en : Nat → Int32) (du : Nat → Int32) (ol : Nat → Int32) (ig : Nat → Int32) (ln : Nat → Int32) (sz : Nat → Int32) (it : Nat → Int64) (mo : Nat → Int64) (sheet : Int32) (lane : Int32) (m : Int32) (h0 : va_D (fun _ => True) (wM D o q1 q2 q3 q4 q5 q6 q7 q8 q9 q10 q11 q12 q13 q14 q15 q16 q17 q18 q19 q20 q21 q22 pe n la ri td ys ty ap wg rd sm bt up lw ii kd dy nd co od wo tp rk ry rn vs bs ch tr en du ol ig ln sz it mo)) : ct l yX7_sheet cX7_sheet 5 (some .int) 2 45 D [.ref o, .int sheet, .int lane, .int m] (wM D o q1 q2 q3 q4 q5 q6 q7 q8 q9 q10 q11 q12 q13 q14 q15 q16 q17 q18 q19 q20 q21 q22 pe n la ri td ys ty ap wg rd sm bt up lw ii kd dy nd co od wo tp rk ry rn vs bs ch tr en du ol ig ln sz it mo) (wM D o q1 q2 q3 q4 q5 q6 q7 q8 q9 q10 q11 q12 q13 q14 q15 q16 q17 q18 q19 q20 q21 q22 pe n la ri td ys ty ap wg rd sm bt up lw ii kd dy nd co od wo tp rk ry rn vs bs ch tr en du ol ig (s_X7_sheet ln sz it sheet lane m).2.1 (s_X7_sheet ln sz it sheet lane m).2.2.1 (s_X7_sheet ln sz it sheet lane m).2.2.2 mo) (Ad (wM D o q1 q2 q3 q4 q5 q6 q7 q8 q9 q10 q11 q12 q13 q14 q15 q16 q17 q18 q19 q20 q21 q22 pe n la ri td ys ty ap wg rd sm bt up lw ii kd dy nd co od wo tp rk ry rn vs bs ch tr en du ol ig ln sz it mo)) (some (Value.int (s_X7_sheet ln sz it sheet lane m).1)) := by
  obtain ⟨V, hv⟩ : ∃ V, s_X7_sheet ln sz it sheet lane m = V := ⟨_, rfl⟩
  rw [hv]
  refine ct_intro (own := RX7) (lv := [(0, .ref o), (1, .int sheet), (2, .int lane), (3, .int m)]) (by decide) rfl (Nat.le_of_ble_eq_true rfl) rfl ?_
  intro p_ e_ s_ m_ below_ meth_ c_ C
  have hv : (if s_X7_isSheet sheet = (0 : Int32) then ((-1 : Int32), ln, sz, it) else (if s_X7_isLane lane = (0 : Int32) then ((-1 : Int32), ln, sz, it) else (if (16 : Int32) < m then ((-1 : Int32), ln, sz, it) else (if m < (0 : Int32) then ((-14 : Int32), ln, sz, it) else (m, upd ln sheet.toNatClampNeg lane, upd sz sheet.toNatClampNeg m, (s_X7_sheet_L46 sheet 16 0 it)))))) = V := hv
  refine r_iln C dX7_sheet_0 rfl 1 rfl ?_
  refine aft_rd (st' := [.int (s_X7_isSheet sheet)]) (run_S (rest := []) C (c_X7_isSheet l D sheet ) ok_X7_isSheet ws_X7_isSheet wm_X7_228 [] rfl ⟨Nat.le_of_ble_eq_true rfl, Nat.le_of_ble_eq_true rfl⟩ rfl rfl (Nat.le_of_ble_eq_true rfl) dX7_sheet_1) rfl ?_
  refine r_ifeq C (tgt := 20) dX7_sheet_4 (by decide) (fun c1 => ?_) (fun c1 => ?_)
  · rw [if_pos c1] at hv
    refine r_ic C (v := (-1 : Int32)) dX7_sheet_20 (by decide) ?_
    exact r_iret rfl C (by rw [← hv]) (by rw [← hv]) dX7_sheet_21
  · rw [if_neg c1] at hv
    have e2 := mSheet_nat c1
    refine r_iln C dX7_sheet_7 rfl 2 rfl ?_
    refine aft_rd (st' := [.int (s_X7_isLane lane)]) (run_S (rest := []) C (c_X7_isLane l D lane ) ok_X7_isLane ws_X7_isLane wm_X7_231 [] rfl ⟨Nat.le_of_ble_eq_true rfl, Nat.le_of_ble_eq_true rfl⟩ rfl rfl (Nat.le_of_ble_eq_true rfl) dX7_sheet_8) rfl ?_
    refine r_ifeq C (tgt := 20) dX7_sheet_11 (by decide) (fun c3 => ?_) (fun c3 => ?_)
    · rw [if_pos c3] at hv
      refine r_ic C (v := (-1 : Int32)) dX7_sheet_20 (by decide) ?_
      exact r_iret rfl C (by rw [← hv]) (by rw [← hv]) dX7_sheet_21
    · rw [if_neg c3] at hv
      refine r_iln C dX7_sheet_14 rfl 3 rfl ?_
      refine r_bp C (v := (16 : Int32)) dX7_sheet_15 (by decide) ?_
      refine r_icle C (tgt := 22) dX7_sheet_17 (by decide) (fun c4 => ?_) (fun c4 => ?_)
      · rw [if_neg c4] at hv
        refine r_iln C dX7_sheet_22 rfl 3 rfl ?_
        refine r_ifge C (tgt := 29) dX7_sheet_23 (by decide) (fun c5 => ?_) (fun c5 => ?_)
        · rw [if_neg c5] at hv
          refine r_aln C dX7_sheet_29 rfl 0 rfl ?_
          refine gf_X7_64 C 0 rfl rfl dX7_sheet_30 ?_
          refine r_iln C dX7_sheet_33 rfl 1 rfl ?_
          refine r_iln C dX7_sheet_34 rfl 2 rfl ?_
          refine r_iast C (ws2 := wM D o q1 q2 q3 q4 q5 q6 q7 q8 q9 q10 q11 q12 q13 q14 q15 q16 q17 q18 q19 q20 q21 q22 pe n la ri td ys ty ap wg rd sm bt up lw ii kd dy nd co od wo tp rk ry rn vs bs ch tr en du ol ig (upd ln sheet.toNatClampNeg lane) sz it mo) h0 rfl 19 sheet.toNatClampNeg rfl e2.1 (by omega) (by decide) dX7_sheet_35 rfl rfl ?_
          refine r_aln C dX7_sheet_36 rfl 0 rfl ?_
          refine gf_X7_67 C 0 rfl rfl dX7_sheet_37 ?_
          refine r_iln C dX7_sheet_40 rfl 1 rfl ?_
          refine r_iln C dX7_sheet_41 rfl 3 rfl ?_
          refine r_iast C (ws2 := wM D o q1 q2 q3 q4 q5 q6 q7 q8 q9 q10 q11 q12 q13 q14 q15 q16 q17 q18 q19 q20 q21 q22 pe n la ri td ys ty ap wg rd sm bt up lw ii kd dy nd co od wo tp rk ry rn vs bs ch tr en du ol ig (upd ln sheet.toNatClampNeg lane) (upd sz sheet.toNatClampNeg m) it mo) h0 rfl 20 sheet.toNatClampNeg rfl e2.1 (by omega) (by decide) dX7_sheet_42 rfl rfl ?_
          refine r_ic C (v := (0 : Int32)) dX7_sheet_43 (by decide) ?_
          refine r_is C (lv' := [(4, .int (0 : Int32)), (0, .ref o), (1, .int sheet), (2, .int lane), (3, .int m)]) dX7_sheet_44 (by decide) rfl ?_
          have L12 : ∀ (k6 : Nat) (d7 : Nat) (it_8 : Nat → Int64), (d7 + k6 = 16) → (m, upd ln sheet.toNatClampNeg lane, upd sz sheet.toNatClampNeg m, (s_X7_sheet_L46 sheet k6 d7 it_8)) = V → GM p_ l e_ s_ m_ below_ meth_ c_ D 2 45 5 [.ref o, .int sheet, .int lane, .int m] (wM D o q1 q2 q3 q4 q5 q6 q7 q8 q9 q10 q11 q12 q13 q14 q15 q16 q17 q18 q19 q20 q21 q22 pe n la ri td ys ty ap wg rd sm bt up lw ii kd dy nd co od wo tp rk ry rn vs bs ch tr en du ol ig V.2.1 V.2.2.1 V.2.2.2 mo) (Ad (wM D o q1 q2 q3 q4 q5 q6 q7 q8 q9 q10 q11 q12 q13 q14 q15 q16 q17 q18 q19 q20 q21 q22 pe n la ri td ys ty ap wg rd sm bt up lw ii kd dy nd co od wo tp rk ry rn vs bs ch tr en du ol ig ln sz it mo)) (some (Value.int V.1)) (wM D o q1 q2 q3 q4 q5 q6 q7 q8 q9 q10 q11 q12 q13 q14 q15 q16 q17 q18 q19 q20 q21 q22 pe n la ri td ys ty ap wg rd sm bt up lw ii kd dy nd co od wo tp rk ry rn vs bs ch tr en du ol ig (upd ln sheet.toNatClampNeg lane) (upd sz sheet.toNatClampNeg m) it_8 mo) 46 [(4, .int (nI d7)), (0, .ref o), (1, .int sheet), (2, .int lane), (3, .int m)] [] := by
            intro k6
            induction k6 with
            | zero =>
              intro d7 it_8 hk hv
              have hv : (m, upd ln sheet.toNatClampNeg lane, upd sz sheet.toNatClampNeg m, it_8) = V := hv
              refine r_il C dX7_sheet_46 0 rfl ?_
              refine r_bp C (v := (16 : Int32)) dX7_sheet_48 (by decide) ?_
              refine r_icge C (tgt := 72) dX7_sheet_50 (by decide) (fun c9 => ?_) (fun c9 => ?_)
              · skip
                refine r_iln C dX7_sheet_72 rfl 4 rfl ?_
                exact r_iret rfl C (by rw [← hv]) (by rw [← hv]) dX7_sheet_73
              · exact absurd c9 (fun z => absurd ((nv_lt (a := d7) (b := 16) rfl rfl (by omega) (by omega)).mp z) (by omega))
            | succ k6 ih10 =>
              intro d7 it_8 hk hv
              have hv : (m, upd ln sheet.toNatClampNeg lane, upd sz sheet.toNatClampNeg m, (s_X7_sheet_L46 sheet k6 (d7 + 1) (vp_updL it_8 ((16 * sheet.toNatClampNeg) + d7) (0 : Int64)))) = V := hv
              refine r_il C dX7_sheet_46 0 rfl ?_
              refine r_bp C (v := (16 : Int32)) dX7_sheet_48 (by decide) ?_
              refine r_icge C (tgt := 72) dX7_sheet_50 (by decide) (fun c11 => ?_) (fun c11 => ?_)
              · exact absurd ((nv_lt (a := d7) (b := 16) rfl rfl (by omega) (by omega)).mpr (by omega)) c11
              · skip
                refine r_aln C dX7_sheet_53 rfl 1 rfl ?_
                refine gf_X7_70 C 0 rfl rfl dX7_sheet_54 ?_
                refine r_bp C (v := (16 : Int32)) dX7_sheet_57 (by decide) ?_
                refine r_iln C dX7_sheet_59 rfl 2 rfl ?_
                refine r_imul C dX7_sheet_60 ?_
                refine r_il C dX7_sheet_61 0 rfl ?_
                refine r_iadd C dX7_sheet_63 ?_
                refine r_lc C (v := (0 : Int64)) dX7_sheet_64 (by decide) ?_
                refine r_last C (ws2 := wM D o q1 q2 q3 q4 q5 q6 q7 q8 q9 q10 q11 q12 q13 q14 q15 q16 q17 q18 q19 q20 q21 q22 pe n la ri td ys ty ap wg rd sm bt up lw ii kd dy nd co od wo tp rk ry rn vs bs ch tr en du ol ig (upd ln sheet.toNatClampNeg lane) (upd sz sheet.toNatClampNeg m) (vp_updL it_8 ((16 * sheet.toNatClampNeg) + d7) (0 : Int64)) mo) h0 rfl 21 ((16 * sheet.toNatClampNeg) + d7) rfl (nv_add (nv_mul rfl e2.1) rfl) (by omega) (by decide) dX7_sheet_65 rfl rfl ?_
                refine r_inc C (v := nI (d7 + 1)) (lv' := [(4, .int (nI (d7 + 1))), (0, .ref o), (1, .int sheet), (2, .int lane), (3, .int m)]) dX7_sheet_66 0 rfl (inc_nI d7) (by decide) rfl ?_
                refine r_goto C (tgt := 46) dX7_sheet_69 (by decide) ?_
                exact ih10 (d7 + 1) (vp_updL it_8 ((16 * sheet.toNatClampNeg) + d7) (0 : Int64)) (by omega) hv
          refine r_lve (lv2 := [(4, .int (nI 0)), (0, .ref o), (1, .int sheet), (2, .int lane), (3, .int m)]) (congrArg (fun (z : Int32) => ([(4, .int z), (0, .ref o), (1, .int sheet), (2, .int lane), (3, .int m)] : List (Nat × Value))) rfl) ?_
          exact L12 16 0 it (by omega) hv
        · rw [if_pos c5] at hv
          refine r_bp C (v := (-14 : Int32)) dX7_sheet_26 (by decide) ?_
          exact r_iret rfl C (by rw [← hv]) (by rw [← hv]) dX7_sheet_28
      · rw [if_pos c4] at hv
        refine r_ic C (v := (-1 : Int32)) dX7_sheet_20 (by decide) ?_
        exact r_iret rfl C (by rw [← hv]) (by rw [← hv]) dX7_sheet_21

