def s_X7_right (n : Nat) (la : Int32) (ri : Int32) (td : Int32) (kd : Nat → Int32) (dy : Nat → Int32) (nd : Nat → Int32) (deed : Int32) : Int32 × Int32 := (if s_X7_isDeed n deed.toInt64 = (0 : Int32) then ((-1 : Int32), ri) else (if dy deed.toNatClampNeg = td then (if ((s_X7_stands n kd nd ri la) >>> (deed &&& 31)) &&& (1 : Int32) = (0 : Int32) then ((-2 : Int32), ri) else (if (s_X7_ofDay n dy td) &&& ri = (0 : Int32) then ((s_X7_stands n kd nd ri la) &&& ((s_X7_stands n kd nd (ri ||| ((1 : Int32) <<< (deed &&& 31))) la) ^^^ (-1 : Int32)), ri ||| ((1 : Int32) <<< (deed &&& 31))) else ((-2 : Int32), ri))) else ((-2 : Int32), ri)))
set_option maxHeartbeats 8000000 in
set_option maxRecDepth 100000 in
theorem c_X7_right (l : Launch) (D : va_G) (o : Nat) (q1 : Nat) (q2 : Nat) (q3 : Nat) (q4 : Nat) (q5 : Nat) (q6 : Nat) (q7 : Nat) (q8 : Nat) (q9 : Nat) (q10 : Nat) (q11 : Nat) (q12 : Nat) (q13 : Nat) (q14 : Nat) (q15 : Nat) (q16 : Nat) (q17 : Nat) (q18 : Nat) (q19 : Nat) (q20 : Nat) (q21 : Nat) (q22 : Nat) (pe : Nat) (n : Nat) (la : Int32) (ri : Int32) (td : Int32) (ys : Int32) (ty : Nat) (ap : Nat) (wg : Int32) (rd : Nat) (sm : Int32) (bt : Int32) (up : Int64) (lw : Int64) (ii : Int32) (kd : Nat → Int32) (dy : Nat → Int32) (nd : Nat → Int32) (co : Nat → Int32) (od : Nat → Int32) (wo : Nat → Int32) (tp : Nat → Int32) (rk : Nat → Int32) (ry : Nat → Int32) (rn : Nat → Int32) (vs : Nat → Int32) (bs : Nat → Int32) (ch : Nat → Int32) (tr : Nat → Int32) (en : Nat → Int32) (du : Nat → Int32) (ol : Nat → Int32) (ig : Nat → Int32) (ln : Nat → Int32) (sz : Nat → Int32) (it : Nat → Int64) (mo : Nat → Int64) (deed : Int32) (hn : n ≤ 12) (h0 : va_D (fun _ => True) (wM D o q1 q2 q3 q4 q5 q6 q7 q8 q9 q10 q11 q12 q13 q14 q15 q16 q17 q18 q19 q20 q21 q22 pe n la ri td ys ty ap wg rd sm bt up lw ii kd dy nd co od wo tp rk ry rn vs bs ch tr en du ol ig ln sz it mo)) : ct l yX7_right cX7_right 3 (some .int) 2 48 D [.ref o, .int deed] (wM D o q1 q2 q3 q4 q5 q6 q7 q8 q9 q10 q11 q12 q13 q14 q15 q16 q17 q18 q19 q20 q21 q22 pe n la ri td ys ty ap wg rd sm bt up lw ii kd dy nd co od wo tp rk ry rn vs bs ch tr en du ol ig ln sz it mo) (wM D o q1 q2 q3 q4 q5 q6 q7 q8 q9 q10 q11 q12 q13 q14 q15 q16 q17 q18 q19 q20 q21 q22 pe n la (s_X7_right n la ri td kd dy nd deed).2 td ys ty ap wg rd sm bt up lw ii kd dy nd co od wo tp rk ry rn vs bs ch tr en du ol ig ln sz it mo) (Ad (wM D o q1 q2 q3 q4 q5 q6 q7 q8 q9 q10 q11 q12 q13 q14 q15 q16 q17 q18 q19 q20 q21 q22 pe n la ri td ys ty ap wg rd sm bt up lw ii kd dy nd co od wo tp rk ry rn vs bs ch tr en du ol ig ln sz it mo)) (some (Value.int (s_X7_right n la ri td kd dy nd deed).1)) := by
  obtain ⟨V, hv⟩ : ∃ V, s_X7_right n la ri td kd dy nd deed = V := ⟨_, rfl⟩
  rw [hv]
  refine ct_intro (own := RX7) (lv := [(0, .ref o), (1, .int deed)]) (by decide) rfl (Nat.le_of_ble_eq_true rfl) rfl ?_
  intro p_ e_ s_ m_ below_ meth_ c_ C
  have hv : (if s_X7_isDeed n deed.toInt64 = (0 : Int32) then ((-1 : Int32), ri) else (if dy deed.toNatClampNeg = td then (if ((s_X7_stands n kd nd ri la) >>> (deed &&& 31)) &&& (1 : Int32) = (0 : Int32) then ((-2 : Int32), ri) else (if (s_X7_ofDay n dy td) &&& ri = (0 : Int32) then ((s_X7_stands n kd nd ri la) &&& ((s_X7_stands n kd nd (ri ||| ((1 : Int32) <<< (deed &&& 31))) la) ^^^ (-1 : Int32)), ri ||| ((1 : Int32) <<< (deed &&& 31))) else ((-2 : Int32), ri))) else ((-2 : Int32), ri))) = V := hv
  refine r_aln C dX7_right_0 rfl 0 rfl ?_
  refine r_iln C dX7_right_1 rfl 1 rfl ?_
  refine r_i2l C dX7_right_2 ?_
  refine aft_rd (st' := [.int (s_X7_isDeed n deed.toInt64)]) (run_V (rest := []) C (c_X7_isDeed l D o q1 q2 q3 q4 q5 q6 q7 q8 q9 q10 q11 q12 q13 q14 q15 q16 q17 q18 q19 q20 q21 q22 pe n la ri td ys ty ap wg rd sm bt up lw ii kd dy nd co od wo tp rk ry rn vs bs ch tr en du ol ig ln sz it mo deed.toInt64 ) ok_X7_isDeed wn_X7_isDeed wl_X7_isDeed wm_X7_109 _ 0 rfl rfl rfl ⟨Nat.le_of_ble_eq_true rfl, Nat.le_of_ble_eq_true rfl⟩ fm_all rfl (Nat.le_of_ble_eq_true rfl) dX7_right_3) rfl ?_
  refine r_ifne C (tgt := 11) dX7_right_6 (by decide) (fun c1 => ?_) (fun c1 => ?_)
  · rw [if_neg c1] at hv
    have e2 := mdeed_nat hn c1
    refine r_aln C dX7_right_11 rfl 0 rfl ?_
    refine r_aln C dX7_right_12 rfl 0 rfl ?_
    refine gf_X7_113 C 0 rfl rfl dX7_right_13 ?_
    refine r_aln C dX7_right_16 rfl 0 rfl ?_
    refine gf_X7_116 C 0 rfl rfl dX7_right_17 ?_
    refine aft_rd (st' := [.int (s_X7_stands n kd nd ri la)]) (run_V (rest := []) C (c_X7_stands l D o q1 q2 q3 q4 q5 q6 q7 q8 q9 q10 q11 q12 q13 q14 q15 q16 q17 q18 q19 q20 q21 q22 pe n la ri td ys ty ap wg rd sm bt up lw ii kd dy nd co od wo tp rk ry rn vs bs ch tr en du ol ig ln sz it mo ri la (by omega)) ok_X7_stands wn_X7_stands wl_X7_stands wm_X7_119 _ 0 rfl rfl rfl ⟨Nat.le_of_ble_eq_true rfl, Nat.le_of_ble_eq_true rfl⟩ fm_all rfl (Nat.le_of_ble_eq_true rfl) dX7_right_20) rfl ?_
    refine r_isn C (lv' := [(2, .int (s_X7_stands n kd nd ri la)), (0, .ref o), (1, .int deed)]) dX7_right_23 rfl (by decide) rfl ?_
    refine r_aln C dX7_right_24 rfl 1 rfl ?_
    refine gf_X7_13 C 0 rfl rfl dX7_right_25 ?_
    refine r_iln C dX7_right_28 rfl 2 rfl ?_
    refine r_iald C 2 deed.toNatClampNeg rfl e2.1 (by omega) (by decide) rfl dX7_right_29 ?_
    refine r_aln C dX7_right_30 rfl 1 rfl ?_
    refine gf_X7_81 C 0 rfl rfl dX7_right_31 ?_
    refine r_icne C (tgt := 61) dX7_right_34 (by decide) (fun c3 => ?_) (fun c3 => ?_)
    · rw [if_neg c3] at hv
      refine r_bp C (v := (-2 : Int32)) dX7_right_61 (by decide) ?_
      exact r_iret rfl C (by rw [← hv]) (by rw [← hv]) dX7_right_63
    · rw [if_pos c3] at hv
      refine r_iln C dX7_right_37 rfl 0 rfl ?_
      refine r_iln C dX7_right_38 rfl 2 rfl ?_
      refine r_ishr C dX7_right_39 ?_
      refine r_ic C (v := (1 : Int32)) dX7_right_40 (by decide) ?_
      refine r_iand C dX7_right_41 ?_
      refine r_ifeq C (tgt := 61) dX7_right_42 (by decide) (fun c4 => ?_) (fun c4 => ?_)
      · rw [if_pos c4] at hv
        refine r_bp C (v := (-2 : Int32)) dX7_right_61 (by decide) ?_
        exact r_iret rfl C (by rw [← hv]) (by rw [← hv]) dX7_right_63
      · rw [if_neg c4] at hv
        refine r_aln C dX7_right_45 rfl 1 rfl ?_
        refine r_aln C dX7_right_46 rfl 1 rfl ?_
        refine gf_X7_81 C 0 rfl rfl dX7_right_47 ?_
        refine aft_rd (st' := [.int (s_X7_ofDay n dy td)]) (run_V (rest := []) C (c_X7_ofDay l D o q1 q2 q3 q4 q5 q6 q7 q8 q9 q10 q11 q12 q13 q14 q15 q16 q17 q18 q19 q20 q21 q22 pe n la ri td ys ty ap wg rd sm bt up lw ii kd dy nd co od wo tp rk ry rn vs bs ch tr en du ol ig ln sz it mo td (by omega)) ok_X7_ofDay wn_X7_ofDay wl_X7_ofDay wm_X7_162 _ 0 rfl rfl rfl ⟨Nat.le_of_ble_eq_true rfl, Nat.le_of_ble_eq_true rfl⟩ fm_all rfl (Nat.le_of_ble_eq_true rfl) dX7_right_50) rfl ?_
        refine r_aln C dX7_right_53 rfl 1 rfl ?_
        refine gf_X7_113 C 0 rfl rfl dX7_right_54 ?_
        refine r_iand C dX7_right_57 ?_
        refine r_ifeq C (tgt := 64) dX7_right_58 (by decide) (fun c5 => ?_) (fun c5 => ?_)
        · rw [if_pos c5] at hv
          refine r_aln C dX7_right_64 rfl 1 rfl ?_
          refine r_dup C dX7_right_65 rfl ?_
          refine gf_X7_113 C 0 rfl rfl dX7_right_66 ?_
          refine r_ic C (v := (1 : Int32)) dX7_right_69 (by decide) ?_
          refine r_iln C dX7_right_70 rfl 2 rfl ?_
          refine r_ishl C dX7_right_71 ?_
          refine r_ior C dX7_right_72 ?_
          refine pf_X7_113 C (ws2 := wM D o q1 q2 q3 q4 q5 q6 q7 q8 q9 q10 q11 q12 q13 q14 q15 q16 q17 q18 q19 q20 q21 q22 pe n la (ri ||| ((1 : Int32) <<< (deed &&& 31))) td ys ty ap wg rd sm bt up lw ii kd dy nd co od wo tp rk ry rn vs bs ch tr en du ol ig ln sz it mo) h0 rfl 0 rfl (Nat.le_of_ble_eq_true rfl) dX7_right_73 rfl rfl ?_
          refine r_iln C dX7_right_76 rfl 0 rfl ?_
          refine r_aln C dX7_right_77 rfl 1 rfl ?_
          refine r_aln C dX7_right_78 rfl 1 rfl ?_
          refine gf_X7_113 C 0 rfl rfl dX7_right_79 ?_
          refine r_aln C dX7_right_82 rfl 1 rfl ?_
          refine gf_X7_116 C 0 rfl rfl dX7_right_83 ?_
          refine aft_rd (st' := [.int (s_X7_stands n kd nd (ri ||| ((1 : Int32) <<< (deed &&& 31))) la), .int (s_X7_stands n kd nd ri la)]) (run_V (rest := [.int (s_X7_stands n kd nd ri la)]) C (c_X7_stands l D o q1 q2 q3 q4 q5 q6 q7 q8 q9 q10 q11 q12 q13 q14 q15 q16 q17 q18 q19 q20 q21 q22 pe n la (ri ||| ((1 : Int32) <<< (deed &&& 31))) td ys ty ap wg rd sm bt up lw ii kd dy nd co od wo tp rk ry rn vs bs ch tr en du ol ig ln sz it mo (ri ||| ((1 : Int32) <<< (deed &&& 31))) la (by omega)) ok_X7_stands wn_X7_stands wl_X7_stands wm_X7_119 _ 0 rfl rfl rfl ⟨Nat.le_of_ble_eq_true rfl, Nat.le_of_ble_eq_true rfl⟩ fm_all rfl (Nat.le_of_ble_eq_true rfl) dX7_right_86) rfl ?_
          refine r_ic C (v := (-1 : Int32)) dX7_right_89 (by decide) ?_
          refine r_ixor C dX7_right_90 ?_
          refine r_iand C dX7_right_91 ?_
          exact r_iret rfl C (by rw [← hv]) (by rw [← hv]) dX7_right_92
        · rw [if_neg c5] at hv
          refine r_bp C (v := (-2 : Int32)) dX7_right_61 (by decide) ?_
          exact r_iret rfl C (by rw [← hv]) (by rw [← hv]) dX7_right_63
  · rw [if_pos c1] at hv
    refine r_ic C (v := (-1 : Int32)) dX7_right_9 (by decide) ?_
    exact r_iret rfl C (by rw [← hv]) (by rw [← hv]) dX7_right_10

def s_X7_back (td : Int32) : Int32 × Int32 := (if td < (0 : Int32) then ((-100002 : Int32), td) else (td - (1 : Int32), td - (1 : Int32)))
set_option maxHeartbeats 8000000 in
set_option maxRecDepth 100000 in
theorem c_X7_back (l : Launch) (D : va_G) (o : Nat) (q1 : Nat) (q2 : Nat) (q3 : Nat) (q4 : Nat) (q5 : Nat) (q6 : Nat) (q7 : Nat) (q8 : Nat) (q9 : Nat) (q10 : Nat) (q11 : Nat) (q12 : Nat) (q13 : Nat) (q14 : Nat) (q15 : Nat) (q16 : Nat) (q17 : Nat) (q18 : Nat) (q19 : Nat) (q20 : Nat) (q21 : Nat) (q22 : Nat) (pe : Nat) (n : Nat) (la : Int32) (ri : Int32) (td : Int32) (ys : Int32) (ty : Nat) (ap : Nat) (wg : Int32) (rd : Nat) (sm : Int32) (bt : Int32) (up : Int64) (lw : Int64) (ii : Int32) (kd : Nat → Int32) (dy : Nat → Int32) (nd : Nat → Int32) (co : Nat → Int32) (od : Nat → Int32) (wo : Nat → Int32) (tp : Nat → Int32) (rk : Nat → Int32) (ry : Nat → Int32) (rn : Nat → Int32) (vs : Nat → Int32) (bs : Nat → Int32) (ch : Nat → Int32) (tr : Nat → Int32) (en : Nat → Int32) (du : Nat → Int32) (ol : Nat → Int32) (ig : Nat → Int32) (ln : Nat → Int32) (sz : Nat → Int32) (it : Nat → Int64) (mo : Nat → Int64) (h0 : va_D (fun _ => True) (wM D o q1 q2 q3 q4 q5 q6 q7 q8 q9 q10 q11 q12 q13 q14 q15 q16 q17 q18 q19 q20 q21 q22 pe n la ri td ys ty ap wg rd sm bt up lw ii kd dy nd co od wo tp rk ry rn vs bs ch tr en du ol ig ln sz it mo)) : ct l yX7_back cX7_back 1 (some .int) 0 0 D [.ref o] (wM D o q1 q2 q3 q4 q5 q6 q7 q8 q9 q10 q11 q12 q13 q14 q15 q16 q17 q18 q19 q20 q21 q22 pe n la ri td ys ty ap wg rd sm bt up lw ii kd dy nd co od wo tp rk ry rn vs bs ch tr en du ol ig ln sz it mo) (wM D o q1 q2 q3 q4 q5 q6 q7 q8 q9 q10 q11 q12 q13 q14 q15 q16 q17 q18 q19 q20 q21 q22 pe n la ri (s_X7_back td).2 ys ty ap wg rd sm bt up lw ii kd dy nd co od wo tp rk ry rn vs bs ch tr en du ol ig ln sz it mo) (Ad (wM D o q1 q2 q3 q4 q5 q6 q7 q8 q9 q10 q11 q12 q13 q14 q15 q16 q17 q18 q19 q20 q21 q22 pe n la ri td ys ty ap wg rd sm bt up lw ii kd dy nd co od wo tp rk ry rn vs bs ch tr en du ol ig ln sz it mo)) (some (Value.int (s_X7_back td).1)) := by
  obtain ⟨V, hv⟩ : ∃ V, s_X7_back td = V := ⟨_, rfl⟩
  rw [hv]
  refine ct_intro (own := RX7) (lv := [(0, .ref o)]) (by decide) rfl (Nat.le_of_ble_eq_true rfl) rfl ?_
  intro p_ e_ s_ m_ below_ meth_ c_ C
  have hv : (if td < (0 : Int32) then ((-100002 : Int32), td) else (td - (1 : Int32), td - (1 : Int32))) = V := hv
  refine r_aln C dX7_back_0 rfl 0 rfl ?_
  refine gf_X7_81 C 0 rfl rfl dX7_back_1 ?_
  refine r_ifge C (tgt := 10) dX7_back_4 (by decide) (fun c1 => ?_) (fun c1 => ?_)
  · rw [if_neg c1] at hv
    refine r_aln C dX7_back_10 rfl 0 rfl ?_
    refine r_dup C dX7_back_11 rfl ?_
    refine gf_X7_81 C 0 rfl rfl dX7_back_12 ?_
    refine r_ic C (v := (1 : Int32)) dX7_back_15 (by decide) ?_
    refine r_isub C dX7_back_16 ?_
    refine pf_X7_81 C (ws2 := wM D o q1 q2 q3 q4 q5 q6 q7 q8 q9 q10 q11 q12 q13 q14 q15 q16 q17 q18 q19 q20 q21 q22 pe n la ri (td - (1 : Int32)) ys ty ap wg rd sm bt up lw ii kd dy nd co od wo tp rk ry rn vs bs ch tr en du ol ig ln sz it mo) h0 rfl 0 rfl (Nat.le_of_ble_eq_true rfl) dX7_back_17 rfl rfl ?_
    refine r_aln C dX7_back_20 rfl 0 rfl ?_
    refine gf_X7_81 C 0 rfl rfl dX7_back_21 ?_
    exact r_iret rfl C (by rw [← hv]) (by rw [← hv]) dX7_back_24
  · rw [if_pos c1] at hv
    refine r_ldc C wc_X7_166 dX7_back_7 ?_
    exact r_iret rfl C (by rw [← hv]) (by rw [← hv]) dX7_back_9

def s_X7_size_L4  : Nat → Int32 → Nat → Int32 × Nat
  | 0, cnt_3, left_4 => (cnt_3, left_4)
  | k1 + 1, cnt_3, left_4 => (if nI left_4 = (0 : Int32) then (cnt_3, left_4) else (s_X7_size_L4  k1 (cnt_3 + (1 : Int32)) (left_4 &&& (left_4 - 1))))
def s_X7_size (set : Nat) : Int32 := ((s_X7_size_L4  set (0 : Int32) set).1)
set_option maxHeartbeats 8000000 in
set_option maxRecDepth 100000 in
theorem c_X7_size (l : Launch) (D : va_G) (set : Nat) (hs : set < 4096) : ct l yX7_size cX7_size 3 (some .int) 0 0 D [.int (nI set)] (([] : va_W)) (([] : va_W)) (fun _ => False) (some (Value.int (s_X7_size set))) := by
  obtain ⟨V, hv⟩ : ∃ V, s_X7_size set = V := ⟨_, rfl⟩
  rw [hv]
  refine ct_intro (own := RX7) (lv := [(0, .int (nI set))]) (by decide) rfl (Nat.le_of_ble_eq_true rfl) rfl ?_
  intro p_ e_ s_ m_ below_ meth_ c_ C
  have hv : ((s_X7_size_L4  set (0 : Int32) set).1) = V := hv
  refine r_ic C (v := (0 : Int32)) dX7_size_0 (by decide) ?_
  refine r_isn C (lv' := [(1, .int (0 : Int32)), (0, .int (nI set))]) dX7_size_1 rfl (by decide) rfl ?_
  refine r_iln C dX7_size_2 rfl 1 rfl ?_
  refine r_isn C (lv' := [(2, .int (nI set)), (1, .int (0 : Int32)), (0, .int (nI set))]) dX7_size_3 rfl (by decide) rfl ?_
  have X5 : ∀ (cnt_3 : Int32) (left_4 : Nat), cnt_3 = V → GM p_ l e_ s_ m_ below_ meth_ c_ D 0 0 3 [.int (nI set)] (([] : va_W)) (fun _ => False) (some (Value.int V)) (([] : va_W)) 20 [(2, .int (nI left_4)), (1, .int cnt_3), (0, .int (nI set))] [] := by
    intro cnt_3 left_4 hv
    refine r_iln C dX7_size_20 rfl 1 rfl ?_
    exact r_iret rfl C (congrArg (fun z => some (Value.int z)) hv) rfl dX7_size_21
  have L9 : ∀ (k1 : Nat) (cnt_3 : Int32) (left_4 : Nat), (left_4 ≤ k1) → (left_4 < 4096) → ((s_X7_size_L4  k1 cnt_3 left_4).1) = V → GM p_ l e_ s_ m_ below_ meth_ c_ D 0 0 3 [.int (nI set)] (([] : va_W)) (fun _ => False) (some (Value.int V)) (([] : va_W)) 4 [(2, .int (nI left_4)), (1, .int cnt_3), (0, .int (nI set))] [] := by
    intro k1
    induction k1 with
    | zero =>
      intro cnt_3 left_4 hk hl hv
      have hv : cnt_3 = V := hv
      refine r_iln C dX7_size_4 rfl 0 rfl ?_
      refine r_ifeq C (tgt := 20) dX7_size_5 (by decide) (fun c6 => ?_) (fun c6 => ?_)
      · skip
        exact X5 cnt_3 left_4 hv
      · exact absurd ((nv_eq (a := left_4) (b := 0) rfl rfl (by omega) (by omega)).mpr (by omega)) c6
    | succ k1 ih7 =>
      intro cnt_3 left_4 hk hl hv
      have hv : ((if nI left_4 = (0 : Int32) then (cnt_3, left_4) else (s_X7_size_L4  k1 (cnt_3 + (1 : Int32)) (left_4 &&& (left_4 - 1)))).1) = V := hv
      refine r_iln C dX7_size_4 rfl 0 rfl ?_
      refine r_ifeq C (tgt := 20) dX7_size_5 (by decide) (fun c8 => ?_) (fun c8 => ?_)
      · rw [if_pos c8] at hv
        have fc8 : left_4 = 0 := (nv_eq (a := left_4) (b := 0) rfl rfl (by omega) (by omega)).mp c8
        exact X5 cnt_3 left_4 hv
      · rw [if_neg c8] at hv
        have fc8 : ¬ (left_4 = 0) := fun z => c8 ((nv_eq (a := left_4) (b := 0) rfl rfl (by omega) (by omega)).mpr z)
        refine r_inc C (v := cnt_3 + (1 : Int32)) (lv' := [(1, .int (cnt_3 + (1 : Int32))), (2, .int (nI left_4)), (0, .int (nI set))]) dX7_size_8 1 rfl (by rfl) (by decide) rfl ?_
        refine r_iln C dX7_size_11 rfl 1 rfl ?_
        refine r_iln C dX7_size_12 rfl 1 rfl ?_
        refine r_ic C (v := (1 : Int32)) dX7_size_13 (by decide) ?_
        refine r_isub C dX7_size_14 ?_
        refine r_iand C dX7_size_15 ?_
        refine r_top (and_pred (by assumption) (by omega)) ?_
        refine r_isn C (lv' := [(2, .int (nI (left_4 &&& (left_4 - 1)))), (1, .int (cnt_3 + (1 : Int32))), (0, .int (nI set))]) dX7_size_16 rfl (by decide) rfl ?_
        refine r_goto C (tgt := 4) dX7_size_17 (by decide) ?_
        exact ih7 (cnt_3 + (1 : Int32)) (left_4 &&& (left_4 - 1)) (Nat.le_trans Nat.and_le_right (by omega)) (Nat.lt_of_le_of_lt Nat.and_le_left hl) hv
  exact L9 set (0 : Int32) set (by omega) (by omega) hv

