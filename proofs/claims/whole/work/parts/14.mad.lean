def s_X7_stands_L5 (kd : Nat → Int32) (nd : Nat → Int32) (right : Int32) (old : Int32) : Nat → Nat → Int32 → Int32
  | 0, _, stand_3 => stand_3
  | k1 + 1, d2, stand_3 => (if (right >>> ((nI d2) &&& 31)) &&& (1 : Int32) = (0 : Int32) then (if s_X7_is kd nd d2 stand_3 old = (0 : Int32) then (s_X7_stands_L5 kd nd right old k1 (d2 + 1) (stand_3 ||| (0 : Int32))) else (s_X7_stands_L5 kd nd right old k1 (d2 + 1) (stand_3 ||| ((1 : Int32) <<< ((nI d2) &&& 31))))) else (s_X7_stands_L5 kd nd right old k1 (d2 + 1) (stand_3 ||| (0 : Int32))))
def s_X7_stands (n : Nat) (kd : Nat → Int32) (nd : Nat → Int32) (right : Int32) (old : Int32) : Int32 := (s_X7_stands_L5 kd nd right old n 0 (0 : Int32))
set_option maxHeartbeats 8000000 in
set_option maxRecDepth 100000 in
theorem c_X7_stands (l : Launch) (D : va_G) (o : Nat) (q1 : Nat) (q2 : Nat) (q3 : Nat) (q4 : Nat) (q5 : Nat) (q6 : Nat) (q7 : Nat) (q8 : Nat) (q9 : Nat) (q10 : Nat) (q11 : Nat) (q12 : Nat) (q13 : Nat) (q14 : Nat) (q15 : Nat) (q16 : Nat) (q17 : Nat) (q18 : Nat) (q19 : Nat) (q20 : Nat) (q21 : Nat) (q22 : Nat) (pe : Nat) (n : Nat) (la : Int32) (ri : Int32) (td : Int32) (ys : Int32) (ty : Nat) (ap : Nat) (wg : Int32) (rd : Nat) (sm : Int32) (bt : Int32) (up : Int64) (lw : Int64) (ii : Int32) (kd : Nat → Int32) (dy : Nat → Int32) (nd : Nat → Int32) (co : Nat → Int32) (od : Nat → Int32) (wo : Nat → Int32) (tp : Nat → Int32) (rk : Nat → Int32) (ry : Nat → Int32) (rn : Nat → Int32) (vs : Nat → Int32) (bs : Nat → Int32) (ch : Nat → Int32) (tr : Nat → Int32) (en : Nat → Int32) (du : Nat → Int32) (ol : Nat → Int32) (ig : Nat → Int32) (ln : Nat → Int32) (sz : Nat → Int32) (it : Nat → Int64) (mo : Nat → Int64) (right : Int32) (old : Int32) (hn : n ≤ 12) : ct l yX7_stands cX7_stands 5 (some .int) 1 24 D [.ref o, .int right, .int old] (wM D o q1 q2 q3 q4 q5 q6 q7 q8 q9 q10 q11 q12 q13 q14 q15 q16 q17 q18 q19 q20 q21 q22 pe n la ri td ys ty ap wg rd sm bt up lw ii kd dy nd co od wo tp rk ry rn vs bs ch tr en du ol ig ln sz it mo) (wM D o q1 q2 q3 q4 q5 q6 q7 q8 q9 q10 q11 q12 q13 q14 q15 q16 q17 q18 q19 q20 q21 q22 pe n la ri td ys ty ap wg rd sm bt up lw ii kd dy nd co od wo tp rk ry rn vs bs ch tr en du ol ig ln sz it mo) (fun _ => False) (some (Value.int (s_X7_stands n kd nd right old))) := by
  obtain ⟨V, hv⟩ : ∃ V, s_X7_stands n kd nd right old = V := ⟨_, rfl⟩
  rw [hv]
  refine ct_intro (own := RX7) (lv := [(0, .ref o), (1, .int right), (2, .int old)]) (by decide) rfl (Nat.le_of_ble_eq_true rfl) rfl ?_
  intro p_ e_ s_ m_ below_ meth_ c_ C
  have hv : (s_X7_stands_L5 kd nd right old n 0 (0 : Int32)) = V := hv
  refine r_ic C (v := (0 : Int32)) dX7_stands_0 (by decide) ?_
  refine r_isn C (lv' := [(3, .int (0 : Int32)), (0, .ref o), (1, .int right), (2, .int old)]) dX7_stands_1 rfl (by decide) rfl ?_
  refine r_ic C (v := (0 : Int32)) dX7_stands_2 (by decide) ?_
  refine r_is C (lv' := [(4, .int (0 : Int32)), (3, .int (0 : Int32)), (0, .ref o), (1, .int right), (2, .int old)]) dX7_stands_3 (by decide) rfl ?_
  have L9 : ∀ (k1 : Nat) (d2 : Nat) (stand_3 : Int32), (d2 + k1 = n) → (s_X7_stands_L5 kd nd right old k1 d2 stand_3) = V → GM p_ l e_ s_ m_ below_ meth_ c_ D 1 24 5 [.ref o, .int right, .int old] (wM D o q1 q2 q3 q4 q5 q6 q7 q8 q9 q10 q11 q12 q13 q14 q15 q16 q17 q18 q19 q20 q21 q22 pe n la ri td ys ty ap wg rd sm bt up lw ii kd dy nd co od wo tp rk ry rn vs bs ch tr en du ol ig ln sz it mo) (fun _ => False) (some (Value.int V)) (wM D o q1 q2 q3 q4 q5 q6 q7 q8 q9 q10 q11 q12 q13 q14 q15 q16 q17 q18 q19 q20 q21 q22 pe n la ri td ys ty ap wg rd sm bt up lw ii kd dy nd co od wo tp rk ry rn vs bs ch tr en du ol ig ln sz it mo) 5 [(4, .int (nI d2)), (3, .int stand_3), (0, .ref o), (1, .int right), (2, .int old)] [] := by
    intro k1
    induction k1 with
    | zero =>
      intro d2 stand_3 hk hv
      have hv : stand_3 = V := hv
      refine r_il C dX7_stands_5 0 rfl ?_
      refine r_aln C dX7_stands_7 rfl 2 rfl ?_
      refine gf_X7_84 C 0 rfl rfl dX7_stands_8 ?_
      refine r_icge C (tgt := 51) dX7_stands_11 (by decide) (fun c4 => ?_) (fun c4 => ?_)
      · skip
        refine r_iln C dX7_stands_51 rfl 1 rfl ?_
        exact r_iret rfl C (congrArg (fun z => some (Value.int z)) hv) rfl dX7_stands_52
      · exact absurd c4 (fun z => absurd ((nv_lt (a := d2) (b := n) rfl rfl (by omega) (by omega)).mp z) (by omega))
    | succ k1 ih5 =>
      intro d2 stand_3 hk hv
      have hv : (if (right >>> ((nI d2) &&& 31)) &&& (1 : Int32) = (0 : Int32) then (if s_X7_is kd nd d2 stand_3 old = (0 : Int32) then (s_X7_stands_L5 kd nd right old k1 (d2 + 1) (stand_3 ||| (0 : Int32))) else (s_X7_stands_L5 kd nd right old k1 (d2 + 1) (stand_3 ||| ((1 : Int32) <<< ((nI d2) &&& 31))))) else (s_X7_stands_L5 kd nd right old k1 (d2 + 1) (stand_3 ||| (0 : Int32)))) = V := hv
      refine r_il C dX7_stands_5 0 rfl ?_
      refine r_aln C dX7_stands_7 rfl 2 rfl ?_
      refine gf_X7_84 C 0 rfl rfl dX7_stands_8 ?_
      refine r_icge C (tgt := 51) dX7_stands_11 (by decide) (fun c6 => ?_) (fun c6 => ?_)
      · exact absurd ((nv_lt (a := d2) (b := n) rfl rfl (by omega) (by omega)).mpr (by omega)) c6
      · skip
        refine r_iln C dX7_stands_14 rfl 1 rfl ?_
        refine r_iln C dX7_stands_15 rfl 3 rfl ?_
        refine r_il C dX7_stands_16 0 rfl ?_
        refine r_ishr C dX7_stands_18 ?_
        refine r_ic C (v := (1 : Int32)) dX7_stands_19 (by decide) ?_
        refine r_iand C dX7_stands_20 ?_
        refine r_ifne C (tgt := 42) dX7_stands_21 (by decide) (fun c7 => ?_) (fun c7 => ?_)
        · rw [if_neg c7] at hv
          refine r_ic C (v := (0 : Int32)) dX7_stands_42 (by decide) ?_
          refine r_ior C dX7_stands_43 ?_
          refine r_isn C (lv' := [(3, .int (stand_3 ||| (0 : Int32))), (4, .int (nI d2)), (0, .ref o), (1, .int right), (2, .int old)]) dX7_stands_44 rfl (by decide) rfl ?_
          refine r_inc C (v := nI (d2 + 1)) (lv' := [(4, .int (nI (d2 + 1))), (3, .int (stand_3 ||| (0 : Int32))), (0, .ref o), (1, .int right), (2, .int old)]) dX7_stands_45 1 rfl (inc_nI d2) (by decide) rfl ?_
          refine r_goto C (tgt := 5) dX7_stands_48 (by decide) ?_
          exact ih5 (d2 + 1) (stand_3 ||| (0 : Int32)) (by omega) hv
        · rw [if_pos c7] at hv
          refine r_aln C dX7_stands_24 rfl 2 rfl ?_
          refine r_il C dX7_stands_25 0 rfl ?_
          refine r_iln C dX7_stands_27 rfl 1 rfl ?_
          refine r_iln C dX7_stands_28 rfl 4 rfl ?_
          refine aft_rd (st' := [.int (s_X7_is kd nd d2 stand_3 old), .int stand_3]) (run_V (rest := [.int stand_3]) C (c_X7_is l D o q1 q2 q3 q4 q5 q6 q7 q8 q9 q10 q11 q12 q13 q14 q15 q16 q17 q18 q19 q20 q21 q22 pe n la ri td ys ty ap wg rd sm bt up lw ii kd dy nd co od wo tp rk ry rn vs bs ch tr en du ol ig ln sz it mo d2 stand_3 old (by omega)) ok_X7_is wn_X7_is wl_X7_is wm_X7_105 _ 0 rfl rfl rfl ⟨Nat.le_of_ble_eq_true rfl, Nat.le_of_ble_eq_true rfl⟩ fm_all rfl (Nat.le_of_ble_eq_true rfl) dX7_stands_29) rfl ?_
          refine r_ifeq C (tgt := 42) dX7_stands_32 (by decide) (fun c8 => ?_) (fun c8 => ?_)
          · rw [if_pos c8] at hv
            refine r_ic C (v := (0 : Int32)) dX7_stands_42 (by decide) ?_
            refine r_ior C dX7_stands_43 ?_
            refine r_isn C (lv' := [(3, .int (stand_3 ||| (0 : Int32))), (4, .int (nI d2)), (0, .ref o), (1, .int right), (2, .int old)]) dX7_stands_44 rfl (by decide) rfl ?_
            refine r_inc C (v := nI (d2 + 1)) (lv' := [(4, .int (nI (d2 + 1))), (3, .int (stand_3 ||| (0 : Int32))), (0, .ref o), (1, .int right), (2, .int old)]) dX7_stands_45 1 rfl (inc_nI d2) (by decide) rfl ?_
            refine r_goto C (tgt := 5) dX7_stands_48 (by decide) ?_
            exact ih5 (d2 + 1) (stand_3 ||| (0 : Int32)) (by omega) hv
          · rw [if_neg c8] at hv
            refine r_ic C (v := (1 : Int32)) dX7_stands_35 (by decide) ?_
            refine r_il C dX7_stands_36 0 rfl ?_
            refine r_ishl C dX7_stands_38 ?_
            refine r_goto C (tgt := 43) dX7_stands_39 (by decide) ?_
            refine r_ior C dX7_stands_43 ?_
            refine r_isn C (lv' := [(3, .int (stand_3 ||| ((1 : Int32) <<< ((nI d2) &&& 31)))), (4, .int (nI d2)), (0, .ref o), (1, .int right), (2, .int old)]) dX7_stands_44 rfl (by decide) rfl ?_
            refine r_inc C (v := nI (d2 + 1)) (lv' := [(4, .int (nI (d2 + 1))), (3, .int (stand_3 ||| ((1 : Int32) <<< ((nI d2) &&& 31)))), (0, .ref o), (1, .int right), (2, .int old)]) dX7_stands_45 1 rfl (inc_nI d2) (by decide) rfl ?_
            refine r_goto C (tgt := 5) dX7_stands_48 (by decide) ?_
            exact ih5 (d2 + 1) (stand_3 ||| ((1 : Int32) <<< ((nI d2) &&& 31))) (by omega) hv
  refine r_lve (lv2 := [(4, .int (nI 0)), (3, .int (0 : Int32)), (0, .ref o), (1, .int right), (2, .int old)]) (congrArg (fun (z : Int32) => ([(4, .int z), (3, .int (0 : Int32)), (0, .ref o), (1, .int right), (2, .int old)] : List (Nat × Value))) rfl) ?_
  exact L9 n 0 (0 : Int32) (by omega) hv

def s_X7_told (n : Nat) (la : Int32) (ri : Int32) (kd : Nat → Int32) (dy : Nat → Int32) (nd : Nat → Int32) (co : Nat → Int32) (od : Nat → Int32) (deed : Int32) (what : Int32) : Int32 := (if s_X7_isDeed n deed.toInt64 = (0 : Int32) then (-1 : Int32) else (if what = (0 : Int32) then kd deed.toNatClampNeg else (if what = (1 : Int32) then dy deed.toNatClampNeg else (if what = (2 : Int32) then nd deed.toNatClampNeg else (if what = (3 : Int32) then co deed.toNatClampNeg else (if what = (4 : Int32) then od deed.toNatClampNeg else (if what = (5 : Int32) then ((s_X7_stands n kd nd ri la) >>> (deed &&& 31)) &&& (1 : Int32) else (if what = (6 : Int32) then (ri >>> (deed &&& 31)) &&& (1 : Int32) else (-1 : Int32)))))))))
set_option maxHeartbeats 8000000 in
set_option maxRecDepth 100000 in
theorem c_X7_told (l : Launch) (D : va_G) (o : Nat) (q1 : Nat) (q2 : Nat) (q3 : Nat) (q4 : Nat) (q5 : Nat) (q6 : Nat) (q7 : Nat) (q8 : Nat) (q9 : Nat) (q10 : Nat) (q11 : Nat) (q12 : Nat) (q13 : Nat) (q14 : Nat) (q15 : Nat) (q16 : Nat) (q17 : Nat) (q18 : Nat) (q19 : Nat) (q20 : Nat) (q21 : Nat) (q22 : Nat) (pe : Nat) (n : Nat) (la : Int32) (ri : Int32) (td : Int32) (ys : Int32) (ty : Nat) (ap : Nat) (wg : Int32) (rd : Nat) (sm : Int32) (bt : Int32) (up : Int64) (lw : Int64) (ii : Int32) (kd : Nat → Int32) (dy : Nat → Int32) (nd : Nat → Int32) (co : Nat → Int32) (od : Nat → Int32) (wo : Nat → Int32) (tp : Nat → Int32) (rk : Nat → Int32) (ry : Nat → Int32) (rn : Nat → Int32) (vs : Nat → Int32) (bs : Nat → Int32) (ch : Nat → Int32) (tr : Nat → Int32) (en : Nat → Int32) (du : Nat → Int32) (ol : Nat → Int32) (ig : Nat → Int32) (ln : Nat → Int32) (sz : Nat → Int32) (it : Nat → Int64) (mo : Nat → Int64) (deed : Int32) (what : Int32) (hn : n ≤ 12) : ct l yX7_told cX7_told 3 (some .int) 2 48 D [.ref o, .int deed, .int what] (wM D o q1 q2 q3 q4 q5 q6 q7 q8 q9 q10 q11 q12 q13 q14 q15 q16 q17 q18 q19 q20 q21 q22 pe n la ri td ys ty ap wg rd sm bt up lw ii kd dy nd co od wo tp rk ry rn vs bs ch tr en du ol ig ln sz it mo) (wM D o q1 q2 q3 q4 q5 q6 q7 q8 q9 q10 q11 q12 q13 q14 q15 q16 q17 q18 q19 q20 q21 q22 pe n la ri td ys ty ap wg rd sm bt up lw ii kd dy nd co od wo tp rk ry rn vs bs ch tr en du ol ig ln sz it mo) (fun _ => False) (some (Value.int (s_X7_told n la ri kd dy nd co od deed what))) := by
  obtain ⟨V, hv⟩ : ∃ V, s_X7_told n la ri kd dy nd co od deed what = V := ⟨_, rfl⟩
  rw [hv]
  refine ct_intro (own := RX7) (lv := [(0, .ref o), (1, .int deed), (2, .int what)]) (by decide) rfl (Nat.le_of_ble_eq_true rfl) rfl ?_
  intro p_ e_ s_ m_ below_ meth_ c_ C
  have hv : (if s_X7_isDeed n deed.toInt64 = (0 : Int32) then (-1 : Int32) else (if what = (0 : Int32) then kd deed.toNatClampNeg else (if what = (1 : Int32) then dy deed.toNatClampNeg else (if what = (2 : Int32) then nd deed.toNatClampNeg else (if what = (3 : Int32) then co deed.toNatClampNeg else (if what = (4 : Int32) then od deed.toNatClampNeg else (if what = (5 : Int32) then ((s_X7_stands n kd nd ri la) >>> (deed &&& 31)) &&& (1 : Int32) else (if what = (6 : Int32) then (ri >>> (deed &&& 31)) &&& (1 : Int32) else (-1 : Int32))))))))) = V := hv
  refine r_aln C dX7_told_0 rfl 0 rfl ?_
  refine r_iln C dX7_told_1 rfl 1 rfl ?_
  refine r_i2l C dX7_told_2 ?_
  refine aft_rd (st' := [.int (s_X7_isDeed n deed.toInt64)]) (run_V (rest := []) C (c_X7_isDeed l D o q1 q2 q3 q4 q5 q6 q7 q8 q9 q10 q11 q12 q13 q14 q15 q16 q17 q18 q19 q20 q21 q22 pe n la ri td ys ty ap wg rd sm bt up lw ii kd dy nd co od wo tp rk ry rn vs bs ch tr en du ol ig ln sz it mo deed.toInt64 ) ok_X7_isDeed wn_X7_isDeed wl_X7_isDeed wm_X7_109 _ 0 rfl rfl rfl ⟨Nat.le_of_ble_eq_true rfl, Nat.le_of_ble_eq_true rfl⟩ fm_all rfl (Nat.le_of_ble_eq_true rfl) dX7_told_3) rfl ?_
  refine r_ifne C (tgt := 11) dX7_told_6 (by decide) (fun c1 => ?_) (fun c1 => ?_)
  · rw [if_neg c1] at hv
    have e2 := mdeed_nat hn c1
    refine r_iln C dX7_told_11 rfl 2 rfl ?_
    by_cases c3 : what = (0 : Int32)
    · rw [if_pos c3] at hv
      refine r_tabIn C (tgt := 56) dX7_told_12 (by rw [c3]; decide) (by rw [c3]; decide) (by rw [c3]; rfl) (by decide) ?_
      refine r_aln C dX7_told_56 rfl 0 rfl ?_
      refine gf_X7_7 C 0 rfl rfl dX7_told_57 ?_
      refine r_iln C dX7_told_60 rfl 1 rfl ?_
      refine r_iald C 1 deed.toNatClampNeg rfl e2.1 (by omega) (by decide) rfl dX7_told_61 ?_
      exact r_iret rfl C (congrArg (fun z => some (Value.int z)) hv) rfl dX7_told_62
    · rw [if_neg c3] at hv
      by_cases c4 : what = (1 : Int32)
      · rw [if_pos c4] at hv
        refine r_tabIn C (tgt := 63) dX7_told_12 (by rw [c4]; decide) (by rw [c4]; decide) (by rw [c4]; rfl) (by decide) ?_
        refine r_aln C dX7_told_63 rfl 0 rfl ?_
        refine gf_X7_13 C 0 rfl rfl dX7_told_64 ?_
        refine r_iln C dX7_told_67 rfl 1 rfl ?_
        refine r_iald C 2 deed.toNatClampNeg rfl e2.1 (by omega) (by decide) rfl dX7_told_68 ?_
        exact r_iret rfl C (congrArg (fun z => some (Value.int z)) hv) rfl dX7_told_69
      · rw [if_neg c4] at hv
        by_cases c5 : what = (2 : Int32)
        · rw [if_pos c5] at hv
          refine r_tabIn C (tgt := 70) dX7_told_12 (by rw [c5]; decide) (by rw [c5]; decide) (by rw [c5]; rfl) (by decide) ?_
          refine r_aln C dX7_told_70 rfl 0 rfl ?_
          refine gf_X7_16 C 0 rfl rfl dX7_told_71 ?_
          refine r_iln C dX7_told_74 rfl 1 rfl ?_
          refine r_iald C 3 deed.toNatClampNeg rfl e2.1 (by omega) (by decide) rfl dX7_told_75 ?_
          exact r_iret rfl C (congrArg (fun z => some (Value.int z)) hv) rfl dX7_told_76
        · rw [if_neg c5] at hv
          by_cases c6 : what = (3 : Int32)
          · rw [if_pos c6] at hv
            refine r_tabIn C (tgt := 77) dX7_told_12 (by rw [c6]; decide) (by rw [c6]; decide) (by rw [c6]; rfl) (by decide) ?_
            refine r_aln C dX7_told_77 rfl 0 rfl ?_
            refine gf_X7_19 C 0 rfl rfl dX7_told_78 ?_
            refine r_iln C dX7_told_81 rfl 1 rfl ?_
            refine r_iald C 4 deed.toNatClampNeg rfl e2.1 (by omega) (by decide) rfl dX7_told_82 ?_
            exact r_iret rfl C (congrArg (fun z => some (Value.int z)) hv) rfl dX7_told_83
          · rw [if_neg c6] at hv
            by_cases c7 : what = (4 : Int32)
            · rw [if_pos c7] at hv
              refine r_tabIn C (tgt := 84) dX7_told_12 (by rw [c7]; decide) (by rw [c7]; decide) (by rw [c7]; rfl) (by decide) ?_
              refine r_aln C dX7_told_84 rfl 0 rfl ?_
              refine gf_X7_22 C 0 rfl rfl dX7_told_85 ?_
              refine r_iln C dX7_told_88 rfl 1 rfl ?_
              refine r_iald C 5 deed.toNatClampNeg rfl e2.1 (by omega) (by decide) rfl dX7_told_89 ?_
              exact r_iret rfl C (congrArg (fun z => some (Value.int z)) hv) rfl dX7_told_90
            · rw [if_neg c7] at hv
              by_cases c8 : what = (5 : Int32)
              · rw [if_pos c8] at hv
                refine r_tabIn C (tgt := 91) dX7_told_12 (by rw [c8]; decide) (by rw [c8]; decide) (by rw [c8]; rfl) (by decide) ?_
                refine r_aln C dX7_told_91 rfl 0 rfl ?_
                refine r_aln C dX7_told_92 rfl 0 rfl ?_
                refine gf_X7_113 C 0 rfl rfl dX7_told_93 ?_
                refine r_aln C dX7_told_96 rfl 0 rfl ?_
                refine gf_X7_116 C 0 rfl rfl dX7_told_97 ?_
                refine aft_rd (st' := [.int (s_X7_stands n kd nd ri la)]) (run_V (rest := []) C (c_X7_stands l D o q1 q2 q3 q4 q5 q6 q7 q8 q9 q10 q11 q12 q13 q14 q15 q16 q17 q18 q19 q20 q21 q22 pe n la ri td ys ty ap wg rd sm bt up lw ii kd dy nd co od wo tp rk ry rn vs bs ch tr en du ol ig ln sz it mo ri la (by omega)) ok_X7_stands wn_X7_stands wl_X7_stands wm_X7_119 _ 0 rfl rfl rfl ⟨Nat.le_of_ble_eq_true rfl, Nat.le_of_ble_eq_true rfl⟩ fm_all rfl (Nat.le_of_ble_eq_true rfl) dX7_told_100) rfl ?_
                refine r_iln C dX7_told_103 rfl 1 rfl ?_
                refine r_ishr C dX7_told_104 ?_
                refine r_ic C (v := (1 : Int32)) dX7_told_105 (by decide) ?_
                refine r_iand C dX7_told_106 ?_
                exact r_iret rfl C (congrArg (fun z => some (Value.int z)) hv) rfl dX7_told_107
              · rw [if_neg c8] at hv
                by_cases c9 : what = (6 : Int32)
                · rw [if_pos c9] at hv
                  refine r_tabIn C (tgt := 108) dX7_told_12 (by rw [c9]; decide) (by rw [c9]; decide) (by rw [c9]; rfl) (by decide) ?_
                  refine r_aln C dX7_told_108 rfl 0 rfl ?_
                  refine gf_X7_113 C 0 rfl rfl dX7_told_109 ?_
                  refine r_iln C dX7_told_112 rfl 1 rfl ?_
                  refine r_ishr C dX7_told_113 ?_
                  refine r_ic C (v := (1 : Int32)) dX7_told_114 (by decide) ?_
                  refine r_iand C dX7_told_115 ?_
                  exact r_iret rfl C (congrArg (fun z => some (Value.int z)) hv) rfl dX7_told_116
                · rw [if_neg c9] at hv
                  have nc3 : what.toInt ≠ 0 := fun z => c3 (i32_eq _ _ 0 (by decide) z)
                  have nc4 : what.toInt ≠ 1 := fun z => c4 (i32_eq _ _ 1 (by decide) z)
                  have nc5 : what.toInt ≠ 2 := fun z => c5 (i32_eq _ _ 2 (by decide) z)
                  have nc6 : what.toInt ≠ 3 := fun z => c6 (i32_eq _ _ 3 (by decide) z)
                  have nc7 : what.toInt ≠ 4 := fun z => c7 (i32_eq _ _ 4 (by decide) z)
                  have nc8 : what.toInt ≠ 5 := fun z => c8 (i32_eq _ _ 5 (by decide) z)
                  have nc9 : what.toInt ≠ 6 := fun z => c9 (i32_eq _ _ 6 (by decide) z)
                  refine r_tabOut C (tgt := 117) dX7_told_12 (by omega) (by decide) ?_
                  refine r_ic C (v := (-1 : Int32)) dX7_told_117 (by decide) ?_
                  exact r_iret rfl C (congrArg (fun z => some (Value.int z)) hv) rfl dX7_told_118
  · rw [if_pos c1] at hv
    refine r_ic C (v := (-1 : Int32)) dX7_told_9 (by decide) ?_
    exact r_iret rfl C (congrArg (fun z => some (Value.int z)) hv) rfl dX7_told_10

