def s_X7_readDeed_m47_0 (ty : Nat) (ap : Nat) (tp : Nat → Int32) : Int32 := (if (s_X7_here ty ap tp).1 = (112 : Int32) then (0 : Int32) else (if (s_X7_here ty ap tp).1 = (97 : Int32) then (1 : Int32) else (if (s_X7_here ty ap tp).1 = (115 : Int32) then (2 : Int32) else (if (s_X7_here ty ap tp).1 = (104 : Int32) then (3 : Int32) else (-4 : Int32)))))
def s_X7_readDeed_L173 (ty : Nat) (ap : Nat) (rd : Nat) (tp : Nat → Int32) (ry : Nat → Int32) : Nat → Int32 → Nat → Nat → Int32 → Int32 × Nat × Nat × Int32
  | 0, need_15, more_16, ap_17, wg_18 => (need_15, more_16, ap_17, wg_18)
  | k13 + 1, need_15, more_16, ap_17, wg_18 => (if nI more_16 = (0 : Int32) then (need_15, more_16, ap_17, wg_18) else (if ((s_X7_ahead ry rd (((s_X7_here ty (((s_X7_here ty ap tp).2) + 1) tp).1) - (65 : Int32))) >>> ((((s_X7_here ty ap_17 tp).1) - (97 : Int32)) &&& 31)) &&& (1 : Int32) = (0 : Int32) then (s_X7_readDeed_L173 ty ap rd tp ry k13 (need_15 ||| ((1 : Int32) <<< ((((s_X7_here ty ap_17 tp).1) - (97 : Int32)) &&& 31))) 0 (((s_X7_here ty ap_17 tp).2) + 0) (1 : Int32)) else (if (need_15 >>> ((((s_X7_here ty ap_17 tp).1) - (97 : Int32)) &&& 31)) &&& (1 : Int32) = (1 : Int32) then (s_X7_readDeed_L173 ty ap rd tp ry k13 (need_15 ||| ((1 : Int32) <<< ((((s_X7_here ty ap_17 tp).1) - (97 : Int32)) &&& 31))) 0 (((s_X7_here ty ap_17 tp).2) + 0) (1 : Int32)) else (if s_X7_in (((s_X7_here ty (((s_X7_here ty ap_17 tp).2) + 1) tp).1).toInt64) (97 : Int64) (108 : Int64) = (0 : Int32) then (s_X7_readDeed_L173 ty ap rd tp ry k13 (need_15 ||| ((1 : Int32) <<< ((((s_X7_here ty ap_17 tp).1) - (97 : Int32)) &&& 31))) 0 ((s_X7_here ty (((s_X7_here ty ap_17 tp).2) + 1) tp).2) (0 : Int32)) else (s_X7_readDeed_L173 ty ap rd tp ry k13 (need_15 ||| ((1 : Int32) <<< ((((s_X7_here ty ap_17 tp).1) - (97 : Int32)) &&& 31))) 1 ((s_X7_here ty (((s_X7_here ty ap_17 tp).2) + 1) tp).2) (0 : Int32))))))
def s_X7_readDeed (ty : Nat) (ap : Nat) (rd : Nat) (tp : Nat → Int32) (rk : Nat → Int32) (ry : Nat → Int32) (rn : Nat → Int32) : Nat × Int32 × Nat × (Nat → Int32) × (Nat → Int32) × (Nat → Int32) := (if s_X7_readDeed_m47_0 ty ap tp < (0 : Int32) then (((s_X7_here ty (((s_X7_here ty ap tp).2) + 0) tp).2) + 0, (1 : Int32), rd + 1, upd rk rd (s_X7_readDeed_m47_0 ty ap tp), upd ry rd (((s_X7_here ty (((s_X7_here ty ap tp).2) + 0) tp).1) - (65 : Int32)), upd rn rd (0 : Int32)) else (if s_X7_in ((((s_X7_here ty (((s_X7_here ty ap tp).2) + 1) tp).1) - (65 : Int32)).toInt64) (0 : Int64) (11 : Int64) = (0 : Int32) then (((s_X7_here ty (((s_X7_here ty ap tp).2) + 1) tp).2) + 0, (1 : Int32), rd + 1, upd rk rd (s_X7_readDeed_m47_0 ty ap tp), upd ry rd (((s_X7_here ty (((s_X7_here ty ap tp).2) + 1) tp).1) - (65 : Int32)), upd rn rd (0 : Int32)) else (if s_X7_in (((s_X7_here ty (((s_X7_here ty (((s_X7_here ty ap tp).2) + 1) tp).2) + 1) tp).1).toInt64) (97 : Int64) (108 : Int64) = (0 : Int32) then ((s_X7_here ty (((s_X7_here ty (((s_X7_here ty ap tp).2) + 1) tp).2) + 1) tp).2, (0 : Int32), rd + 1, upd rk rd (s_X7_readDeed_m47_0 ty ap tp), upd ry rd (((s_X7_here ty (((s_X7_here ty ap tp).2) + 1) tp).1) - (65 : Int32)), upd rn rd (0 : Int32)) else (((s_X7_readDeed_L173 ty ap rd tp ry (ty - ((s_X7_here ty (((s_X7_here ty (((s_X7_here ty ap tp).2) + 1) tp).2) + 1) tp).2)) (0 : Int32) 1 ((s_X7_here ty (((s_X7_here ty (((s_X7_here ty ap tp).2) + 1) tp).2) + 1) tp).2) (0 : Int32)).2.2.1), ((s_X7_readDeed_L173 ty ap rd tp ry (ty - ((s_X7_here ty (((s_X7_here ty (((s_X7_here ty ap tp).2) + 1) tp).2) + 1) tp).2)) (0 : Int32) 1 ((s_X7_here ty (((s_X7_here ty (((s_X7_here ty ap tp).2) + 1) tp).2) + 1) tp).2) (0 : Int32)).2.2.2), rd + 1, upd rk rd (s_X7_readDeed_m47_0 ty ap tp), upd ry rd (((s_X7_here ty (((s_X7_here ty ap tp).2) + 1) tp).1) - (65 : Int32)), upd rn rd ((s_X7_readDeed_L173 ty ap rd tp ry (ty - ((s_X7_here ty (((s_X7_here ty (((s_X7_here ty ap tp).2) + 1) tp).2) + 1) tp).2)) (0 : Int32) 1 ((s_X7_here ty (((s_X7_here ty (((s_X7_here ty ap tp).2) + 1) tp).2) + 1) tp).2) (0 : Int32)).1)))))
set_option maxHeartbeats 8000000 in
set_option maxRecDepth 100000 in
theorem c_X7_readDeed (l : Launch) (D : va_G) (o : Nat) (q1 : Nat) (q2 : Nat) (q3 : Nat) (q4 : Nat) (q5 : Nat) (q6 : Nat) (q7 : Nat) (q8 : Nat) (q9 : Nat) (q10 : Nat) (q11 : Nat) (q12 : Nat) (q13 : Nat) (q14 : Nat) (q15 : Nat) (q16 : Nat) (q17 : Nat) (q18 : Nat) (q19 : Nat) (q20 : Nat) (q21 : Nat) (q22 : Nat) (pe : Nat) (n : Nat) (la : Int32) (ri : Int32) (td : Int32) (ys : Int32) (ty : Nat) (ap : Nat) (wg : Int32) (rd : Nat) (sm : Int32) (bt : Int32) (up : Int64) (lw : Int64) (ii : Int32) (kd : Nat → Int32) (dy : Nat → Int32) (nd : Nat → Int32) (co : Nat → Int32) (od : Nat → Int32) (wo : Nat → Int32) (tp : Nat → Int32) (rk : Nat → Int32) (ry : Nat → Int32) (rn : Nat → Int32) (vs : Nat → Int32) (bs : Nat → Int32) (ch : Nat → Int32) (tr : Nat → Int32) (en : Nat → Int32) (du : Nat → Int32) (ol : Nat → Int32) (ig : Nat → Int32) (ln : Nat → Int32) (sz : Nat → Int32) (it : Nat → Int64) (mo : Nat → Int64) (hty : ty ≤ 80) (hap : ap ≤ ty) (hrd : rd < 12) (h0 : va_D (fun _ => True) (wM D o q1 q2 q3 q4 q5 q6 q7 q8 q9 q10 q11 q12 q13 q14 q15 q16 q17 q18 q19 q20 q21 q22 pe n la ri td ys ty ap wg rd sm bt up lw ii kd dy nd co od wo tp rk ry rn vs bs ch tr en du ol ig ln sz it mo)) : ct l yX7_readDeed cX7_readDeed 7 none 1 25 D [.ref o] (wM D o q1 q2 q3 q4 q5 q6 q7 q8 q9 q10 q11 q12 q13 q14 q15 q16 q17 q18 q19 q20 q21 q22 pe n la ri td ys ty ap wg rd sm bt up lw ii kd dy nd co od wo tp rk ry rn vs bs ch tr en du ol ig ln sz it mo) (wM D o q1 q2 q3 q4 q5 q6 q7 q8 q9 q10 q11 q12 q13 q14 q15 q16 q17 q18 q19 q20 q21 q22 pe n la ri td ys ty (s_X7_readDeed ty ap rd tp rk ry rn).1 (s_X7_readDeed ty ap rd tp rk ry rn).2.1 (s_X7_readDeed ty ap rd tp rk ry rn).2.2.1 sm bt up lw ii kd dy nd co od wo tp (s_X7_readDeed ty ap rd tp rk ry rn).2.2.2.1 (s_X7_readDeed ty ap rd tp rk ry rn).2.2.2.2.1 (s_X7_readDeed ty ap rd tp rk ry rn).2.2.2.2.2 vs bs ch tr en du ol ig ln sz it mo) (Ad (wM D o q1 q2 q3 q4 q5 q6 q7 q8 q9 q10 q11 q12 q13 q14 q15 q16 q17 q18 q19 q20 q21 q22 pe n la ri td ys ty ap wg rd sm bt up lw ii kd dy nd co od wo tp rk ry rn vs bs ch tr en du ol ig ln sz it mo)) (none) := by
  obtain ⟨V, hv⟩ : ∃ V, s_X7_readDeed ty ap rd tp rk ry rn = V := ⟨_, rfl⟩
  rw [hv]
  refine ct_intro (own := RX7) (lv := [(0, .ref o)]) (by decide) rfl (Nat.le_of_ble_eq_true rfl) rfl ?_
  intro p_ e_ s_ m_ below_ meth_ c_ C
  have hv : (if s_X7_readDeed_m47_0 ty ap tp < (0 : Int32) then (((s_X7_here ty (((s_X7_here ty ap tp).2) + 0) tp).2) + 0, (1 : Int32), rd + 1, upd rk rd (s_X7_readDeed_m47_0 ty ap tp), upd ry rd (((s_X7_here ty (((s_X7_here ty ap tp).2) + 0) tp).1) - (65 : Int32)), upd rn rd (0 : Int32)) else (if s_X7_in ((((s_X7_here ty (((s_X7_here ty ap tp).2) + 1) tp).1) - (65 : Int32)).toInt64) (0 : Int64) (11 : Int64) = (0 : Int32) then (((s_X7_here ty (((s_X7_here ty ap tp).2) + 1) tp).2) + 0, (1 : Int32), rd + 1, upd rk rd (s_X7_readDeed_m47_0 ty ap tp), upd ry rd (((s_X7_here ty (((s_X7_here ty ap tp).2) + 1) tp).1) - (65 : Int32)), upd rn rd (0 : Int32)) else (if s_X7_in (((s_X7_here ty (((s_X7_here ty (((s_X7_here ty ap tp).2) + 1) tp).2) + 1) tp).1).toInt64) (97 : Int64) (108 : Int64) = (0 : Int32) then ((s_X7_here ty (((s_X7_here ty (((s_X7_here ty ap tp).2) + 1) tp).2) + 1) tp).2, (0 : Int32), rd + 1, upd rk rd (s_X7_readDeed_m47_0 ty ap tp), upd ry rd (((s_X7_here ty (((s_X7_here ty ap tp).2) + 1) tp).1) - (65 : Int32)), upd rn rd (0 : Int32)) else (((s_X7_readDeed_L173 ty ap rd tp ry (ty - ((s_X7_here ty (((s_X7_here ty (((s_X7_here ty ap tp).2) + 1) tp).2) + 1) tp).2)) (0 : Int32) 1 ((s_X7_here ty (((s_X7_here ty (((s_X7_here ty ap tp).2) + 1) tp).2) + 1) tp).2) (0 : Int32)).2.2.1), ((s_X7_readDeed_L173 ty ap rd tp ry (ty - ((s_X7_here ty (((s_X7_here ty (((s_X7_here ty ap tp).2) + 1) tp).2) + 1) tp).2)) (0 : Int32) 1 ((s_X7_here ty (((s_X7_here ty (((s_X7_here ty ap tp).2) + 1) tp).2) + 1) tp).2) (0 : Int32)).2.2.2), rd + 1, upd rk rd (s_X7_readDeed_m47_0 ty ap tp), upd ry rd (((s_X7_here ty (((s_X7_here ty ap tp).2) + 1) tp).1) - (65 : Int32)), upd rn rd ((s_X7_readDeed_L173 ty ap rd tp ry (ty - ((s_X7_here ty (((s_X7_here ty (((s_X7_here ty ap tp).2) + 1) tp).2) + 1) tp).2)) (0 : Int32) 1 ((s_X7_here ty (((s_X7_here ty (((s_X7_here ty ap tp).2) + 1) tp).2) + 1) tp).2) (0 : Int32)).1))))) = V := hv
  refine r_aln C dX7_readDeed_0 rfl 0 rfl ?_
  refine aft_wa (ws2 := wM D o q1 q2 q3 q4 q5 q6 q7 q8 q9 q10 q11 q12 q13 q14 q15 q16 q17 q18 q19 q20 q21 q22 pe n la ri td ys ty ((s_X7_here ty ap tp).2) wg rd sm bt up lw ii kd dy nd co od wo tp rk ry rn vs bs ch tr en du ol ig ln sz it mo) (st' := [.int ((s_X7_here ty ap tp).1)]) h0 rfl rfl (run_V (rest := []) C (c_X7_here l D o q1 q2 q3 q4 q5 q6 q7 q8 q9 q10 q11 q12 q13 q14 q15 q16 q17 q18 q19 q20 q21 q22 pe n la ri td ys ty ap wg rd sm bt up lw ii kd dy nd co od wo tp rk ry rn vs bs ch tr en du ol ig ln sz it mo (by omega) (by omega) (dis_all h0 rfl)) ok_X7_here wn_X7_here wl_X7_here wm_X7_144 _ 0 rfl rfl rfl ⟨Nat.le_of_ble_eq_true rfl, Nat.le_of_ble_eq_true rfl⟩ fm_all rfl (Nat.le_of_ble_eq_true rfl) dX7_readDeed_1) rfl rfl ?_
  refine r_isn C (lv' := [(1, .int ((s_X7_here ty ap tp).1)), (0, .ref o)]) dX7_readDeed_4 rfl (by decide) rfl ?_
  refine r_iln C dX7_readDeed_5 rfl 0 rfl ?_
  refine r_bp C (v := (112 : Int32)) dX7_readDeed_6 (by decide) ?_
  have J41 : GM p_ l e_ s_ m_ below_ meth_ c_ D 1 25 7 [.ref o] (wM D o q1 q2 q3 q4 q5 q6 q7 q8 q9 q10 q11 q12 q13 q14 q15 q16 q17 q18 q19 q20 q21 q22 pe n la ri td ys ty V.1 V.2.1 V.2.2.1 sm bt up lw ii kd dy nd co od wo tp V.2.2.2.1 V.2.2.2.2.1 V.2.2.2.2.2 vs bs ch tr en du ol ig ln sz it mo) (Ad (wM D o q1 q2 q3 q4 q5 q6 q7 q8 q9 q10 q11 q12 q13 q14 q15 q16 q17 q18 q19 q20 q21 q22 pe n la ri td ys ty ap wg rd sm bt up lw ii kd dy nd co od wo tp rk ry rn vs bs ch tr en du ol ig ln sz it mo)) (none) (wM D o q1 q2 q3 q4 q5 q6 q7 q8 q9 q10 q11 q12 q13 q14 q15 q16 q17 q18 q19 q20 q21 q22 pe n la ri td ys ty ((s_X7_here ty ap tp).2) wg rd sm bt up lw ii kd dy nd co od wo tp rk ry rn vs bs ch tr en du ol ig ln sz it mo) 47 [(1, .int ((s_X7_here ty ap tp).1)), (0, .ref o)] [.int (s_X7_readDeed_m47_0 ty ap tp)] := by
    refine r_isn C (lv' := [(2, .int (s_X7_readDeed_m47_0 ty ap tp)), (1, .int ((s_X7_here ty ap tp).1)), (0, .ref o)]) dX7_readDeed_47 rfl (by decide) rfl ?_
    refine r_aln C dX7_readDeed_48 rfl 2 rfl ?_
    refine r_iln C dX7_readDeed_49 rfl 0 rfl ?_
    refine r_ifge C (tgt := 57) dX7_readDeed_50 (by decide) (fun c5 => ?_) (fun c5 => ?_)
    · rw [if_neg c5] at hv
      refine r_ic C (v := (0 : Int32)) dX7_readDeed_57 (by decide) ?_
      refine pf_X7_148 C (ws2 := wM D o q1 q2 q3 q4 q5 q6 q7 q8 q9 q10 q11 q12 q13 q14 q15 q16 q17 q18 q19 q20 q21 q22 pe n la ri td ys ty ((s_X7_here ty ap tp).2) (0 : Int32) rd sm bt up lw ii kd dy nd co od wo tp rk ry rn vs bs ch tr en du ol ig ln sz it mo) h0 rfl 0 rfl (Nat.le_of_ble_eq_true rfl) rfl rfl dX7_readDeed_58 rfl rfl ?_
      refine r_aln C dX7_readDeed_61 rfl 2 rfl ?_
      refine r_dup C dX7_readDeed_62 rfl ?_
      refine gf_X7_141 C 0 rfl rfl dX7_readDeed_63 ?_
      refine r_aln C dX7_readDeed_66 rfl 2 rfl ?_
      refine gf_X7_148 C 0 rfl rfl dX7_readDeed_67 ?_
      refine r_ifeq C (tgt := 77) dX7_readDeed_70 (by decide) (fun c6 => ?_) (fun c6 => ?_)
      · skip
        have hlt : ((s_X7_here ty ap tp).2) < ty := here_lt hty (by omega) (kind_c c5)
        refine r_ic C (v := (1 : Int32)) dX7_readDeed_77 (by decide) ?_
        refine r_iadd C dX7_readDeed_78 ?_
        refine r_top (nv_add rfl rfl) ?_
        refine pf_X7_141 C (ws2 := wM D o q1 q2 q3 q4 q5 q6 q7 q8 q9 q10 q11 q12 q13 q14 q15 q16 q17 q18 q19 q20 q21 q22 pe n la ri td ys ty (((s_X7_here ty ap tp).2) + 1) (0 : Int32) rd sm bt up lw ii kd dy nd co od wo tp rk ry rn vs bs ch tr en du ol ig ln sz it mo) h0 rfl 0 rfl (Nat.le_of_ble_eq_true rfl) dX7_readDeed_79 rfl rfl ?_
        refine r_aln C dX7_readDeed_82 rfl 2 rfl ?_
        refine aft_wa (ws2 := wM D o q1 q2 q3 q4 q5 q6 q7 q8 q9 q10 q11 q12 q13 q14 q15 q16 q17 q18 q19 q20 q21 q22 pe n la ri td ys ty ((s_X7_here ty (((s_X7_here ty ap tp).2) + 1) tp).2) (0 : Int32) rd sm bt up lw ii kd dy nd co od wo tp rk ry rn vs bs ch tr en du ol ig ln sz it mo) (st' := [.int ((s_X7_here ty (((s_X7_here ty ap tp).2) + 1) tp).1)]) h0 rfl rfl (run_V (rest := []) C (c_X7_here l D o q1 q2 q3 q4 q5 q6 q7 q8 q9 q10 q11 q12 q13 q14 q15 q16 q17 q18 q19 q20 q21 q22 pe n la ri td ys ty (((s_X7_here ty ap tp).2) + 1) (0 : Int32) rd sm bt up lw ii kd dy nd co od wo tp rk ry rn vs bs ch tr en du ol ig ln sz it mo (by omega) (by omega) (dis_all h0 rfl)) ok_X7_here wn_X7_here wl_X7_here wm_X7_144 _ 0 rfl rfl rfl ⟨Nat.le_of_ble_eq_true rfl, Nat.le_of_ble_eq_true rfl⟩ fm_all rfl (Nat.le_of_ble_eq_true rfl) dX7_readDeed_83) rfl rfl ?_
        refine r_bp C (v := (65 : Int32)) dX7_readDeed_86 (by decide) ?_
        refine r_isub C dX7_readDeed_88 ?_
        refine r_isn C (lv' := [(3, .int (((s_X7_here ty (((s_X7_here ty ap tp).2) + 1) tp).1) - (65 : Int32))), (2, .int (s_X7_readDeed_m47_0 ty ap tp)), (1, .int ((s_X7_here ty ap tp).1)), (0, .ref o)]) dX7_readDeed_89 rfl (by decide) rfl ?_
        refine r_aln C dX7_readDeed_90 rfl 3 rfl ?_
        refine r_aln C dX7_readDeed_91 rfl 3 rfl ?_
        refine gf_X7_148 C 0 rfl rfl dX7_readDeed_92 ?_
        refine r_ifne C (tgt := 110) dX7_readDeed_95 (by decide) (fun c7 => ?_) (fun c7 => ?_)
        · exact absurd (by decide) c7
        · skip
          refine r_iln C dX7_readDeed_98 rfl 0 rfl ?_
          refine r_i2l C dX7_readDeed_99 ?_
          refine r_lc C (v := (0 : Int64)) dX7_readDeed_100 (by decide) ?_
          refine r_ldc2 C wc_X7_95 dX7_readDeed_101 ?_
          refine aft_rd (st' := [.int (s_X7_in ((((s_X7_here ty (((s_X7_here ty ap tp).2) + 1) tp).1) - (65 : Int32)).toInt64) (0 : Int64) (11 : Int64)), .ref o]) (run_S (rest := [.ref o]) C (c_X7_in l D ((((s_X7_here ty (((s_X7_here ty ap tp).2) + 1) tp).1) - (65 : Int32)).toInt64) (0 : Int64) (11 : Int64) ) ok_X7_in ws_X7_in wm_X7_87 [] rfl ⟨Nat.le_of_ble_eq_true rfl, Nat.le_of_ble_eq_true rfl⟩ rfl rfl (Nat.le_of_ble_eq_true rfl) dX7_readDeed_104) rfl ?_
          refine r_ifne C (tgt := 114) dX7_readDeed_107 (by decide) (fun c8 => ?_) (fun c8 => ?_)
          · rw [if_neg c8] at hv
            refine r_ic C (v := (0 : Int32)) dX7_readDeed_114 (by decide) ?_
            refine pf_X7_148 C (ws2 := wM D o q1 q2 q3 q4 q5 q6 q7 q8 q9 q10 q11 q12 q13 q14 q15 q16 q17 q18 q19 q20 q21 q22 pe n la ri td ys ty ((s_X7_here ty (((s_X7_here ty ap tp).2) + 1) tp).2) (0 : Int32) rd sm bt up lw ii kd dy nd co od wo tp rk ry rn vs bs ch tr en du ol ig ln sz it mo) h0 rfl 0 rfl (Nat.le_of_ble_eq_true rfl) rfl rfl dX7_readDeed_115 rfl rfl ?_
            refine r_aln C dX7_readDeed_118 rfl 3 rfl ?_
            refine r_dup C dX7_readDeed_119 rfl ?_
            refine gf_X7_141 C 0 rfl rfl dX7_readDeed_120 ?_
            refine r_aln C dX7_readDeed_123 rfl 3 rfl ?_
            refine gf_X7_148 C 0 rfl rfl dX7_readDeed_124 ?_
            refine r_ifeq C (tgt := 134) dX7_readDeed_127 (by decide) (fun c9 => ?_) (fun c9 => ?_)
            · skip
              have hlt2 : ((s_X7_here ty (((s_X7_here ty ap tp).2) + 1) tp).2) < ty := here_lt hty (by omega) (day_c c8)
              refine r_ic C (v := (1 : Int32)) dX7_readDeed_134 (by decide) ?_
              refine r_iadd C dX7_readDeed_135 ?_
              refine r_top (nv_add rfl rfl) ?_
              refine pf_X7_141 C (ws2 := wM D o q1 q2 q3 q4 q5 q6 q7 q8 q9 q10 q11 q12 q13 q14 q15 q16 q17 q18 q19 q20 q21 q22 pe n la ri td ys ty (((s_X7_here ty (((s_X7_here ty ap tp).2) + 1) tp).2) + 1) (0 : Int32) rd sm bt up lw ii kd dy nd co od wo tp rk ry rn vs bs ch tr en du ol ig ln sz it mo) h0 rfl 0 rfl (Nat.le_of_ble_eq_true rfl) dX7_readDeed_136 rfl rfl ?_
              refine r_ic C (v := (0 : Int32)) dX7_readDeed_139 (by decide) ?_
              refine r_is C (lv' := [(4, .int (0 : Int32)), (3, .int (((s_X7_here ty (((s_X7_here ty ap tp).2) + 1) tp).1) - (65 : Int32))), (2, .int (s_X7_readDeed_m47_0 ty ap tp)), (1, .int ((s_X7_here ty ap tp).1)), (0, .ref o)]) dX7_readDeed_140 (by decide) rfl ?_
              refine r_aln C dX7_readDeed_142 rfl 4 rfl ?_
              refine gf_X7_148 C 0 rfl rfl dX7_readDeed_143 ?_
              refine r_ifne C (tgt := 170) dX7_readDeed_146 (by decide) (fun c10 => ?_) (fun c10 => ?_)
              · exact absurd (by decide) c10
              · skip
                refine r_aln C dX7_readDeed_149 rfl 4 rfl ?_
                refine aft_wa (ws2 := wM D o q1 q2 q3 q4 q5 q6 q7 q8 q9 q10 q11 q12 q13 q14 q15 q16 q17 q18 q19 q20 q21 q22 pe n la ri td ys ty ((s_X7_here ty (((s_X7_here ty (((s_X7_here ty ap tp).2) + 1) tp).2) + 1) tp).2) (0 : Int32) rd sm bt up lw ii kd dy nd co od wo tp rk ry rn vs bs ch tr en du ol ig ln sz it mo) (st' := [.int ((s_X7_here ty (((s_X7_here ty (((s_X7_here ty ap tp).2) + 1) tp).2) + 1) tp).1)]) h0 rfl rfl (run_V (rest := []) C (c_X7_here l D o q1 q2 q3 q4 q5 q6 q7 q8 q9 q10 q11 q12 q13 q14 q15 q16 q17 q18 q19 q20 q21 q22 pe n la ri td ys ty (((s_X7_here ty (((s_X7_here ty ap tp).2) + 1) tp).2) + 1) (0 : Int32) rd sm bt up lw ii kd dy nd co od wo tp rk ry rn vs bs ch tr en du ol ig ln sz it mo (by omega) (by omega) (dis_all h0 rfl)) ok_X7_here wn_X7_here wl_X7_here wm_X7_144 _ 0 rfl rfl rfl ⟨Nat.le_of_ble_eq_true rfl, Nat.le_of_ble_eq_true rfl⟩ fm_all rfl (Nat.le_of_ble_eq_true rfl) dX7_readDeed_150) rfl rfl ?_
                refine r_i2l C dX7_readDeed_153 ?_
                refine r_ldc2 C wc_X7_152 dX7_readDeed_154 ?_
                refine r_ldc2 C wc_X7_154 dX7_readDeed_157 ?_
                refine aft_rd (st' := [.int (s_X7_in (((s_X7_here ty (((s_X7_here ty (((s_X7_here ty ap tp).2) + 1) tp).2) + 1) tp).1).toInt64) (97 : Int64) (108 : Int64))]) (run_S (rest := []) C (c_X7_in l D (((s_X7_here ty (((s_X7_here ty (((s_X7_here ty ap tp).2) + 1) tp).2) + 1) tp).1).toInt64) (97 : Int64) (108 : Int64) ) ok_X7_in ws_X7_in wm_X7_87 [] rfl ⟨Nat.le_of_ble_eq_true rfl, Nat.le_of_ble_eq_true rfl⟩ rfl rfl (Nat.le_of_ble_eq_true rfl) dX7_readDeed_160) rfl ?_
                refine r_ifeq C (tgt := 170) dX7_readDeed_163 (by decide) (fun c11 => ?_) (fun c11 => ?_)
                · rw [if_pos c11] at hv
                  have hle3 : ((s_X7_here ty (((s_X7_here ty (((s_X7_here ty ap tp).2) + 1) tp).2) + 1) tp).2) ≤ ty := by first | omega | exact here_le (by omega)
                  refine r_ic C (v := (0 : Int32)) dX7_readDeed_170 (by decide) ?_
                  refine r_is C (lv' := [(5, .int (0 : Int32)), (4, .int (0 : Int32)), (3, .int (((s_X7_here ty (((s_X7_here ty ap tp).2) + 1) tp).1) - (65 : Int32))), (2, .int (s_X7_readDeed_m47_0 ty ap tp)), (1, .int ((s_X7_here ty ap tp).1)), (0, .ref o)]) dX7_readDeed_171 (by decide) rfl ?_
                  refine r_il C dX7_readDeed_173 0 rfl ?_
                  refine r_ifeq C (tgt := 291) dX7_readDeed_175 (by decide) (fun c12 => ?_) (fun c12 => ?_)
                  · skip
                    refine r_aln C dX7_readDeed_291 rfl 5 rfl ?_
                    refine gf_X7_31 C 0 rfl rfl dX7_readDeed_292 ?_
                    refine r_aln C dX7_readDeed_295 rfl 5 rfl ?_
                    refine gf_X7_156 C 0 rfl rfl dX7_readDeed_296 ?_
                    refine r_iln C dX7_readDeed_299 rfl 3 rfl ?_
                    refine r_iast C (ws2 := wM D o q1 q2 q3 q4 q5 q6 q7 q8 q9 q10 q11 q12 q13 q14 q15 q16 q17 q18 q19 q20 q21 q22 pe n la ri td ys ty ((s_X7_here ty (((s_X7_here ty (((s_X7_here ty ap tp).2) + 1) tp).2) + 1) tp).2) (0 : Int32) rd sm bt up lw ii kd dy nd co od wo tp (upd rk rd (s_X7_readDeed_m47_0 ty ap tp)) ry rn vs bs ch tr en du ol ig ln sz it mo) h0 rfl 8 rd rfl rfl (by omega) (by decide) dX7_readDeed_300 rfl rfl ?_
                    refine r_aln C dX7_readDeed_301 rfl 5 rfl ?_
                    refine gf_X7_34 C 0 rfl rfl dX7_readDeed_302 ?_
                    refine r_aln C dX7_readDeed_305 rfl 5 rfl ?_
                    refine gf_X7_156 C 0 rfl rfl dX7_readDeed_306 ?_
                    refine r_iln C dX7_readDeed_309 rfl 2 rfl ?_
                    refine r_iast C (ws2 := wM D o q1 q2 q3 q4 q5 q6 q7 q8 q9 q10 q11 q12 q13 q14 q15 q16 q17 q18 q19 q20 q21 q22 pe n la ri td ys ty ((s_X7_here ty (((s_X7_here ty (((s_X7_here ty ap tp).2) + 1) tp).2) + 1) tp).2) (0 : Int32) rd sm bt up lw ii kd dy nd co od wo tp (upd rk rd (s_X7_readDeed_m47_0 ty ap tp)) (upd ry rd (((s_X7_here ty (((s_X7_here ty ap tp).2) + 1) tp).1) - (65 : Int32))) rn vs bs ch tr en du ol ig ln sz it mo) h0 rfl 9 rd rfl rfl (by omega) (by decide) dX7_readDeed_310 rfl rfl ?_
                    refine r_aln C dX7_readDeed_311 rfl 5 rfl ?_
                    refine gf_X7_37 C 0 rfl rfl dX7_readDeed_312 ?_
                    refine r_aln C dX7_readDeed_315 rfl 5 rfl ?_
                    refine gf_X7_156 C 0 rfl rfl dX7_readDeed_316 ?_
                    refine r_il C dX7_readDeed_319 1 rfl ?_
                    refine r_iast C (ws2 := wM D o q1 q2 q3 q4 q5 q6 q7 q8 q9 q10 q11 q12 q13 q14 q15 q16 q17 q18 q19 q20 q21 q22 pe n la ri td ys ty ((s_X7_here ty (((s_X7_here ty (((s_X7_here ty ap tp).2) + 1) tp).2) + 1) tp).2) (0 : Int32) rd sm bt up lw ii kd dy nd co od wo tp (upd rk rd (s_X7_readDeed_m47_0 ty ap tp)) (upd ry rd (((s_X7_here ty (((s_X7_here ty ap tp).2) + 1) tp).1) - (65 : Int32))) (upd rn rd (0 : Int32)) vs bs ch tr en du ol ig ln sz it mo) h0 rfl 10 rd rfl rfl (by omega) (by decide) dX7_readDeed_321 rfl rfl ?_
                    refine r_aln C dX7_readDeed_322 rfl 5 rfl ?_
                    refine r_dup C dX7_readDeed_323 rfl ?_
                    refine gf_X7_156 C 0 rfl rfl dX7_readDeed_324 ?_
                    refine r_ic C (v := (1 : Int32)) dX7_readDeed_327 (by decide) ?_
                    refine r_iadd C dX7_readDeed_328 ?_
                    refine r_top (nv_add rfl rfl) ?_
                    refine pf_X7_156 C (ws2 := wM D o q1 q2 q3 q4 q5 q6 q7 q8 q9 q10 q11 q12 q13 q14 q15 q16 q17 q18 q19 q20 q21 q22 pe n la ri td ys ty ((s_X7_here ty (((s_X7_here ty (((s_X7_here ty ap tp).2) + 1) tp).2) + 1) tp).2) (0 : Int32) (rd + 1) sm bt up lw ii kd dy nd co od wo tp (upd rk rd (s_X7_readDeed_m47_0 ty ap tp)) (upd ry rd (((s_X7_here ty (((s_X7_here ty ap tp).2) + 1) tp).1) - (65 : Int32))) (upd rn rd (0 : Int32)) vs bs ch tr en du ol ig ln sz it mo) h0 rfl 0 rfl (Nat.le_of_ble_eq_true rfl) dX7_readDeed_329 rfl rfl ?_
                    exact r_vret rfl C (by rw [← hv]) dX7_readDeed_332
                  · exact absurd (by decide) c12
                · rw [if_neg c11] at hv
                  have hlt3 : ((s_X7_here ty (((s_X7_here ty (((s_X7_here ty ap tp).2) + 1) tp).2) + 1) tp).2) < ty := here_lt hty (by omega) (need_c c11)
                  refine r_ic C (v := (1 : Int32)) dX7_readDeed_166 (by decide) ?_
                  refine r_goto C (tgt := 171) dX7_readDeed_167 (by decide) ?_
                  refine r_is C (lv' := [(5, .int (1 : Int32)), (4, .int (0 : Int32)), (3, .int (((s_X7_here ty (((s_X7_here ty ap tp).2) + 1) tp).1) - (65 : Int32))), (2, .int (s_X7_readDeed_m47_0 ty ap tp)), (1, .int ((s_X7_here ty ap tp).1)), (0, .ref o)]) dX7_readDeed_171 (by decide) rfl ?_
                  have X19 : ∀ (need_15 : Int32) (more_16 : Nat) (ap_17 : Nat) (wg_18 : Int32), (ap_17, wg_18, rd + 1, upd rk rd (s_X7_readDeed_m47_0 ty ap tp), upd ry rd (((s_X7_here ty (((s_X7_here ty ap tp).2) + 1) tp).1) - (65 : Int32)), upd rn rd need_15) = V → GM p_ l e_ s_ m_ below_ meth_ c_ D 1 25 7 [.ref o] (wM D o q1 q2 q3 q4 q5 q6 q7 q8 q9 q10 q11 q12 q13 q14 q15 q16 q17 q18 q19 q20 q21 q22 pe n la ri td ys ty V.1 V.2.1 V.2.2.1 sm bt up lw ii kd dy nd co od wo tp V.2.2.2.1 V.2.2.2.2.1 V.2.2.2.2.2 vs bs ch tr en du ol ig ln sz it mo) (Ad (wM D o q1 q2 q3 q4 q5 q6 q7 q8 q9 q10 q11 q12 q13 q14 q15 q16 q17 q18 q19 q20 q21 q22 pe n la ri td ys ty ap wg rd sm bt up lw ii kd dy nd co od wo tp rk ry rn vs bs ch tr en du ol ig ln sz it mo)) (none) (wM D o q1 q2 q3 q4 q5 q6 q7 q8 q9 q10 q11 q12 q13 q14 q15 q16 q17 q18 q19 q20 q21 q22 pe n la ri td ys ty ap_17 wg_18 rd sm bt up lw ii kd dy nd co od wo tp rk ry rn vs bs ch tr en du ol ig ln sz it mo) 291 [(5, .int (nI more_16)), (4, .int need_15), (3, .int (((s_X7_here ty (((s_X7_here ty ap tp).2) + 1) tp).1) - (65 : Int32))), (2, .int (s_X7_readDeed_m47_0 ty ap tp)), (1, .int ((s_X7_here ty ap tp).1)), (0, .ref o)] [] := by
                    intro need_15 more_16 ap_17 wg_18 hv
                    refine r_aln C dX7_readDeed_291 rfl 5 rfl ?_
                    refine gf_X7_31 C 0 rfl rfl dX7_readDeed_292 ?_
                    refine r_aln C dX7_readDeed_295 rfl 5 rfl ?_
                    refine gf_X7_156 C 0 rfl rfl dX7_readDeed_296 ?_
                    refine r_iln C dX7_readDeed_299 rfl 3 rfl ?_
                    refine r_iast C (ws2 := wM D o q1 q2 q3 q4 q5 q6 q7 q8 q9 q10 q11 q12 q13 q14 q15 q16 q17 q18 q19 q20 q21 q22 pe n la ri td ys ty ap_17 wg_18 rd sm bt up lw ii kd dy nd co od wo tp (upd rk rd (s_X7_readDeed_m47_0 ty ap tp)) ry rn vs bs ch tr en du ol ig ln sz it mo) h0 rfl 8 rd rfl rfl (by omega) (by decide) dX7_readDeed_300 rfl rfl ?_
                    refine r_aln C dX7_readDeed_301 rfl 5 rfl ?_
                    refine gf_X7_34 C 0 rfl rfl dX7_readDeed_302 ?_
                    refine r_aln C dX7_readDeed_305 rfl 5 rfl ?_
                    refine gf_X7_156 C 0 rfl rfl dX7_readDeed_306 ?_
                    refine r_iln C dX7_readDeed_309 rfl 2 rfl ?_
                    refine r_iast C (ws2 := wM D o q1 q2 q3 q4 q5 q6 q7 q8 q9 q10 q11 q12 q13 q14 q15 q16 q17 q18 q19 q20 q21 q22 pe n la ri td ys ty ap_17 wg_18 rd sm bt up lw ii kd dy nd co od wo tp (upd rk rd (s_X7_readDeed_m47_0 ty ap tp)) (upd ry rd (((s_X7_here ty (((s_X7_here ty ap tp).2) + 1) tp).1) - (65 : Int32))) rn vs bs ch tr en du ol ig ln sz it mo) h0 rfl 9 rd rfl rfl (by omega) (by decide) dX7_readDeed_310 rfl rfl ?_
                    refine r_aln C dX7_readDeed_311 rfl 5 rfl ?_
                    refine gf_X7_37 C 0 rfl rfl dX7_readDeed_312 ?_
                    refine r_aln C dX7_readDeed_315 rfl 5 rfl ?_
                    refine gf_X7_156 C 0 rfl rfl dX7_readDeed_316 ?_
                    refine r_il C dX7_readDeed_319 1 rfl ?_
                    refine r_iast C (ws2 := wM D o q1 q2 q3 q4 q5 q6 q7 q8 q9 q10 q11 q12 q13 q14 q15 q16 q17 q18 q19 q20 q21 q22 pe n la ri td ys ty ap_17 wg_18 rd sm bt up lw ii kd dy nd co od wo tp (upd rk rd (s_X7_readDeed_m47_0 ty ap tp)) (upd ry rd (((s_X7_here ty (((s_X7_here ty ap tp).2) + 1) tp).1) - (65 : Int32))) (upd rn rd need_15) vs bs ch tr en du ol ig ln sz it mo) h0 rfl 10 rd rfl rfl (by omega) (by decide) dX7_readDeed_321 rfl rfl ?_
                    refine r_aln C dX7_readDeed_322 rfl 5 rfl ?_
                    refine r_dup C dX7_readDeed_323 rfl ?_
                    refine gf_X7_156 C 0 rfl rfl dX7_readDeed_324 ?_
                    refine r_ic C (v := (1 : Int32)) dX7_readDeed_327 (by decide) ?_
                    refine r_iadd C dX7_readDeed_328 ?_
                    refine r_top (nv_add rfl rfl) ?_
                    refine pf_X7_156 C (ws2 := wM D o q1 q2 q3 q4 q5 q6 q7 q8 q9 q10 q11 q12 q13 q14 q15 q16 q17 q18 q19 q20 q21 q22 pe n la ri td ys ty ap_17 wg_18 (rd + 1) sm bt up lw ii kd dy nd co od wo tp (upd rk rd (s_X7_readDeed_m47_0 ty ap tp)) (upd ry rd (((s_X7_here ty (((s_X7_here ty ap tp).2) + 1) tp).1) - (65 : Int32))) (upd rn rd need_15) vs bs ch tr en du ol ig ln sz it mo) h0 rfl 0 rfl (Nat.le_of_ble_eq_true rfl) dX7_readDeed_329 rfl rfl ?_
                    exact r_vret rfl C (by rw [← hv]) dX7_readDeed_332
                  have L32 : ∀ (k13 : Nat) (need_15 : Int32) (more_16 : Nat) (ap_17 : Nat) (wg_18 : Int32), (ap_17 ≤ ty ∧ more_16 ≤ 1 ∧ (more_16 = 0 ∨ (ap_17 < ty ∧ ty ≤ ap_17 + k13))) → (more_16 = 0 ∨ ¬ (s_X7_here ty ap_17 tp).1 = (0 : Int32)) → (((s_X7_readDeed_L173 ty ap rd tp ry k13 need_15 more_16 ap_17 wg_18).2.2.1), ((s_X7_readDeed_L173 ty ap rd tp ry k13 need_15 more_16 ap_17 wg_18).2.2.2), rd + 1, upd rk rd (s_X7_readDeed_m47_0 ty ap tp), upd ry rd (((s_X7_here ty (((s_X7_here ty ap tp).2) + 1) tp).1) - (65 : Int32)), upd rn rd ((s_X7_readDeed_L173 ty ap rd tp ry k13 need_15 more_16 ap_17 wg_18).1)) = V → GM p_ l e_ s_ m_ below_ meth_ c_ D 1 25 7 [.ref o] (wM D o q1 q2 q3 q4 q5 q6 q7 q8 q9 q10 q11 q12 q13 q14 q15 q16 q17 q18 q19 q20 q21 q22 pe n la ri td ys ty V.1 V.2.1 V.2.2.1 sm bt up lw ii kd dy nd co od wo tp V.2.2.2.1 V.2.2.2.2.1 V.2.2.2.2.2 vs bs ch tr en du ol ig ln sz it mo) (Ad (wM D o q1 q2 q3 q4 q5 q6 q7 q8 q9 q10 q11 q12 q13 q14 q15 q16 q17 q18 q19 q20 q21 q22 pe n la ri td ys ty ap wg rd sm bt up lw ii kd dy nd co od wo tp rk ry rn vs bs ch tr en du ol ig ln sz it mo)) (none) (wM D o q1 q2 q3 q4 q5 q6 q7 q8 q9 q10 q11 q12 q13 q14 q15 q16 q17 q18 q19 q20 q21 q22 pe n la ri td ys ty ap_17 wg_18 rd sm bt up lw ii kd dy nd co od wo tp rk ry rn vs bs ch tr en du ol ig ln sz it mo) 173 [(5, .int (nI more_16)), (4, .int need_15), (3, .int (((s_X7_here ty (((s_X7_here ty ap tp).2) + 1) tp).1) - (65 : Int32))), (2, .int (s_X7_readDeed_m47_0 ty ap tp)), (1, .int ((s_X7_here ty ap tp).1)), (0, .ref o)] [] := by
                    intro k13
                    induction k13 with
                    | zero =>
                      intro need_15 more_16 ap_17 wg_18 hk hm1 hv
                      have hv : (ap_17, wg_18, rd + 1, upd rk rd (s_X7_readDeed_m47_0 ty ap tp), upd ry rd (((s_X7_here ty (((s_X7_here ty ap tp).2) + 1) tp).1) - (65 : Int32)), upd rn rd need_15) = V := hv
                      refine r_il C dX7_readDeed_173 0 rfl ?_
                      refine r_ifeq C (tgt := 291) dX7_readDeed_175 (by decide) (fun c20 => ?_) (fun c20 => ?_)
                      · skip
                        exact X19 need_15 more_16 ap_17 wg_18 hv
                      · exact absurd ((nv_eq (a := more_16) (b := 0) rfl rfl (by omega) (by omega)).mpr (by omega)) c20
                    | succ k13 ih21 =>
                      intro need_15 more_16 ap_17 wg_18 hk hm1 hv
                      have hv : (((if nI more_16 = (0 : Int32) then (need_15, more_16, ap_17, wg_18) else (if ((s_X7_ahead ry rd (((s_X7_here ty (((s_X7_here ty ap tp).2) + 1) tp).1) - (65 : Int32))) >>> ((((s_X7_here ty ap_17 tp).1) - (97 : Int32)) &&& 31)) &&& (1 : Int32) = (0 : Int32) then (s_X7_readDeed_L173 ty ap rd tp ry k13 (need_15 ||| ((1 : Int32) <<< ((((s_X7_here ty ap_17 tp).1) - (97 : Int32)) &&& 31))) 0 (((s_X7_here ty ap_17 tp).2) + 0) (1 : Int32)) else (if (need_15 >>> ((((s_X7_here ty ap_17 tp).1) - (97 : Int32)) &&& 31)) &&& (1 : Int32) = (1 : Int32) then (s_X7_readDeed_L173 ty ap rd tp ry k13 (need_15 ||| ((1 : Int32) <<< ((((s_X7_here ty ap_17 tp).1) - (97 : Int32)) &&& 31))) 0 (((s_X7_here ty ap_17 tp).2) + 0) (1 : Int32)) else (if s_X7_in (((s_X7_here ty (((s_X7_here ty ap_17 tp).2) + 1) tp).1).toInt64) (97 : Int64) (108 : Int64) = (0 : Int32) then (s_X7_readDeed_L173 ty ap rd tp ry k13 (need_15 ||| ((1 : Int32) <<< ((((s_X7_here ty ap_17 tp).1) - (97 : Int32)) &&& 31))) 0 ((s_X7_here ty (((s_X7_here ty ap_17 tp).2) + 1) tp).2) (0 : Int32)) else (s_X7_readDeed_L173 ty ap rd tp ry k13 (need_15 ||| ((1 : Int32) <<< ((((s_X7_here ty ap_17 tp).1) - (97 : Int32)) &&& 31))) 1 ((s_X7_here ty (((s_X7_here ty ap_17 tp).2) + 1) tp).2) (0 : Int32)))))).2.2.1), ((if nI more_16 = (0 : Int32) then (need_15, more_16, ap_17, wg_18) else (if ((s_X7_ahead ry rd (((s_X7_here ty (((s_X7_here ty ap tp).2) + 1) tp).1) - (65 : Int32))) >>> ((((s_X7_here ty ap_17 tp).1) - (97 : Int32)) &&& 31)) &&& (1 : Int32) = (0 : Int32) then (s_X7_readDeed_L173 ty ap rd tp ry k13 (need_15 ||| ((1 : Int32) <<< ((((s_X7_here ty ap_17 tp).1) - (97 : Int32)) &&& 31))) 0 (((s_X7_here ty ap_17 tp).2) + 0) (1 : Int32)) else (if (need_15 >>> ((((s_X7_here ty ap_17 tp).1) - (97 : Int32)) &&& 31)) &&& (1 : Int32) = (1 : Int32) then (s_X7_readDeed_L173 ty ap rd tp ry k13 (need_15 ||| ((1 : Int32) <<< ((((s_X7_here ty ap_17 tp).1) - (97 : Int32)) &&& 31))) 0 (((s_X7_here ty ap_17 tp).2) + 0) (1 : Int32)) else (if s_X7_in (((s_X7_here ty (((s_X7_here ty ap_17 tp).2) + 1) tp).1).toInt64) (97 : Int64) (108 : Int64) = (0 : Int32) then (s_X7_readDeed_L173 ty ap rd tp ry k13 (need_15 ||| ((1 : Int32) <<< ((((s_X7_here ty ap_17 tp).1) - (97 : Int32)) &&& 31))) 0 ((s_X7_here ty (((s_X7_here ty ap_17 tp).2) + 1) tp).2) (0 : Int32)) else (s_X7_readDeed_L173 ty ap rd tp ry k13 (need_15 ||| ((1 : Int32) <<< ((((s_X7_here ty ap_17 tp).1) - (97 : Int32)) &&& 31))) 1 ((s_X7_here ty (((s_X7_here ty ap_17 tp).2) + 1) tp).2) (0 : Int32)))))).2.2.2), rd + 1, upd rk rd (s_X7_readDeed_m47_0 ty ap tp), upd ry rd (((s_X7_here ty (((s_X7_here ty ap tp).2) + 1) tp).1) - (65 : Int32)), upd rn rd ((if nI more_16 = (0 : Int32) then (need_15, more_16, ap_17, wg_18) else (if ((s_X7_ahead ry rd (((s_X7_here ty (((s_X7_here ty ap tp).2) + 1) tp).1) - (65 : Int32))) >>> ((((s_X7_here ty ap_17 tp).1) - (97 : Int32)) &&& 31)) &&& (1 : Int32) = (0 : Int32) then (s_X7_readDeed_L173 ty ap rd tp ry k13 (need_15 ||| ((1 : Int32) <<< ((((s_X7_here ty ap_17 tp).1) - (97 : Int32)) &&& 31))) 0 (((s_X7_here ty ap_17 tp).2) + 0) (1 : Int32)) else (if (need_15 >>> ((((s_X7_here ty ap_17 tp).1) - (97 : Int32)) &&& 31)) &&& (1 : Int32) = (1 : Int32) then (s_X7_readDeed_L173 ty ap rd tp ry k13 (need_15 ||| ((1 : Int32) <<< ((((s_X7_here ty ap_17 tp).1) - (97 : Int32)) &&& 31))) 0 (((s_X7_here ty ap_17 tp).2) + 0) (1 : Int32)) else (if s_X7_in (((s_X7_here ty (((s_X7_here ty ap_17 tp).2) + 1) tp).1).toInt64) (97 : Int64) (108 : Int64) = (0 : Int32) then (s_X7_readDeed_L173 ty ap rd tp ry k13 (need_15 ||| ((1 : Int32) <<< ((((s_X7_here ty ap_17 tp).1) - (97 : Int32)) &&& 31))) 0 ((s_X7_here ty (((s_X7_here ty ap_17 tp).2) + 1) tp).2) (0 : Int32)) else (s_X7_readDeed_L173 ty ap rd tp ry k13 (need_15 ||| ((1 : Int32) <<< ((((s_X7_here ty ap_17 tp).1) - (97 : Int32)) &&& 31))) 1 ((s_X7_here ty (((s_X7_here ty ap_17 tp).2) + 1) tp).2) (0 : Int32)))))).1)) = V := hv
                      refine r_il C dX7_readDeed_173 0 rfl ?_
                      refine r_ifeq C (tgt := 291) dX7_readDeed_175 (by decide) (fun c22 => ?_) (fun c22 => ?_)
                      · rw [if_pos c22] at hv
                        have fc22 : more_16 = 0 := (nv_eq (a := more_16) (b := 0) rfl rfl (by omega) (by omega)).mp c22
                        exact X19 need_15 more_16 ap_17 wg_18 hv
                      · rw [if_neg c22] at hv
                        have fc22 : ¬ (more_16 = 0) := fun z => c22 ((nv_eq (a := more_16) (b := 0) rfl rfl (by omega) (by omega)).mpr z)
                        refine r_aln C dX7_readDeed_178 rfl 5 rfl ?_
                        refine aft_wa (ws2 := wM D o q1 q2 q3 q4 q5 q6 q7 q8 q9 q10 q11 q12 q13 q14 q15 q16 q17 q18 q19 q20 q21 q22 pe n la ri td ys ty ((s_X7_here ty ap_17 tp).2) wg_18 rd sm bt up lw ii kd dy nd co od wo tp rk ry rn vs bs ch tr en du ol ig ln sz it mo) (st' := [.int ((s_X7_here ty ap_17 tp).1)]) h0 rfl rfl (run_V (rest := []) C (c_X7_here l D o q1 q2 q3 q4 q5 q6 q7 q8 q9 q10 q11 q12 q13 q14 q15 q16 q17 q18 q19 q20 q21 q22 pe n la ri td ys ty ap_17 wg_18 rd sm bt up lw ii kd dy nd co od wo tp rk ry rn vs bs ch tr en du ol ig ln sz it mo (by omega) (by omega) (dis_all h0 rfl)) ok_X7_here wn_X7_here wl_X7_here wm_X7_144 _ 0 rfl rfl rfl ⟨Nat.le_of_ble_eq_true rfl, Nat.le_of_ble_eq_true rfl⟩ fm_all rfl (Nat.le_of_ble_eq_true rfl) dX7_readDeed_179) rfl rfl ?_
                        have hge4 : _ ≤ ((s_X7_here ty ap_17 tp).2) := here_ge (by omega)
                        have hle4 : ((s_X7_here ty ap_17 tp).2) ≤ ty := here_le (by omega)
                        refine r_bp C (v := (97 : Int32)) dX7_readDeed_182 (by decide) ?_
                        refine r_isub C dX7_readDeed_184 ?_
                        refine r_is C (lv' := [(6, .int (((s_X7_here ty ap_17 tp).1) - (97 : Int32))), (5, .int (nI more_16)), (4, .int need_15), (3, .int (((s_X7_here ty (((s_X7_here ty ap tp).2) + 1) tp).1) - (65 : Int32))), (2, .int (s_X7_readDeed_m47_0 ty ap tp)), (1, .int ((s_X7_here ty ap tp).1)), (0, .ref o)]) dX7_readDeed_185 (by decide) rfl ?_
                        refine r_aln C dX7_readDeed_187 rfl 6 rfl ?_
                        refine r_aln C dX7_readDeed_188 rfl 6 rfl ?_
                        refine gf_X7_156 C 0 rfl rfl dX7_readDeed_189 ?_
                        refine r_iln C dX7_readDeed_192 rfl 3 rfl ?_
                        refine r_aln C dX7_readDeed_193 rfl 6 rfl ?_
                        refine gf_X7_34 C 0 rfl rfl dX7_readDeed_194 ?_
                        refine aft_rd (st' := [.int (s_X7_ahead ry rd (((s_X7_here ty (((s_X7_here ty ap tp).2) + 1) tp).1) - (65 : Int32))), .ref o]) (run_S (rest := [.ref o]) C (c_X7_ahead l D q9 ry rd (((s_X7_here ty (((s_X7_here ty ap tp).2) + 1) tp).1) - (65 : Int32)) (by omega)) ok_X7_ahead ws_X7_ahead wm_X7_97 [9] rfl ⟨Nat.le_of_ble_eq_true rfl, Nat.le_of_ble_eq_true rfl⟩ rfl rfl (Nat.le_of_ble_eq_true rfl) dX7_readDeed_197) rfl ?_
                        refine r_il C dX7_readDeed_200 0 rfl ?_
                        refine r_ishr C dX7_readDeed_202 ?_
                        refine r_ic C (v := (1 : Int32)) dX7_readDeed_203 (by decide) ?_
                        refine r_iand C dX7_readDeed_204 ?_
                        refine r_ifeq C (tgt := 219) dX7_readDeed_205 (by decide) (fun c23 => ?_) (fun c23 => ?_)
                        · rw [if_pos c23] at hv
                          refine r_ic C (v := (1 : Int32)) dX7_readDeed_219 (by decide) ?_
                          refine r_goto C (tgt := 224) dX7_readDeed_220 (by decide) ?_
                          refine pf_X7_148 C (ws2 := wM D o q1 q2 q3 q4 q5 q6 q7 q8 q9 q10 q11 q12 q13 q14 q15 q16 q17 q18 q19 q20 q21 q22 pe n la ri td ys ty ((s_X7_here ty ap_17 tp).2) (1 : Int32) rd sm bt up lw ii kd dy nd co od wo tp rk ry rn vs bs ch tr en du ol ig ln sz it mo) h0 rfl 0 rfl (Nat.le_of_ble_eq_true rfl) rfl rfl dX7_readDeed_224 rfl rfl ?_
                          refine r_il C dX7_readDeed_227 2 rfl ?_
                          refine r_ic C (v := (1 : Int32)) dX7_readDeed_229 (by decide) ?_
                          refine r_il C dX7_readDeed_230 0 rfl ?_
                          refine r_ishl C dX7_readDeed_232 ?_
                          refine r_ior C dX7_readDeed_233 ?_
                          refine r_is C (lv' := [(4, .int (need_15 ||| ((1 : Int32) <<< ((((s_X7_here ty ap_17 tp).1) - (97 : Int32)) &&& 31)))), (6, .int (((s_X7_here ty ap_17 tp).1) - (97 : Int32))), (5, .int (nI more_16)), (3, .int (((s_X7_here ty (((s_X7_here ty ap tp).2) + 1) tp).1) - (65 : Int32))), (2, .int (s_X7_readDeed_m47_0 ty ap tp)), (1, .int ((s_X7_here ty ap tp).1)), (0, .ref o)]) dX7_readDeed_234 (by decide) rfl ?_
                          refine r_aln C dX7_readDeed_236 rfl 6 rfl ?_
                          refine r_dup C dX7_readDeed_237 rfl ?_
                          refine gf_X7_141 C 0 rfl rfl dX7_readDeed_238 ?_
                          refine r_aln C dX7_readDeed_241 rfl 6 rfl ?_
                          refine gf_X7_148 C 0 rfl rfl dX7_readDeed_242 ?_
                          refine r_ifeq C (tgt := 252) dX7_readDeed_245 (by decide) (fun c24 => ?_) (fun c24 => ?_)
                          · exact absurd c24 (by decide)
                          · skip
                            refine r_ic C (v := (0 : Int32)) dX7_readDeed_248 (by decide) ?_
                            refine r_goto C (tgt := 253) dX7_readDeed_249 (by decide) ?_
                            refine r_iadd C dX7_readDeed_253 ?_
                            refine r_top (nv_add rfl rfl) ?_
                            refine pf_X7_141 C (ws2 := wM D o q1 q2 q3 q4 q5 q6 q7 q8 q9 q10 q11 q12 q13 q14 q15 q16 q17 q18 q19 q20 q21 q22 pe n la ri td ys ty (((s_X7_here ty ap_17 tp).2) + 0) (1 : Int32) rd sm bt up lw ii kd dy nd co od wo tp rk ry rn vs bs ch tr en du ol ig ln sz it mo) h0 rfl 0 rfl (Nat.le_of_ble_eq_true rfl) dX7_readDeed_254 rfl rfl ?_
                            refine r_aln C dX7_readDeed_257 rfl 6 rfl ?_
                            refine gf_X7_148 C 0 rfl rfl dX7_readDeed_258 ?_
                            refine r_ifne C (tgt := 285) dX7_readDeed_261 (by decide) (fun c25 => ?_) (fun c25 => ?_)
                            · skip
                              refine r_ic C (v := (0 : Int32)) dX7_readDeed_285 (by decide) ?_
                              refine r_is C (lv' := [(5, .int (0 : Int32)), (4, .int (need_15 ||| ((1 : Int32) <<< ((((s_X7_here ty ap_17 tp).1) - (97 : Int32)) &&& 31)))), (6, .int (((s_X7_here ty ap_17 tp).1) - (97 : Int32))), (3, .int (((s_X7_here ty (((s_X7_here ty ap tp).2) + 1) tp).1) - (65 : Int32))), (2, .int (s_X7_readDeed_m47_0 ty ap tp)), (1, .int ((s_X7_here ty ap tp).1)), (0, .ref o)]) dX7_readDeed_286 (by decide) rfl ?_
                              refine r_goto C (tgt := 173) dX7_readDeed_288 (by decide) ?_
                              refine r_lv [0, 1, 3, 4, 5, 6] rfl ?_
                              refine r_lve (lv2 := [(5, .int (nI 0)), (4, .int (need_15 ||| ((1 : Int32) <<< ((((s_X7_here ty ap_17 tp).1) - (97 : Int32)) &&& 31)))), (3, .int (((s_X7_here ty (((s_X7_here ty ap tp).2) + 1) tp).1) - (65 : Int32))), (2, .int (s_X7_readDeed_m47_0 ty ap tp)), (1, .int ((s_X7_here ty ap tp).1)), (0, .ref o)]) (congrArg (fun (z : Int32) => ([(5, .int z), (4, .int (need_15 ||| ((1 : Int32) <<< ((((s_X7_here ty ap_17 tp).1) - (97 : Int32)) &&& 31)))), (3, .int (((s_X7_here ty (((s_X7_here ty ap tp).2) + 1) tp).1) - (65 : Int32))), (2, .int (s_X7_readDeed_m47_0 ty ap tp)), (1, .int ((s_X7_here ty ap tp).1)), (0, .ref o)] : List (Nat × Value))) rfl) ?_
                              exact ih21 (need_15 ||| ((1 : Int32) <<< ((((s_X7_here ty ap_17 tp).1) - (97 : Int32)) &&& 31))) 0 (((s_X7_here ty ap_17 tp).2) + 0) (1 : Int32) (by omega) (by first | exact Or.inl rfl | exact Or.inr (by rw [here_idem (by omega)]; exact need_c (by assumption))) hv
                            · exact absurd c25 (by decide)
                        · rw [if_neg c23] at hv
                          refine r_il C dX7_readDeed_208 2 rfl ?_
                          refine r_il C dX7_readDeed_210 0 rfl ?_
                          refine r_ishr C dX7_readDeed_212 ?_
                          refine r_ic C (v := (1 : Int32)) dX7_readDeed_213 (by decide) ?_
                          refine r_iand C dX7_readDeed_214 ?_
                          refine r_ic C (v := (1 : Int32)) dX7_readDeed_215 (by decide) ?_
                          refine r_icne C (tgt := 223) dX7_readDeed_216 (by decide) (fun c26 => ?_) (fun c26 => ?_)
                          · rw [if_neg c26] at hv
                            refine r_ic C (v := (0 : Int32)) dX7_readDeed_223 (by decide) ?_
                            refine pf_X7_148 C (ws2 := wM D o q1 q2 q3 q4 q5 q6 q7 q8 q9 q10 q11 q12 q13 q14 q15 q16 q17 q18 q19 q20 q21 q22 pe n la ri td ys ty ((s_X7_here ty ap_17 tp).2) (0 : Int32) rd sm bt up lw ii kd dy nd co od wo tp rk ry rn vs bs ch tr en du ol ig ln sz it mo) h0 rfl 0 rfl (Nat.le_of_ble_eq_true rfl) rfl rfl dX7_readDeed_224 rfl rfl ?_
                            refine r_il C dX7_readDeed_227 2 rfl ?_
                            refine r_ic C (v := (1 : Int32)) dX7_readDeed_229 (by decide) ?_
                            refine r_il C dX7_readDeed_230 0 rfl ?_
                            refine r_ishl C dX7_readDeed_232 ?_
                            refine r_ior C dX7_readDeed_233 ?_
                            refine r_is C (lv' := [(4, .int (need_15 ||| ((1 : Int32) <<< ((((s_X7_here ty ap_17 tp).1) - (97 : Int32)) &&& 31)))), (6, .int (((s_X7_here ty ap_17 tp).1) - (97 : Int32))), (5, .int (nI more_16)), (3, .int (((s_X7_here ty (((s_X7_here ty ap tp).2) + 1) tp).1) - (65 : Int32))), (2, .int (s_X7_readDeed_m47_0 ty ap tp)), (1, .int ((s_X7_here ty ap tp).1)), (0, .ref o)]) dX7_readDeed_234 (by decide) rfl ?_
                            refine r_aln C dX7_readDeed_236 rfl 6 rfl ?_
                            refine r_dup C dX7_readDeed_237 rfl ?_
                            refine gf_X7_141 C 0 rfl rfl dX7_readDeed_238 ?_
                            refine r_aln C dX7_readDeed_241 rfl 6 rfl ?_
                            refine gf_X7_148 C 0 rfl rfl dX7_readDeed_242 ?_
                            refine r_ifeq C (tgt := 252) dX7_readDeed_245 (by decide) (fun c27 => ?_) (fun c27 => ?_)
                            · skip
                              have hlt4 : ((s_X7_here ty ap_17 tp).2) < ty := here_lt hty (by omega) (hm1.resolve_left (by omega))
                              refine r_ic C (v := (1 : Int32)) dX7_readDeed_252 (by decide) ?_
                              refine r_iadd C dX7_readDeed_253 ?_
                              refine r_top (nv_add rfl rfl) ?_
                              refine pf_X7_141 C (ws2 := wM D o q1 q2 q3 q4 q5 q6 q7 q8 q9 q10 q11 q12 q13 q14 q15 q16 q17 q18 q19 q20 q21 q22 pe n la ri td ys ty (((s_X7_here ty ap_17 tp).2) + 1) (0 : Int32) rd sm bt up lw ii kd dy nd co od wo tp rk ry rn vs bs ch tr en du ol ig ln sz it mo) h0 rfl 0 rfl (Nat.le_of_ble_eq_true rfl) dX7_readDeed_254 rfl rfl ?_
                              refine r_aln C dX7_readDeed_257 rfl 6 rfl ?_
                              refine gf_X7_148 C 0 rfl rfl dX7_readDeed_258 ?_
                              refine r_ifne C (tgt := 285) dX7_readDeed_261 (by decide) (fun c28 => ?_) (fun c28 => ?_)
                              · exact absurd (by decide) c28
                              · skip
                                refine r_aln C dX7_readDeed_264 rfl 6 rfl ?_
                                refine aft_wa (ws2 := wM D o q1 q2 q3 q4 q5 q6 q7 q8 q9 q10 q11 q12 q13 q14 q15 q16 q17 q18 q19 q20 q21 q22 pe n la ri td ys ty ((s_X7_here ty (((s_X7_here ty ap_17 tp).2) + 1) tp).2) (0 : Int32) rd sm bt up lw ii kd dy nd co od wo tp rk ry rn vs bs ch tr en du ol ig ln sz it mo) (st' := [.int ((s_X7_here ty (((s_X7_here ty ap_17 tp).2) + 1) tp).1)]) h0 rfl rfl (run_V (rest := []) C (c_X7_here l D o q1 q2 q3 q4 q5 q6 q7 q8 q9 q10 q11 q12 q13 q14 q15 q16 q17 q18 q19 q20 q21 q22 pe n la ri td ys ty (((s_X7_here ty ap_17 tp).2) + 1) (0 : Int32) rd sm bt up lw ii kd dy nd co od wo tp rk ry rn vs bs ch tr en du ol ig ln sz it mo (by omega) (by omega) (dis_all h0 rfl)) ok_X7_here wn_X7_here wl_X7_here wm_X7_144 _ 0 rfl rfl rfl ⟨Nat.le_of_ble_eq_true rfl, Nat.le_of_ble_eq_true rfl⟩ fm_all rfl (Nat.le_of_ble_eq_true rfl) dX7_readDeed_265) rfl rfl ?_
                                have hge5 : _ ≤ ((s_X7_here ty (((s_X7_here ty ap_17 tp).2) + 1) tp).2) := here_ge (by omega)
                                have hle5 : ((s_X7_here ty (((s_X7_here ty ap_17 tp).2) + 1) tp).2) ≤ ty := here_le (by omega)
                                refine r_i2l C dX7_readDeed_268 ?_
                                refine r_ldc2 C wc_X7_152 dX7_readDeed_269 ?_
                                refine r_ldc2 C wc_X7_154 dX7_readDeed_272 ?_
                                refine aft_rd (st' := [.int (s_X7_in (((s_X7_here ty (((s_X7_here ty ap_17 tp).2) + 1) tp).1).toInt64) (97 : Int64) (108 : Int64))]) (run_S (rest := []) C (c_X7_in l D (((s_X7_here ty (((s_X7_here ty ap_17 tp).2) + 1) tp).1).toInt64) (97 : Int64) (108 : Int64) ) ok_X7_in ws_X7_in wm_X7_87 [] rfl ⟨Nat.le_of_ble_eq_true rfl, Nat.le_of_ble_eq_true rfl⟩ rfl rfl (Nat.le_of_ble_eq_true rfl) dX7_readDeed_275) rfl ?_
                                refine r_ifeq C (tgt := 285) dX7_readDeed_278 (by decide) (fun c29 => ?_) (fun c29 => ?_)
                                · rw [if_pos c29] at hv
                                  refine r_ic C (v := (0 : Int32)) dX7_readDeed_285 (by decide) ?_
                                  refine r_is C (lv' := [(5, .int (0 : Int32)), (4, .int (need_15 ||| ((1 : Int32) <<< ((((s_X7_here ty ap_17 tp).1) - (97 : Int32)) &&& 31)))), (6, .int (((s_X7_here ty ap_17 tp).1) - (97 : Int32))), (3, .int (((s_X7_here ty (((s_X7_here ty ap tp).2) + 1) tp).1) - (65 : Int32))), (2, .int (s_X7_readDeed_m47_0 ty ap tp)), (1, .int ((s_X7_here ty ap tp).1)), (0, .ref o)]) dX7_readDeed_286 (by decide) rfl ?_
                                  refine r_goto C (tgt := 173) dX7_readDeed_288 (by decide) ?_
                                  refine r_lv [0, 1, 3, 4, 5, 6] rfl ?_
                                  refine r_lve (lv2 := [(5, .int (nI 0)), (4, .int (need_15 ||| ((1 : Int32) <<< ((((s_X7_here ty ap_17 tp).1) - (97 : Int32)) &&& 31)))), (3, .int (((s_X7_here ty (((s_X7_here ty ap tp).2) + 1) tp).1) - (65 : Int32))), (2, .int (s_X7_readDeed_m47_0 ty ap tp)), (1, .int ((s_X7_here ty ap tp).1)), (0, .ref o)]) (congrArg (fun (z : Int32) => ([(5, .int z), (4, .int (need_15 ||| ((1 : Int32) <<< ((((s_X7_here ty ap_17 tp).1) - (97 : Int32)) &&& 31)))), (3, .int (((s_X7_here ty (((s_X7_here ty ap tp).2) + 1) tp).1) - (65 : Int32))), (2, .int (s_X7_readDeed_m47_0 ty ap tp)), (1, .int ((s_X7_here ty ap tp).1)), (0, .ref o)] : List (Nat × Value))) rfl) ?_
                                  exact ih21 (need_15 ||| ((1 : Int32) <<< ((((s_X7_here ty ap_17 tp).1) - (97 : Int32)) &&& 31))) 0 ((s_X7_here ty (((s_X7_here ty ap_17 tp).2) + 1) tp).2) (0 : Int32) (by omega) (by first | exact Or.inl rfl | exact Or.inr (by rw [here_idem (by omega)]; exact need_c (by assumption))) hv
                                · rw [if_neg c29] at hv
                                  have hlt5 : ((s_X7_here ty (((s_X7_here ty ap_17 tp).2) + 1) tp).2) < ty := here_lt hty (by omega) (need_c c29)
                                  refine r_ic C (v := (1 : Int32)) dX7_readDeed_281 (by decide) ?_
                                  refine r_goto C (tgt := 286) dX7_readDeed_282 (by decide) ?_
                                  refine r_is C (lv' := [(5, .int (1 : Int32)), (4, .int (need_15 ||| ((1 : Int32) <<< ((((s_X7_here ty ap_17 tp).1) - (97 : Int32)) &&& 31)))), (6, .int (((s_X7_here ty ap_17 tp).1) - (97 : Int32))), (3, .int (((s_X7_here ty (((s_X7_here ty ap tp).2) + 1) tp).1) - (65 : Int32))), (2, .int (s_X7_readDeed_m47_0 ty ap tp)), (1, .int ((s_X7_here ty ap tp).1)), (0, .ref o)]) dX7_readDeed_286 (by decide) rfl ?_
                                  refine r_goto C (tgt := 173) dX7_readDeed_288 (by decide) ?_
                                  refine r_lv [0, 1, 3, 4, 5, 6] rfl ?_
                                  refine r_lve (lv2 := [(5, .int (nI 1)), (4, .int (need_15 ||| ((1 : Int32) <<< ((((s_X7_here ty ap_17 tp).1) - (97 : Int32)) &&& 31)))), (3, .int (((s_X7_here ty (((s_X7_here ty ap tp).2) + 1) tp).1) - (65 : Int32))), (2, .int (s_X7_readDeed_m47_0 ty ap tp)), (1, .int ((s_X7_here ty ap tp).1)), (0, .ref o)]) (congrArg (fun (z : Int32) => ([(5, .int z), (4, .int (need_15 ||| ((1 : Int32) <<< ((((s_X7_here ty ap_17 tp).1) - (97 : Int32)) &&& 31)))), (3, .int (((s_X7_here ty (((s_X7_here ty ap tp).2) + 1) tp).1) - (65 : Int32))), (2, .int (s_X7_readDeed_m47_0 ty ap tp)), (1, .int ((s_X7_here ty ap tp).1)), (0, .ref o)] : List (Nat × Value))) rfl) ?_
                                  exact ih21 (need_15 ||| ((1 : Int32) <<< ((((s_X7_here ty ap_17 tp).1) - (97 : Int32)) &&& 31))) 1 ((s_X7_here ty (((s_X7_here ty ap_17 tp).2) + 1) tp).2) (0 : Int32) (by omega) (by first | exact Or.inl rfl | exact Or.inr (by rw [here_idem (by omega)]; exact need_c (by assumption))) hv
                            · exact absurd (by decide) c27
                          · rw [if_pos c26] at hv
                            refine r_ic C (v := (1 : Int32)) dX7_readDeed_219 (by decide) ?_
                            refine r_goto C (tgt := 224) dX7_readDeed_220 (by decide) ?_
                            refine pf_X7_148 C (ws2 := wM D o q1 q2 q3 q4 q5 q6 q7 q8 q9 q10 q11 q12 q13 q14 q15 q16 q17 q18 q19 q20 q21 q22 pe n la ri td ys ty ((s_X7_here ty ap_17 tp).2) (1 : Int32) rd sm bt up lw ii kd dy nd co od wo tp rk ry rn vs bs ch tr en du ol ig ln sz it mo) h0 rfl 0 rfl (Nat.le_of_ble_eq_true rfl) rfl rfl dX7_readDeed_224 rfl rfl ?_
                            refine r_il C dX7_readDeed_227 2 rfl ?_
                            refine r_ic C (v := (1 : Int32)) dX7_readDeed_229 (by decide) ?_
                            refine r_il C dX7_readDeed_230 0 rfl ?_
                            refine r_ishl C dX7_readDeed_232 ?_
                            refine r_ior C dX7_readDeed_233 ?_
                            refine r_is C (lv' := [(4, .int (need_15 ||| ((1 : Int32) <<< ((((s_X7_here ty ap_17 tp).1) - (97 : Int32)) &&& 31)))), (6, .int (((s_X7_here ty ap_17 tp).1) - (97 : Int32))), (5, .int (nI more_16)), (3, .int (((s_X7_here ty (((s_X7_here ty ap tp).2) + 1) tp).1) - (65 : Int32))), (2, .int (s_X7_readDeed_m47_0 ty ap tp)), (1, .int ((s_X7_here ty ap tp).1)), (0, .ref o)]) dX7_readDeed_234 (by decide) rfl ?_
                            refine r_aln C dX7_readDeed_236 rfl 6 rfl ?_
                            refine r_dup C dX7_readDeed_237 rfl ?_
                            refine gf_X7_141 C 0 rfl rfl dX7_readDeed_238 ?_
                            refine r_aln C dX7_readDeed_241 rfl 6 rfl ?_
                            refine gf_X7_148 C 0 rfl rfl dX7_readDeed_242 ?_
                            refine r_ifeq C (tgt := 252) dX7_readDeed_245 (by decide) (fun c30 => ?_) (fun c30 => ?_)
                            · exact absurd c30 (by decide)
                            · skip
                              refine r_ic C (v := (0 : Int32)) dX7_readDeed_248 (by decide) ?_
                              refine r_goto C (tgt := 253) dX7_readDeed_249 (by decide) ?_
                              refine r_iadd C dX7_readDeed_253 ?_
                              refine r_top (nv_add rfl rfl) ?_
                              refine pf_X7_141 C (ws2 := wM D o q1 q2 q3 q4 q5 q6 q7 q8 q9 q10 q11 q12 q13 q14 q15 q16 q17 q18 q19 q20 q21 q22 pe n la ri td ys ty (((s_X7_here ty ap_17 tp).2) + 0) (1 : Int32) rd sm bt up lw ii kd dy nd co od wo tp rk ry rn vs bs ch tr en du ol ig ln sz it mo) h0 rfl 0 rfl (Nat.le_of_ble_eq_true rfl) dX7_readDeed_254 rfl rfl ?_
                              refine r_aln C dX7_readDeed_257 rfl 6 rfl ?_
                              refine gf_X7_148 C 0 rfl rfl dX7_readDeed_258 ?_
                              refine r_ifne C (tgt := 285) dX7_readDeed_261 (by decide) (fun c31 => ?_) (fun c31 => ?_)
                              · skip
                                refine r_ic C (v := (0 : Int32)) dX7_readDeed_285 (by decide) ?_
                                refine r_is C (lv' := [(5, .int (0 : Int32)), (4, .int (need_15 ||| ((1 : Int32) <<< ((((s_X7_here ty ap_17 tp).1) - (97 : Int32)) &&& 31)))), (6, .int (((s_X7_here ty ap_17 tp).1) - (97 : Int32))), (3, .int (((s_X7_here ty (((s_X7_here ty ap tp).2) + 1) tp).1) - (65 : Int32))), (2, .int (s_X7_readDeed_m47_0 ty ap tp)), (1, .int ((s_X7_here ty ap tp).1)), (0, .ref o)]) dX7_readDeed_286 (by decide) rfl ?_
                                refine r_goto C (tgt := 173) dX7_readDeed_288 (by decide) ?_
                                refine r_lv [0, 1, 3, 4, 5, 6] rfl ?_
                                refine r_lve (lv2 := [(5, .int (nI 0)), (4, .int (need_15 ||| ((1 : Int32) <<< ((((s_X7_here ty ap_17 tp).1) - (97 : Int32)) &&& 31)))), (3, .int (((s_X7_here ty (((s_X7_here ty ap tp).2) + 1) tp).1) - (65 : Int32))), (2, .int (s_X7_readDeed_m47_0 ty ap tp)), (1, .int ((s_X7_here ty ap tp).1)), (0, .ref o)]) (congrArg (fun (z : Int32) => ([(5, .int z), (4, .int (need_15 ||| ((1 : Int32) <<< ((((s_X7_here ty ap_17 tp).1) - (97 : Int32)) &&& 31)))), (3, .int (((s_X7_here ty (((s_X7_here ty ap tp).2) + 1) tp).1) - (65 : Int32))), (2, .int (s_X7_readDeed_m47_0 ty ap tp)), (1, .int ((s_X7_here ty ap tp).1)), (0, .ref o)] : List (Nat × Value))) rfl) ?_
                                exact ih21 (need_15 ||| ((1 : Int32) <<< ((((s_X7_here ty ap_17 tp).1) - (97 : Int32)) &&& 31))) 0 (((s_X7_here ty ap_17 tp).2) + 0) (1 : Int32) (by omega) (by first | exact Or.inl rfl | exact Or.inr (by rw [here_idem (by omega)]; exact need_c (by assumption))) hv
                              · exact absurd c31 (by decide)
                  refine r_lve (lv2 := [(5, .int (nI 1)), (4, .int (0 : Int32)), (3, .int (((s_X7_here ty (((s_X7_here ty ap tp).2) + 1) tp).1) - (65 : Int32))), (2, .int (s_X7_readDeed_m47_0 ty ap tp)), (1, .int ((s_X7_here ty ap tp).1)), (0, .ref o)]) (congrArg (fun (z : Int32) => ([(5, .int z), (4, .int (0 : Int32)), (3, .int (((s_X7_here ty (((s_X7_here ty ap tp).2) + 1) tp).1) - (65 : Int32))), (2, .int (s_X7_readDeed_m47_0 ty ap tp)), (1, .int ((s_X7_here ty ap tp).1)), (0, .ref o)] : List (Nat × Value))) rfl) ?_
                  exact L32 (ty - ((s_X7_here ty (((s_X7_here ty (((s_X7_here ty ap tp).2) + 1) tp).2) + 1) tp).2)) (0 : Int32) 1 ((s_X7_here ty (((s_X7_here ty (((s_X7_here ty ap tp).2) + 1) tp).2) + 1) tp).2) (0 : Int32) (by omega) (Or.inr (by rw [here_idem (by omega)]; exact need_c (by assumption))) hv
            · exact absurd (by decide) c9
          · rw [if_pos c8] at hv
            refine r_ic C (v := (1 : Int32)) dX7_readDeed_110 (by decide) ?_
            refine r_goto C (tgt := 115) dX7_readDeed_111 (by decide) ?_
            refine pf_X7_148 C (ws2 := wM D o q1 q2 q3 q4 q5 q6 q7 q8 q9 q10 q11 q12 q13 q14 q15 q16 q17 q18 q19 q20 q21 q22 pe n la ri td ys ty ((s_X7_here ty (((s_X7_here ty ap tp).2) + 1) tp).2) (1 : Int32) rd sm bt up lw ii kd dy nd co od wo tp rk ry rn vs bs ch tr en du ol ig ln sz it mo) h0 rfl 0 rfl (Nat.le_of_ble_eq_true rfl) rfl rfl dX7_readDeed_115 rfl rfl ?_
            refine r_aln C dX7_readDeed_118 rfl 3 rfl ?_
            refine r_dup C dX7_readDeed_119 rfl ?_
            refine gf_X7_141 C 0 rfl rfl dX7_readDeed_120 ?_
            refine r_aln C dX7_readDeed_123 rfl 3 rfl ?_
            refine gf_X7_148 C 0 rfl rfl dX7_readDeed_124 ?_
            refine r_ifeq C (tgt := 134) dX7_readDeed_127 (by decide) (fun c33 => ?_) (fun c33 => ?_)
            · exact absurd c33 (by decide)
            · skip
              have hle2 : ((s_X7_here ty (((s_X7_here ty ap tp).2) + 1) tp).2) ≤ ty := here_le (by omega)
              refine r_ic C (v := (0 : Int32)) dX7_readDeed_130 (by decide) ?_
              refine r_goto C (tgt := 135) dX7_readDeed_131 (by decide) ?_
              refine r_iadd C dX7_readDeed_135 ?_
              refine r_top (nv_add rfl rfl) ?_
              refine pf_X7_141 C (ws2 := wM D o q1 q2 q3 q4 q5 q6 q7 q8 q9 q10 q11 q12 q13 q14 q15 q16 q17 q18 q19 q20 q21 q22 pe n la ri td ys ty (((s_X7_here ty (((s_X7_here ty ap tp).2) + 1) tp).2) + 0) (1 : Int32) rd sm bt up lw ii kd dy nd co od wo tp rk ry rn vs bs ch tr en du ol ig ln sz it mo) h0 rfl 0 rfl (Nat.le_of_ble_eq_true rfl) dX7_readDeed_136 rfl rfl ?_
              refine r_ic C (v := (0 : Int32)) dX7_readDeed_139 (by decide) ?_
              refine r_is C (lv' := [(4, .int (0 : Int32)), (3, .int (((s_X7_here ty (((s_X7_here ty ap tp).2) + 1) tp).1) - (65 : Int32))), (2, .int (s_X7_readDeed_m47_0 ty ap tp)), (1, .int ((s_X7_here ty ap tp).1)), (0, .ref o)]) dX7_readDeed_140 (by decide) rfl ?_
              refine r_aln C dX7_readDeed_142 rfl 4 rfl ?_
              refine gf_X7_148 C 0 rfl rfl dX7_readDeed_143 ?_
              refine r_ifne C (tgt := 170) dX7_readDeed_146 (by decide) (fun c34 => ?_) (fun c34 => ?_)
              · skip
                have hle3 : (((s_X7_here ty (((s_X7_here ty ap tp).2) + 1) tp).2) + 0) ≤ ty := by first | omega | exact here_le (by omega)
                refine r_ic C (v := (0 : Int32)) dX7_readDeed_170 (by decide) ?_
                refine r_is C (lv' := [(5, .int (0 : Int32)), (4, .int (0 : Int32)), (3, .int (((s_X7_here ty (((s_X7_here ty ap tp).2) + 1) tp).1) - (65 : Int32))), (2, .int (s_X7_readDeed_m47_0 ty ap tp)), (1, .int ((s_X7_here ty ap tp).1)), (0, .ref o)]) dX7_readDeed_171 (by decide) rfl ?_
                refine r_il C dX7_readDeed_173 0 rfl ?_
                refine r_ifeq C (tgt := 291) dX7_readDeed_175 (by decide) (fun c35 => ?_) (fun c35 => ?_)
                · skip
                  refine r_aln C dX7_readDeed_291 rfl 5 rfl ?_
                  refine gf_X7_31 C 0 rfl rfl dX7_readDeed_292 ?_
                  refine r_aln C dX7_readDeed_295 rfl 5 rfl ?_
                  refine gf_X7_156 C 0 rfl rfl dX7_readDeed_296 ?_
                  refine r_iln C dX7_readDeed_299 rfl 3 rfl ?_
                  refine r_iast C (ws2 := wM D o q1 q2 q3 q4 q5 q6 q7 q8 q9 q10 q11 q12 q13 q14 q15 q16 q17 q18 q19 q20 q21 q22 pe n la ri td ys ty (((s_X7_here ty (((s_X7_here ty ap tp).2) + 1) tp).2) + 0) (1 : Int32) rd sm bt up lw ii kd dy nd co od wo tp (upd rk rd (s_X7_readDeed_m47_0 ty ap tp)) ry rn vs bs ch tr en du ol ig ln sz it mo) h0 rfl 8 rd rfl rfl (by omega) (by decide) dX7_readDeed_300 rfl rfl ?_
                  refine r_aln C dX7_readDeed_301 rfl 5 rfl ?_
                  refine gf_X7_34 C 0 rfl rfl dX7_readDeed_302 ?_
                  refine r_aln C dX7_readDeed_305 rfl 5 rfl ?_
                  refine gf_X7_156 C 0 rfl rfl dX7_readDeed_306 ?_
                  refine r_iln C dX7_readDeed_309 rfl 2 rfl ?_
                  refine r_iast C (ws2 := wM D o q1 q2 q3 q4 q5 q6 q7 q8 q9 q10 q11 q12 q13 q14 q15 q16 q17 q18 q19 q20 q21 q22 pe n la ri td ys ty (((s_X7_here ty (((s_X7_here ty ap tp).2) + 1) tp).2) + 0) (1 : Int32) rd sm bt up lw ii kd dy nd co od wo tp (upd rk rd (s_X7_readDeed_m47_0 ty ap tp)) (upd ry rd (((s_X7_here ty (((s_X7_here ty ap tp).2) + 1) tp).1) - (65 : Int32))) rn vs bs ch tr en du ol ig ln sz it mo) h0 rfl 9 rd rfl rfl (by omega) (by decide) dX7_readDeed_310 rfl rfl ?_
                  refine r_aln C dX7_readDeed_311 rfl 5 rfl ?_
                  refine gf_X7_37 C 0 rfl rfl dX7_readDeed_312 ?_
                  refine r_aln C dX7_readDeed_315 rfl 5 rfl ?_
                  refine gf_X7_156 C 0 rfl rfl dX7_readDeed_316 ?_
                  refine r_il C dX7_readDeed_319 1 rfl ?_
                  refine r_iast C (ws2 := wM D o q1 q2 q3 q4 q5 q6 q7 q8 q9 q10 q11 q12 q13 q14 q15 q16 q17 q18 q19 q20 q21 q22 pe n la ri td ys ty (((s_X7_here ty (((s_X7_here ty ap tp).2) + 1) tp).2) + 0) (1 : Int32) rd sm bt up lw ii kd dy nd co od wo tp (upd rk rd (s_X7_readDeed_m47_0 ty ap tp)) (upd ry rd (((s_X7_here ty (((s_X7_here ty ap tp).2) + 1) tp).1) - (65 : Int32))) (upd rn rd (0 : Int32)) vs bs ch tr en du ol ig ln sz it mo) h0 rfl 10 rd rfl rfl (by omega) (by decide) dX7_readDeed_321 rfl rfl ?_
                  refine r_aln C dX7_readDeed_322 rfl 5 rfl ?_
                  refine r_dup C dX7_readDeed_323 rfl ?_
                  refine gf_X7_156 C 0 rfl rfl dX7_readDeed_324 ?_
                  refine r_ic C (v := (1 : Int32)) dX7_readDeed_327 (by decide) ?_
                  refine r_iadd C dX7_readDeed_328 ?_
                  refine r_top (nv_add rfl rfl) ?_
                  refine pf_X7_156 C (ws2 := wM D o q1 q2 q3 q4 q5 q6 q7 q8 q9 q10 q11 q12 q13 q14 q15 q16 q17 q18 q19 q20 q21 q22 pe n la ri td ys ty (((s_X7_here ty (((s_X7_here ty ap tp).2) + 1) tp).2) + 0) (1 : Int32) (rd + 1) sm bt up lw ii kd dy nd co od wo tp (upd rk rd (s_X7_readDeed_m47_0 ty ap tp)) (upd ry rd (((s_X7_here ty (((s_X7_here ty ap tp).2) + 1) tp).1) - (65 : Int32))) (upd rn rd (0 : Int32)) vs bs ch tr en du ol ig ln sz it mo) h0 rfl 0 rfl (Nat.le_of_ble_eq_true rfl) dX7_readDeed_329 rfl rfl ?_
                  exact r_vret rfl C (by rw [← hv]) dX7_readDeed_332
                · exact absurd (by decide) c35
              · exact absurd c34 (by decide)
      · exact absurd (by decide) c6
    · rw [if_pos c5] at hv
      refine r_ic C (v := (1 : Int32)) dX7_readDeed_53 (by decide) ?_
      refine r_goto C (tgt := 58) dX7_readDeed_54 (by decide) ?_
      refine pf_X7_148 C (ws2 := wM D o q1 q2 q3 q4 q5 q6 q7 q8 q9 q10 q11 q12 q13 q14 q15 q16 q17 q18 q19 q20 q21 q22 pe n la ri td ys ty ((s_X7_here ty ap tp).2) (1 : Int32) rd sm bt up lw ii kd dy nd co od wo tp rk ry rn vs bs ch tr en du ol ig ln sz it mo) h0 rfl 0 rfl (Nat.le_of_ble_eq_true rfl) rfl rfl dX7_readDeed_58 rfl rfl ?_
      refine r_aln C dX7_readDeed_61 rfl 2 rfl ?_
      refine r_dup C dX7_readDeed_62 rfl ?_
      refine gf_X7_141 C 0 rfl rfl dX7_readDeed_63 ?_
      refine r_aln C dX7_readDeed_66 rfl 2 rfl ?_
      refine gf_X7_148 C 0 rfl rfl dX7_readDeed_67 ?_
      refine r_ifeq C (tgt := 77) dX7_readDeed_70 (by decide) (fun c36 => ?_) (fun c36 => ?_)
      · exact absurd c36 (by decide)
      · skip
        have hle : ((s_X7_here ty ap tp).2) ≤ ty := here_le (by omega)
        refine r_ic C (v := (0 : Int32)) dX7_readDeed_73 (by decide) ?_
        refine r_goto C (tgt := 78) dX7_readDeed_74 (by decide) ?_
        refine r_iadd C dX7_readDeed_78 ?_
        refine r_top (nv_add rfl rfl) ?_
        refine pf_X7_141 C (ws2 := wM D o q1 q2 q3 q4 q5 q6 q7 q8 q9 q10 q11 q12 q13 q14 q15 q16 q17 q18 q19 q20 q21 q22 pe n la ri td ys ty (((s_X7_here ty ap tp).2) + 0) (1 : Int32) rd sm bt up lw ii kd dy nd co od wo tp rk ry rn vs bs ch tr en du ol ig ln sz it mo) h0 rfl 0 rfl (Nat.le_of_ble_eq_true rfl) dX7_readDeed_79 rfl rfl ?_
        refine r_aln C dX7_readDeed_82 rfl 2 rfl ?_
        refine aft_wa (ws2 := wM D o q1 q2 q3 q4 q5 q6 q7 q8 q9 q10 q11 q12 q13 q14 q15 q16 q17 q18 q19 q20 q21 q22 pe n la ri td ys ty ((s_X7_here ty (((s_X7_here ty ap tp).2) + 0) tp).2) (1 : Int32) rd sm bt up lw ii kd dy nd co od wo tp rk ry rn vs bs ch tr en du ol ig ln sz it mo) (st' := [.int ((s_X7_here ty (((s_X7_here ty ap tp).2) + 0) tp).1)]) h0 rfl rfl (run_V (rest := []) C (c_X7_here l D o q1 q2 q3 q4 q5 q6 q7 q8 q9 q10 q11 q12 q13 q14 q15 q16 q17 q18 q19 q20 q21 q22 pe n la ri td ys ty (((s_X7_here ty ap tp).2) + 0) (1 : Int32) rd sm bt up lw ii kd dy nd co od wo tp rk ry rn vs bs ch tr en du ol ig ln sz it mo (by omega) (by omega) (dis_all h0 rfl)) ok_X7_here wn_X7_here wl_X7_here wm_X7_144 _ 0 rfl rfl rfl ⟨Nat.le_of_ble_eq_true rfl, Nat.le_of_ble_eq_true rfl⟩ fm_all rfl (Nat.le_of_ble_eq_true rfl) dX7_readDeed_83) rfl rfl ?_
        refine r_bp C (v := (65 : Int32)) dX7_readDeed_86 (by decide) ?_
        refine r_isub C dX7_readDeed_88 ?_
        refine r_isn C (lv' := [(3, .int (((s_X7_here ty (((s_X7_here ty ap tp).2) + 0) tp).1) - (65 : Int32))), (2, .int (s_X7_readDeed_m47_0 ty ap tp)), (1, .int ((s_X7_here ty ap tp).1)), (0, .ref o)]) dX7_readDeed_89 rfl (by decide) rfl ?_
        refine r_aln C dX7_readDeed_90 rfl 3 rfl ?_
        refine r_aln C dX7_readDeed_91 rfl 3 rfl ?_
        refine gf_X7_148 C 0 rfl rfl dX7_readDeed_92 ?_
        refine r_ifne C (tgt := 110) dX7_readDeed_95 (by decide) (fun c37 => ?_) (fun c37 => ?_)
        · skip
          refine r_ic C (v := (1 : Int32)) dX7_readDeed_110 (by decide) ?_
          refine r_goto C (tgt := 115) dX7_readDeed_111 (by decide) ?_
          refine pf_X7_148 C (ws2 := wM D o q1 q2 q3 q4 q5 q6 q7 q8 q9 q10 q11 q12 q13 q14 q15 q16 q17 q18 q19 q20 q21 q22 pe n la ri td ys ty ((s_X7_here ty (((s_X7_here ty ap tp).2) + 0) tp).2) (1 : Int32) rd sm bt up lw ii kd dy nd co od wo tp rk ry rn vs bs ch tr en du ol ig ln sz it mo) h0 rfl 0 rfl (Nat.le_of_ble_eq_true rfl) rfl rfl dX7_readDeed_115 rfl rfl ?_
          refine r_aln C dX7_readDeed_118 rfl 3 rfl ?_
          refine r_dup C dX7_readDeed_119 rfl ?_
          refine gf_X7_141 C 0 rfl rfl dX7_readDeed_120 ?_
          refine r_aln C dX7_readDeed_123 rfl 3 rfl ?_
          refine gf_X7_148 C 0 rfl rfl dX7_readDeed_124 ?_
          refine r_ifeq C (tgt := 134) dX7_readDeed_127 (by decide) (fun c38 => ?_) (fun c38 => ?_)
          · exact absurd c38 (by decide)
          · skip
            have hle2 : ((s_X7_here ty (((s_X7_here ty ap tp).2) + 0) tp).2) ≤ ty := here_le (by omega)
            refine r_ic C (v := (0 : Int32)) dX7_readDeed_130 (by decide) ?_
            refine r_goto C (tgt := 135) dX7_readDeed_131 (by decide) ?_
            refine r_iadd C dX7_readDeed_135 ?_
            refine r_top (nv_add rfl rfl) ?_
            refine pf_X7_141 C (ws2 := wM D o q1 q2 q3 q4 q5 q6 q7 q8 q9 q10 q11 q12 q13 q14 q15 q16 q17 q18 q19 q20 q21 q22 pe n la ri td ys ty (((s_X7_here ty (((s_X7_here ty ap tp).2) + 0) tp).2) + 0) (1 : Int32) rd sm bt up lw ii kd dy nd co od wo tp rk ry rn vs bs ch tr en du ol ig ln sz it mo) h0 rfl 0 rfl (Nat.le_of_ble_eq_true rfl) dX7_readDeed_136 rfl rfl ?_
            refine r_ic C (v := (0 : Int32)) dX7_readDeed_139 (by decide) ?_
            refine r_is C (lv' := [(4, .int (0 : Int32)), (3, .int (((s_X7_here ty (((s_X7_here ty ap tp).2) + 0) tp).1) - (65 : Int32))), (2, .int (s_X7_readDeed_m47_0 ty ap tp)), (1, .int ((s_X7_here ty ap tp).1)), (0, .ref o)]) dX7_readDeed_140 (by decide) rfl ?_
            refine r_aln C dX7_readDeed_142 rfl 4 rfl ?_
            refine gf_X7_148 C 0 rfl rfl dX7_readDeed_143 ?_
            refine r_ifne C (tgt := 170) dX7_readDeed_146 (by decide) (fun c39 => ?_) (fun c39 => ?_)
            · skip
              have hle3 : (((s_X7_here ty (((s_X7_here ty ap tp).2) + 0) tp).2) + 0) ≤ ty := by first | omega | exact here_le (by omega)
              refine r_ic C (v := (0 : Int32)) dX7_readDeed_170 (by decide) ?_
              refine r_is C (lv' := [(5, .int (0 : Int32)), (4, .int (0 : Int32)), (3, .int (((s_X7_here ty (((s_X7_here ty ap tp).2) + 0) tp).1) - (65 : Int32))), (2, .int (s_X7_readDeed_m47_0 ty ap tp)), (1, .int ((s_X7_here ty ap tp).1)), (0, .ref o)]) dX7_readDeed_171 (by decide) rfl ?_
              refine r_il C dX7_readDeed_173 0 rfl ?_
              refine r_ifeq C (tgt := 291) dX7_readDeed_175 (by decide) (fun c40 => ?_) (fun c40 => ?_)
              · skip
                refine r_aln C dX7_readDeed_291 rfl 5 rfl ?_
                refine gf_X7_31 C 0 rfl rfl dX7_readDeed_292 ?_
                refine r_aln C dX7_readDeed_295 rfl 5 rfl ?_
                refine gf_X7_156 C 0 rfl rfl dX7_readDeed_296 ?_
                refine r_iln C dX7_readDeed_299 rfl 3 rfl ?_
                refine r_iast C (ws2 := wM D o q1 q2 q3 q4 q5 q6 q7 q8 q9 q10 q11 q12 q13 q14 q15 q16 q17 q18 q19 q20 q21 q22 pe n la ri td ys ty (((s_X7_here ty (((s_X7_here ty ap tp).2) + 0) tp).2) + 0) (1 : Int32) rd sm bt up lw ii kd dy nd co od wo tp (upd rk rd (s_X7_readDeed_m47_0 ty ap tp)) ry rn vs bs ch tr en du ol ig ln sz it mo) h0 rfl 8 rd rfl rfl (by omega) (by decide) dX7_readDeed_300 rfl rfl ?_
                refine r_aln C dX7_readDeed_301 rfl 5 rfl ?_
                refine gf_X7_34 C 0 rfl rfl dX7_readDeed_302 ?_
                refine r_aln C dX7_readDeed_305 rfl 5 rfl ?_
                refine gf_X7_156 C 0 rfl rfl dX7_readDeed_306 ?_
                refine r_iln C dX7_readDeed_309 rfl 2 rfl ?_
                refine r_iast C (ws2 := wM D o q1 q2 q3 q4 q5 q6 q7 q8 q9 q10 q11 q12 q13 q14 q15 q16 q17 q18 q19 q20 q21 q22 pe n la ri td ys ty (((s_X7_here ty (((s_X7_here ty ap tp).2) + 0) tp).2) + 0) (1 : Int32) rd sm bt up lw ii kd dy nd co od wo tp (upd rk rd (s_X7_readDeed_m47_0 ty ap tp)) (upd ry rd (((s_X7_here ty (((s_X7_here ty ap tp).2) + 0) tp).1) - (65 : Int32))) rn vs bs ch tr en du ol ig ln sz it mo) h0 rfl 9 rd rfl rfl (by omega) (by decide) dX7_readDeed_310 rfl rfl ?_
                refine r_aln C dX7_readDeed_311 rfl 5 rfl ?_
                refine gf_X7_37 C 0 rfl rfl dX7_readDeed_312 ?_
                refine r_aln C dX7_readDeed_315 rfl 5 rfl ?_
                refine gf_X7_156 C 0 rfl rfl dX7_readDeed_316 ?_
                refine r_il C dX7_readDeed_319 1 rfl ?_
                refine r_iast C (ws2 := wM D o q1 q2 q3 q4 q5 q6 q7 q8 q9 q10 q11 q12 q13 q14 q15 q16 q17 q18 q19 q20 q21 q22 pe n la ri td ys ty (((s_X7_here ty (((s_X7_here ty ap tp).2) + 0) tp).2) + 0) (1 : Int32) rd sm bt up lw ii kd dy nd co od wo tp (upd rk rd (s_X7_readDeed_m47_0 ty ap tp)) (upd ry rd (((s_X7_here ty (((s_X7_here ty ap tp).2) + 0) tp).1) - (65 : Int32))) (upd rn rd (0 : Int32)) vs bs ch tr en du ol ig ln sz it mo) h0 rfl 10 rd rfl rfl (by omega) (by decide) dX7_readDeed_321 rfl rfl ?_
                refine r_aln C dX7_readDeed_322 rfl 5 rfl ?_
                refine r_dup C dX7_readDeed_323 rfl ?_
                refine gf_X7_156 C 0 rfl rfl dX7_readDeed_324 ?_
                refine r_ic C (v := (1 : Int32)) dX7_readDeed_327 (by decide) ?_
                refine r_iadd C dX7_readDeed_328 ?_
                refine r_top (nv_add rfl rfl) ?_
                refine pf_X7_156 C (ws2 := wM D o q1 q2 q3 q4 q5 q6 q7 q8 q9 q10 q11 q12 q13 q14 q15 q16 q17 q18 q19 q20 q21 q22 pe n la ri td ys ty (((s_X7_here ty (((s_X7_here ty ap tp).2) + 0) tp).2) + 0) (1 : Int32) (rd + 1) sm bt up lw ii kd dy nd co od wo tp (upd rk rd (s_X7_readDeed_m47_0 ty ap tp)) (upd ry rd (((s_X7_here ty (((s_X7_here ty ap tp).2) + 0) tp).1) - (65 : Int32))) (upd rn rd (0 : Int32)) vs bs ch tr en du ol ig ln sz it mo) h0 rfl 0 rfl (Nat.le_of_ble_eq_true rfl) dX7_readDeed_329 rfl rfl ?_
                exact r_vret rfl C (by rw [← hv]) dX7_readDeed_332
              · exact absurd (by decide) c40
            · exact absurd c39 (by decide)
        · exact absurd c37 (by decide)
  refine r_icne C (tgt := 15) dX7_readDeed_8 (by decide) (fun c1 => ?_) (fun c1 => ?_)
  · skip
    refine r_iln C dX7_readDeed_15 rfl 0 rfl ?_
    refine r_bp C (v := (97 : Int32)) dX7_readDeed_16 (by decide) ?_
    refine r_icne C (tgt := 25) dX7_readDeed_18 (by decide) (fun c2 => ?_) (fun c2 => ?_)
    · skip
      refine r_iln C dX7_readDeed_25 rfl 0 rfl ?_
      refine r_bp C (v := (115 : Int32)) dX7_readDeed_26 (by decide) ?_
      refine r_icne C (tgt := 35) dX7_readDeed_28 (by decide) (fun c3 => ?_) (fun c3 => ?_)
      · skip
        refine r_iln C dX7_readDeed_35 rfl 0 rfl ?_
        refine r_bp C (v := (104 : Int32)) dX7_readDeed_36 (by decide) ?_
        refine r_icne C (tgt := 45) dX7_readDeed_38 (by decide) (fun c4 => ?_) (fun c4 => ?_)
        · skip
          refine r_bp C (v := (-4 : Int32)) dX7_readDeed_45 (by decide) ?_
          refine r_lv [0, 1] rfl ?_
          exact (by have z := J41; rw [show (s_X7_readDeed_m47_0 ty ap tp) = (-4 : Int32) from (by unfold s_X7_readDeed_m47_0; first | rfl | ((try rw [if_neg (show ¬ ((s_X7_here ty ap tp).1 = (112 : Int32)) from by assumption)]); (try rw [if_neg (show ¬ ((s_X7_here ty ap tp).1 = (97 : Int32)) from by assumption)]); (try rw [if_neg (show ¬ ((s_X7_here ty ap tp).1 = (115 : Int32)) from by assumption)]); (try rw [if_neg (show ¬ ((s_X7_here ty ap tp).1 = (104 : Int32)) from by assumption)]); (try rfl); done) | (simp only [if_pos, if_neg, *, not_false_eq_true, ite_true, ite_false, if_true, if_false]; done) | (simp [*]; done))] at z; exact z)
        · skip
          refine r_ic C (v := (3 : Int32)) dX7_readDeed_41 (by decide) ?_
          refine r_goto C (tgt := 47) dX7_readDeed_42 (by decide) ?_
          refine r_lv [0, 1] rfl ?_
          exact (by have z := J41; rw [show (s_X7_readDeed_m47_0 ty ap tp) = (3 : Int32) from (by unfold s_X7_readDeed_m47_0; first | rfl | ((try rw [if_neg (show ¬ ((s_X7_here ty ap tp).1 = (112 : Int32)) from by assumption)]); (try rw [if_neg (show ¬ ((s_X7_here ty ap tp).1 = (97 : Int32)) from by assumption)]); (try rw [if_neg (show ¬ ((s_X7_here ty ap tp).1 = (115 : Int32)) from by assumption)]); (try rw [if_pos (show (s_X7_here ty ap tp).1 = (104 : Int32) from by assumption)]); (try rfl); done) | (simp only [if_pos, if_neg, *, not_false_eq_true, ite_true, ite_false, if_true, if_false]; done) | (simp [*]; done))] at z; exact z)
      · skip
        refine r_ic C (v := (2 : Int32)) dX7_readDeed_31 (by decide) ?_
        refine r_goto C (tgt := 47) dX7_readDeed_32 (by decide) ?_
        refine r_lv [0, 1] rfl ?_
        exact (by have z := J41; rw [show (s_X7_readDeed_m47_0 ty ap tp) = (2 : Int32) from (by unfold s_X7_readDeed_m47_0; first | rfl | ((try rw [if_neg (show ¬ ((s_X7_here ty ap tp).1 = (112 : Int32)) from by assumption)]); (try rw [if_neg (show ¬ ((s_X7_here ty ap tp).1 = (97 : Int32)) from by assumption)]); (try rw [if_pos (show (s_X7_here ty ap tp).1 = (115 : Int32) from by assumption)]); (try rfl); done) | (simp only [if_pos, if_neg, *, not_false_eq_true, ite_true, ite_false, if_true, if_false]; done) | (simp [*]; done))] at z; exact z)
    · skip
      refine r_ic C (v := (1 : Int32)) dX7_readDeed_21 (by decide) ?_
      refine r_goto C (tgt := 47) dX7_readDeed_22 (by decide) ?_
      refine r_lv [0, 1] rfl ?_
      exact (by have z := J41; rw [show (s_X7_readDeed_m47_0 ty ap tp) = (1 : Int32) from (by unfold s_X7_readDeed_m47_0; first | rfl | ((try rw [if_neg (show ¬ ((s_X7_here ty ap tp).1 = (112 : Int32)) from by assumption)]); (try rw [if_pos (show (s_X7_here ty ap tp).1 = (97 : Int32) from by assumption)]); (try rfl); done) | (simp only [if_pos, if_neg, *, not_false_eq_true, ite_true, ite_false, if_true, if_false]; done) | (simp [*]; done))] at z; exact z)
  · skip
    refine r_ic C (v := (0 : Int32)) dX7_readDeed_11 (by decide) ?_
    refine r_goto C (tgt := 47) dX7_readDeed_12 (by decide) ?_
    refine r_lv [0, 1] rfl ?_
    exact (by have z := J41; rw [show (s_X7_readDeed_m47_0 ty ap tp) = (0 : Int32) from (by unfold s_X7_readDeed_m47_0; first | rfl | ((try rw [if_pos (show (s_X7_here ty ap tp).1 = (112 : Int32) from by assumption)]); (try rfl); done) | (simp only [if_pos, if_neg, *, not_false_eq_true, ite_true, ite_false, if_true, if_false]; done) | (simp [*]; done))] at z; exact z)

