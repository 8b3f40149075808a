def s_X7_set (n : Nat) (co : Nat → Int32) (od : Nat → Int32) (deed : Int32) (what : Int32) (v : Int32) : Int32 × (Nat → Int32) × (Nat → Int32) := (if s_X7_isDeed n deed.toInt64 = (0 : Int32) then ((-1 : Int32), co, od) else (if s_X7_in what.toInt64 (0 : Int64) (1 : Int64) = (0 : Int32) then ((-1 : Int32), co, od) else (if what = (0 : Int32) then (if s_X7_in v.toInt64 (0 : Int64) (9 : Int64) = (0 : Int32) then ((-1 : Int32), co, od) else (co deed.toNatClampNeg, upd co deed.toNatClampNeg v, upd od deed.toNatClampNeg (od deed.toNatClampNeg))) else (if s_X7_in v.toInt64 (0 : Int64) (4 : Int64) = (0 : Int32) then ((-1 : Int32), co, od) else (od deed.toNatClampNeg, upd co deed.toNatClampNeg (co deed.toNatClampNeg), upd od deed.toNatClampNeg v)))))
set_option maxHeartbeats 8000000 in
set_option maxRecDepth 100000 in
theorem c_X7_set (l : Launch) (D : va_G) (o : Nat) (q1 : Nat) (q2 : Nat) (q3 : Nat) (q4 : Nat) (q5 : Nat) (q6 : Nat) (q7 : Nat) (q8 : Nat) (q9 : Nat) (q10 : Nat) (q11 : Nat) (q12 : Nat) (q13 : Nat) (q14 : Nat) (q15 : Nat) (q16 : Nat) (q17 : Nat) (q18 : Nat) (q19 : Nat) (q20 : Nat) (q21 : Nat) (q22 : Nat) (pe : Nat) (n : Nat) (la : Int32) (ri : Int32) (td : Int32) (ys : Int32) (ty : Nat) (ap : Nat) (wg : Int32) (rd : Nat) (sm : Int32) (bt : Int32) (up : Int64) (lw : Int64) (ii : Int32) (kd : Nat → Int32) (dy : Nat → Int32) (nd : Nat → Int32) (co : Nat → Int32) (od : Nat → Int32) (wo : Nat → Int32) (tp : Nat → Int32) (rk : Nat → Int32) (ry : Nat → Int32) (rn : Nat → Int32) (vs : Nat → Int32) (bs : Nat → Int32) (ch : Nat → Int32) (tr : Nat → Int32) (en : Nat → Int32) (du : Nat → Int32) (ol : Nat → Int32) (ig : Nat → Int32) (ln : Nat → Int32) (sz : Nat → Int32) (it : Nat → Int64) (mo : Nat → Int64) (deed : Int32) (what : Int32) (v : Int32) (hn : n ≤ 12) (h0 : va_D (fun _ => True) (wM D o q1 q2 q3 q4 q5 q6 q7 q8 q9 q10 q11 q12 q13 q14 q15 q16 q17 q18 q19 q20 q21 q22 pe n la ri td ys ty ap wg rd sm bt up lw ii kd dy nd co od wo tp rk ry rn vs bs ch tr en du ol ig ln sz it mo)) : ct l yX7_set cX7_set 5 (some .int) 2 47 D [.ref o, .int deed, .int what, .int v] (wM D o q1 q2 q3 q4 q5 q6 q7 q8 q9 q10 q11 q12 q13 q14 q15 q16 q17 q18 q19 q20 q21 q22 pe n la ri td ys ty ap wg rd sm bt up lw ii kd dy nd co od wo tp rk ry rn vs bs ch tr en du ol ig ln sz it mo) (wM D o q1 q2 q3 q4 q5 q6 q7 q8 q9 q10 q11 q12 q13 q14 q15 q16 q17 q18 q19 q20 q21 q22 pe n la ri td ys ty ap wg rd sm bt up lw ii kd dy nd (s_X7_set n co od deed what v).2.1 (s_X7_set n co od deed what v).2.2 wo tp rk ry rn vs bs ch tr en du ol ig ln sz it mo) (Ad (wM D o q1 q2 q3 q4 q5 q6 q7 q8 q9 q10 q11 q12 q13 q14 q15 q16 q17 q18 q19 q20 q21 q22 pe n la ri td ys ty ap wg rd sm bt up lw ii kd dy nd co od wo tp rk ry rn vs bs ch tr en du ol ig ln sz it mo)) (some (Value.int (s_X7_set n co od deed what v).1)) := by
  obtain ⟨V, hv⟩ : ∃ V, s_X7_set n co od deed what v = V := ⟨_, rfl⟩
  rw [hv]
  refine ct_intro (own := RX7) (lv := [(0, .ref o), (1, .int deed), (2, .int what), (3, .int v)]) (by decide) rfl (Nat.le_of_ble_eq_true rfl) rfl ?_
  intro p_ e_ s_ m_ below_ meth_ c_ C
  have hv : (if s_X7_isDeed n deed.toInt64 = (0 : Int32) then ((-1 : Int32), co, od) else (if s_X7_in what.toInt64 (0 : Int64) (1 : Int64) = (0 : Int32) then ((-1 : Int32), co, od) else (if what = (0 : Int32) then (if s_X7_in v.toInt64 (0 : Int64) (9 : Int64) = (0 : Int32) then ((-1 : Int32), co, od) else (co deed.toNatClampNeg, upd co deed.toNatClampNeg v, upd od deed.toNatClampNeg (od deed.toNatClampNeg))) else (if s_X7_in v.toInt64 (0 : Int64) (4 : Int64) = (0 : Int32) then ((-1 : Int32), co, od) else (od deed.toNatClampNeg, upd co deed.toNatClampNeg (co deed.toNatClampNeg), upd od deed.toNatClampNeg v))))) = V := hv
  refine r_aln C dX7_set_0 rfl 0 rfl ?_
  refine r_iln C dX7_set_1 rfl 1 rfl ?_
  refine r_i2l C dX7_set_2 ?_
  refine aft_rd (st' := [.int (s_X7_isDeed n deed.toInt64)]) (run_V (rest := []) C (c_X7_isDeed l D o q1 q2 q3 q4 q5 q6 q7 q8 q9 q10 q11 q12 q13 q14 q15 q16 q17 q18 q19 q20 q21 q22 pe n la ri td ys ty ap wg rd sm bt up lw ii kd dy nd co od wo tp rk ry rn vs bs ch tr en du ol ig ln sz it mo deed.toInt64 ) ok_X7_isDeed wn_X7_isDeed wl_X7_isDeed wm_X7_109 _ 0 rfl rfl rfl ⟨Nat.le_of_ble_eq_true rfl, Nat.le_of_ble_eq_true rfl⟩ fm_all rfl (Nat.le_of_ble_eq_true rfl) dX7_set_3) rfl ?_
  refine r_ifeq C (tgt := 41) dX7_set_6 (by decide) (fun c1 => ?_) (fun c1 => ?_)
  · rw [if_pos c1] at hv
    refine r_ic C (v := (-1 : Int32)) dX7_set_41 (by decide) ?_
    exact r_iret rfl C (by rw [← hv]) (by rw [← hv]) dX7_set_42
  · rw [if_neg c1] at hv
    have e2 := mdeed_nat hn c1
    refine r_iln C dX7_set_9 rfl 2 rfl ?_
    refine r_i2l C dX7_set_10 ?_
    refine r_lc C (v := (0 : Int64)) dX7_set_11 (by decide) ?_
    refine r_lc C (v := (1 : Int64)) dX7_set_12 (by decide) ?_
    refine aft_rd (st' := [.int (s_X7_in what.toInt64 (0 : Int64) (1 : Int64))]) (run_S (rest := []) C (c_X7_in l D what.toInt64 (0 : Int64) (1 : Int64) ) ok_X7_in ws_X7_in wm_X7_87 [] rfl ⟨Nat.le_of_ble_eq_true rfl, Nat.le_of_ble_eq_true rfl⟩ rfl rfl (Nat.le_of_ble_eq_true rfl) dX7_set_13) rfl ?_
    refine r_ifeq C (tgt := 41) dX7_set_16 (by decide) (fun c3 => ?_) (fun c3 => ?_)
    · rw [if_pos c3] at hv
      refine r_ic C (v := (-1 : Int32)) dX7_set_41 (by decide) ?_
      exact r_iret rfl C (by rw [← hv]) (by rw [← hv]) dX7_set_42
    · rw [if_neg c3] at hv
      refine r_iln C dX7_set_19 rfl 3 rfl ?_
      refine r_i2l C dX7_set_20 ?_
      refine r_lc C (v := (0 : Int64)) dX7_set_21 (by decide) ?_
      refine r_iln C dX7_set_22 rfl 2 rfl ?_
      refine r_ifne C (tgt := 32) dX7_set_23 (by decide) (fun c4 => ?_) (fun c4 => ?_)
      · rw [if_neg c4] at hv
        refine r_ldc2 C wc_X7_91 dX7_set_32 ?_
        refine aft_rd (st' := [.int (s_X7_in v.toInt64 (0 : Int64) (4 : Int64))]) (run_S (rest := []) C (c_X7_in l D v.toInt64 (0 : Int64) (4 : Int64) ) ok_X7_in ws_X7_in wm_X7_87 [] rfl ⟨Nat.le_of_ble_eq_true rfl, Nat.le_of_ble_eq_true rfl⟩ rfl rfl (Nat.le_of_ble_eq_true rfl) dX7_set_35) rfl ?_
        refine r_ifne C (tgt := 43) dX7_set_38 (by decide) (fun c5 => ?_) (fun c5 => ?_)
        · rw [if_neg c5] at hv
          refine r_iln C dX7_set_43 rfl 2 rfl ?_
          refine r_ifne C (tgt := 56) dX7_set_44 (by decide) (fun c6 => ?_) (fun c6 => ?_)
          · skip
            refine r_aln C dX7_set_56 rfl 0 rfl ?_
            refine gf_X7_22 C 0 rfl rfl dX7_set_57 ?_
            refine r_iln C dX7_set_60 rfl 1 rfl ?_
            refine r_iald C 5 deed.toNatClampNeg rfl e2.1 (by omega) (by decide) rfl dX7_set_61 ?_
            refine r_is C (lv' := [(4, .int (od deed.toNatClampNeg)), (0, .ref o), (1, .int deed), (2, .int what), (3, .int v)]) dX7_set_62 (by decide) rfl ?_
            refine r_aln C dX7_set_64 rfl 1 rfl ?_
            refine gf_X7_19 C 0 rfl rfl dX7_set_65 ?_
            refine r_iln C dX7_set_68 rfl 2 rfl ?_
            refine r_iln C dX7_set_69 rfl 3 rfl ?_
            refine r_ifne C (tgt := 77) dX7_set_70 (by decide) (fun c7 => ?_) (fun c7 => ?_)
            · skip
              refine r_aln C dX7_set_77 rfl 1 rfl ?_
              refine gf_X7_19 C 0 rfl rfl dX7_set_78 ?_
              refine r_iln C dX7_set_81 rfl 2 rfl ?_
              refine r_iald C 4 deed.toNatClampNeg rfl e2.1 (by omega) (by decide) rfl dX7_set_82 ?_
              refine r_iast C (ws2 := wM D o q1 q2 q3 q4 q5 q6 q7 q8 q9 q10 q11 q12 q13 q14 q15 q16 q17 q18 q19 q20 q21 q22 pe n la ri td ys ty ap wg rd sm bt up lw ii kd dy nd (upd co deed.toNatClampNeg (co deed.toNatClampNeg)) od wo tp rk ry rn vs bs ch tr en du ol ig ln sz it mo) h0 rfl 4 deed.toNatClampNeg rfl e2.1 (by omega) (by decide) dX7_set_83 rfl rfl ?_
              refine r_aln C dX7_set_84 rfl 1 rfl ?_
              refine gf_X7_22 C 0 rfl rfl dX7_set_85 ?_
              refine r_iln C dX7_set_88 rfl 2 rfl ?_
              refine r_iln C dX7_set_89 rfl 3 rfl ?_
              refine r_ifne C (tgt := 102) dX7_set_90 (by decide) (fun c8 => ?_) (fun c8 => ?_)
              · skip
                refine r_iln C dX7_set_102 rfl 4 rfl ?_
                refine r_iast C (ws2 := wM D o q1 q2 q3 q4 q5 q6 q7 q8 q9 q10 q11 q12 q13 q14 q15 q16 q17 q18 q19 q20 q21 q22 pe n la ri td ys ty ap wg rd sm bt up lw ii kd dy nd (upd co deed.toNatClampNeg (co deed.toNatClampNeg)) (upd od deed.toNatClampNeg v) wo tp rk ry rn vs bs ch tr en du ol ig ln sz it mo) h0 rfl 5 deed.toNatClampNeg rfl e2.1 (by omega) (by decide) dX7_set_103 rfl rfl ?_
                refine r_il C dX7_set_104 0 rfl ?_
                exact r_iret rfl C (by rw [← hv]) (by rw [← hv]) dX7_set_106
              · exact absurd c8 c4
            · exact absurd c7 c4
          · exact absurd c6 c4
        · rw [if_pos c5] at hv
          refine r_ic C (v := (-1 : Int32)) dX7_set_41 (by decide) ?_
          exact r_iret rfl C (by rw [← hv]) (by rw [← hv]) dX7_set_42
      · rw [if_pos c4] at hv
        refine r_ldc2 C wc_X7_123 dX7_set_26 ?_
        refine r_goto C (tgt := 35) dX7_set_29 (by decide) ?_
        refine aft_rd (st' := [.int (s_X7_in v.toInt64 (0 : Int64) (9 : Int64))]) (run_S (rest := []) C (c_X7_in l D v.toInt64 (0 : Int64) (9 : Int64) ) ok_X7_in ws_X7_in wm_X7_87 [] rfl ⟨Nat.le_of_ble_eq_true rfl, Nat.le_of_ble_eq_true rfl⟩ rfl rfl (Nat.le_of_ble_eq_true rfl) dX7_set_35) rfl ?_
        refine r_ifne C (tgt := 43) dX7_set_38 (by decide) (fun c9 => ?_) (fun c9 => ?_)
        · rw [if_neg c9] at hv
          refine r_iln C dX7_set_43 rfl 2 rfl ?_
          refine r_ifne C (tgt := 56) dX7_set_44 (by decide) (fun c10 => ?_) (fun c10 => ?_)
          · exact absurd c4 c10
          · skip
            refine r_aln C dX7_set_47 rfl 0 rfl ?_
            refine gf_X7_19 C 0 rfl rfl dX7_set_48 ?_
            refine r_iln C dX7_set_51 rfl 1 rfl ?_
            refine r_iald C 4 deed.toNatClampNeg rfl e2.1 (by omega) (by decide) rfl dX7_set_52 ?_
            refine r_goto C (tgt := 62) dX7_set_53 (by decide) ?_
            refine r_is C (lv' := [(4, .int (co deed.toNatClampNeg)), (0, .ref o), (1, .int deed), (2, .int what), (3, .int v)]) dX7_set_62 (by decide) rfl ?_
            refine r_aln C dX7_set_64 rfl 1 rfl ?_
            refine gf_X7_19 C 0 rfl rfl dX7_set_65 ?_
            refine r_iln C dX7_set_68 rfl 2 rfl ?_
            refine r_iln C dX7_set_69 rfl 3 rfl ?_
            refine r_ifne C (tgt := 77) dX7_set_70 (by decide) (fun c11 => ?_) (fun c11 => ?_)
            · exact absurd c4 c11
            · skip
              refine r_iln C dX7_set_73 rfl 4 rfl ?_
              refine r_goto C (tgt := 83) dX7_set_74 (by decide) ?_
              refine r_iast C (ws2 := wM D o q1 q2 q3 q4 q5 q6 q7 q8 q9 q10 q11 q12 q13 q14 q15 q16 q17 q18 q19 q20 q21 q22 pe n la ri td ys ty ap wg rd sm bt up lw ii kd dy nd (upd co deed.toNatClampNeg v) od wo tp rk ry rn vs bs ch tr en du ol ig ln sz it mo) h0 rfl 4 deed.toNatClampNeg rfl e2.1 (by omega) (by decide) dX7_set_83 rfl rfl ?_
              refine r_aln C dX7_set_84 rfl 1 rfl ?_
              refine gf_X7_22 C 0 rfl rfl dX7_set_85 ?_
              refine r_iln C dX7_set_88 rfl 2 rfl ?_
              refine r_iln C dX7_set_89 rfl 3 rfl ?_
              refine r_ifne C (tgt := 102) dX7_set_90 (by decide) (fun c12 => ?_) (fun c12 => ?_)
              · exact absurd c4 c12
              · skip
                refine r_aln C dX7_set_93 rfl 1 rfl ?_
                refine gf_X7_22 C 0 rfl rfl dX7_set_94 ?_
                refine r_iln C dX7_set_97 rfl 2 rfl ?_
                refine r_iald C 5 deed.toNatClampNeg rfl e2.1 (by omega) (by decide) rfl dX7_set_98 ?_
                refine r_goto C (tgt := 103) dX7_set_99 (by decide) ?_
                refine r_iast C (ws2 := wM D o q1 q2 q3 q4 q5 q6 q7 q8 q9 q10 q11 q12 q13 q14 q15 q16 q17 q18 q19 q20 q21 q22 pe n la ri td ys ty ap wg rd sm bt up lw ii kd dy nd (upd co deed.toNatClampNeg v) (upd od deed.toNatClampNeg (od deed.toNatClampNeg)) wo tp rk ry rn vs bs ch tr en du ol ig ln sz it mo) h0 rfl 5 deed.toNatClampNeg rfl e2.1 (by omega) (by decide) dX7_set_103 rfl rfl ?_
                refine r_il C dX7_set_104 0 rfl ?_
                exact r_iret rfl C (by rw [← hv]) (by rw [← hv]) dX7_set_106
        · rw [if_pos c9] at hv
          refine r_ic C (v := (-1 : Int32)) dX7_set_41 (by decide) ?_
          exact r_iret rfl C (by rw [← hv]) (by rw [← hv]) dX7_set_42

def s_X7_worth (n : Nat) (wo : Nat → Int32) (deed : Int32) (person : Int32) (v : Int32) : Int32 × (Nat → Int32) := (if s_X7_isDeed n deed.toInt64 = (0 : Int32) then ((-100001 : Int32), wo) else (if s_X7_in person.toInt64 (0 : Int64) (3 : Int64) = (0 : Int32) then ((-100001 : Int32), wo) else (if s_X7_in v.toInt64 (-9 : Int64) (9 : Int64) = (0 : Int32) then ((-100001 : Int32), wo) else (wo ((4 * deed.toNatClampNeg) + person.toNatClampNeg), upd wo ((4 * deed.toNatClampNeg) + person.toNatClampNeg) v))))
set_option maxHeartbeats 8000000 in
set_option maxRecDepth 100000 in
theorem c_X7_worth (l : Launch) (D : va_G) (o : Nat) (q1 : Nat) (q2 : Nat) (q3 : Nat) (q4 : Nat) (q5 : Nat) (q6 : Nat) (q7 : Nat) (q8 : Nat) (q9 : Nat) (q10 : Nat) (q11 : Nat) (q12 : Nat) (q13 : Nat) (q14 : Nat) (q15 : Nat) (q16 : Nat) (q17 : Nat) (q18 : Nat) (q19 : Nat) (q20 : Nat) (q21 : Nat) (q22 : Nat) (pe : Nat) (n : Nat) (la : Int32) (ri : Int32) (td : Int32) (ys : Int32) (ty : Nat) (ap : Nat) (wg : Int32) (rd : Nat) (sm : Int32) (bt : Int32) (up : Int64) (lw : Int64) (ii : Int32) (kd : Nat → Int32) (dy : Nat → Int32) (nd : Nat → Int32) (co : Nat → Int32) (od : Nat → Int32) (wo : Nat → Int32) (tp : Nat → Int32) (rk : Nat → Int32) (ry : Nat → Int32) (rn : Nat → Int32) (vs : Nat → Int32) (bs : Nat → Int32) (ch : Nat → Int32) (tr : Nat → Int32) (en : Nat → Int32) (du : Nat → Int32) (ol : Nat → Int32) (ig : Nat → Int32) (ln : Nat → Int32) (sz : Nat → Int32) (it : Nat → Int64) (mo : Nat → Int64) (deed : Int32) (person : Int32) (v : Int32) (hn : n ≤ 12) (h0 : va_D (fun _ => True) (wM D o q1 q2 q3 q4 q5 q6 q7 q8 q9 q10 q11 q12 q13 q14 q15 q16 q17 q18 q19 q20 q21 q22 pe n la ri td ys ty ap wg rd sm bt up lw ii kd dy nd co od wo tp rk ry rn vs bs ch tr en du ol ig ln sz it mo)) : ct l yX7_worth cX7_worth 5 (some .int) 2 47 D [.ref o, .int deed, .int person, .int v] (wM D o q1 q2 q3 q4 q5 q6 q7 q8 q9 q10 q11 q12 q13 q14 q15 q16 q17 q18 q19 q20 q21 q22 pe n la ri td ys ty ap wg rd sm bt up lw ii kd dy nd co od wo tp rk ry rn vs bs ch tr en du ol ig ln sz it mo) (wM D o q1 q2 q3 q4 q5 q6 q7 q8 q9 q10 q11 q12 q13 q14 q15 q16 q17 q18 q19 q20 q21 q22 pe n la ri td ys ty ap wg rd sm bt up lw ii kd dy nd co od (s_X7_worth n wo deed person v).2 tp rk ry rn vs bs ch tr en du ol ig ln sz it mo) (Ad (wM D o q1 q2 q3 q4 q5 q6 q7 q8 q9 q10 q11 q12 q13 q14 q15 q16 q17 q18 q19 q20 q21 q22 pe n la ri td ys ty ap wg rd sm bt up lw ii kd dy nd co od wo tp rk ry rn vs bs ch tr en du ol ig ln sz it mo)) (some (Value.int (s_X7_worth n wo deed person v).1)) := by
  obtain ⟨V, hv⟩ : ∃ V, s_X7_worth n wo deed person v = V := ⟨_, rfl⟩
  rw [hv]
  refine ct_intro (own := RX7) (lv := [(0, .ref o), (1, .int deed), (2, .int person), (3, .int v)]) (by decide) rfl (Nat.le_of_ble_eq_true rfl) rfl ?_
  intro p_ e_ s_ m_ below_ meth_ c_ C
  have hv : (if s_X7_isDeed n deed.toInt64 = (0 : Int32) then ((-100001 : Int32), wo) else (if s_X7_in person.toInt64 (0 : Int64) (3 : Int64) = (0 : Int32) then ((-100001 : Int32), wo) else (if s_X7_in v.toInt64 (-9 : Int64) (9 : Int64) = (0 : Int32) then ((-100001 : Int32), wo) else (wo ((4 * deed.toNatClampNeg) + person.toNatClampNeg), upd wo ((4 * deed.toNatClampNeg) + person.toNatClampNeg) v)))) = V := hv
  refine r_aln C dX7_worth_0 rfl 0 rfl ?_
  refine r_iln C dX7_worth_1 rfl 1 rfl ?_
  refine r_i2l C dX7_worth_2 ?_
  refine aft_rd (st' := [.int (s_X7_isDeed n deed.toInt64)]) (run_V (rest := []) C (c_X7_isDeed l D o q1 q2 q3 q4 q5 q6 q7 q8 q9 q10 q11 q12 q13 q14 q15 q16 q17 q18 q19 q20 q21 q22 pe n la ri td ys ty ap wg rd sm bt up lw ii kd dy nd co od wo tp rk ry rn vs bs ch tr en du ol ig ln sz it mo deed.toInt64 ) ok_X7_isDeed wn_X7_isDeed wl_X7_isDeed wm_X7_109 _ 0 rfl rfl rfl ⟨Nat.le_of_ble_eq_true rfl, Nat.le_of_ble_eq_true rfl⟩ fm_all rfl (Nat.le_of_ble_eq_true rfl) dX7_worth_3) rfl ?_
  refine r_ifeq C (tgt := 35) dX7_worth_6 (by decide) (fun c1 => ?_) (fun c1 => ?_)
  · rw [if_pos c1] at hv
    refine r_ldc C wc_X7_127 dX7_worth_35 ?_
    exact r_iret rfl C (by rw [← hv]) (by rw [← hv]) dX7_worth_37
  · rw [if_neg c1] at hv
    have e2 := mdeed_nat hn c1
    refine r_iln C dX7_worth_9 rfl 2 rfl ?_
    refine r_i2l C dX7_worth_10 ?_
    refine r_lc C (v := (0 : Int64)) dX7_worth_11 (by decide) ?_
    refine r_ldc2 C wc_X7_93 dX7_worth_12 ?_
    refine aft_rd (st' := [.int (s_X7_in person.toInt64 (0 : Int64) (3 : Int64))]) (run_S (rest := []) C (c_X7_in l D person.toInt64 (0 : Int64) (3 : Int64) ) ok_X7_in ws_X7_in wm_X7_87 [] rfl ⟨Nat.le_of_ble_eq_true rfl, Nat.le_of_ble_eq_true rfl⟩ rfl rfl (Nat.le_of_ble_eq_true rfl) dX7_worth_15) rfl ?_
    refine r_ifeq C (tgt := 35) dX7_worth_18 (by decide) (fun c3 => ?_) (fun c3 => ?_)
    · rw [if_pos c3] at hv
      refine r_ldc C wc_X7_127 dX7_worth_35 ?_
      exact r_iret rfl C (by rw [← hv]) (by rw [← hv]) dX7_worth_37
    · rw [if_neg c3] at hv
      have e4 := m03_nat c3
      refine r_iln C dX7_worth_21 rfl 3 rfl ?_
      refine r_i2l C dX7_worth_22 ?_
      refine r_ldc2 C wc_X7_125 dX7_worth_23 ?_
      refine r_ldc2 C wc_X7_123 dX7_worth_26 ?_
      refine aft_rd (st' := [.int (s_X7_in v.toInt64 (-9 : Int64) (9 : Int64))]) (run_S (rest := []) C (c_X7_in l D v.toInt64 (-9 : Int64) (9 : Int64) ) ok_X7_in ws_X7_in wm_X7_87 [] rfl ⟨Nat.le_of_ble_eq_true rfl, Nat.le_of_ble_eq_true rfl⟩ rfl rfl (Nat.le_of_ble_eq_true rfl) dX7_worth_29) rfl ?_
      refine r_ifne C (tgt := 38) dX7_worth_32 (by decide) (fun c5 => ?_) (fun c5 => ?_)
      · rw [if_neg c5] at hv
        refine r_aln C dX7_worth_38 rfl 0 rfl ?_
        refine gf_X7_25 C 0 rfl rfl dX7_worth_39 ?_
        refine r_ic C (v := (4 : Int32)) dX7_worth_42 (by decide) ?_
        refine r_iln C dX7_worth_43 rfl 1 rfl ?_
        refine r_imul C dX7_worth_44 ?_
        refine r_iln C dX7_worth_45 rfl 2 rfl ?_
        refine r_iadd C dX7_worth_46 ?_
        refine r_iald C 6 ((4 * deed.toNatClampNeg) + person.toNatClampNeg) rfl (nv_add (nv_mul rfl e2.1) e4.1) (by omega) (by decide) rfl dX7_worth_47 ?_
        refine r_is C (lv' := [(4, .int (wo ((4 * deed.toNatClampNeg) + person.toNatClampNeg))), (0, .ref o), (1, .int deed), (2, .int person), (3, .int v)]) dX7_worth_48 (by decide) rfl ?_
        refine r_aln C dX7_worth_50 rfl 1 rfl ?_
        refine gf_X7_25 C 0 rfl rfl dX7_worth_51 ?_
        refine r_ic C (v := (4 : Int32)) dX7_worth_54 (by decide) ?_
        refine r_iln C dX7_worth_55 rfl 2 rfl ?_
        refine r_imul C dX7_worth_56 ?_
        refine r_iln C dX7_worth_57 rfl 3 rfl ?_
        refine r_iadd C dX7_worth_58 ?_
        refine r_iln C dX7_worth_59 rfl 4 rfl ?_
        refine r_iast C (ws2 := wM D o q1 q2 q3 q4 q5 q6 q7 q8 q9 q10 q11 q12 q13 q14 q15 q16 q17 q18 q19 q20 q21 q22 pe n la ri td ys ty ap wg rd sm bt up lw ii kd dy nd co od (upd wo ((4 * deed.toNatClampNeg) + person.toNatClampNeg) v) tp rk ry rn vs bs ch tr en du ol ig ln sz it mo) h0 rfl 6 ((4 * deed.toNatClampNeg) + person.toNatClampNeg) rfl (nv_add (nv_mul rfl e2.1) e4.1) (by omega) (by decide) dX7_worth_60 rfl rfl ?_
        refine r_il C dX7_worth_61 0 rfl ?_
        exact r_iret rfl C (by rw [← hv]) (by rw [← hv]) dX7_worth_63
      · rw [if_pos c5] at hv
        refine r_ldc C wc_X7_127 dX7_worth_35 ?_
        exact r_iret rfl C (by rw [← hv]) (by rw [← hv]) dX7_worth_37

def s_X7_worthOf (n : Nat) (wo : Nat → Int32) (deed : Int32) (person : Int32) : Int32 := (if s_X7_isDeed n deed.toInt64 = (0 : Int32) then (-100001 : Int32) else (if s_X7_in person.toInt64 (0 : Int64) (3 : Int64) = (0 : Int32) then (-100001 : Int32) else wo ((4 * deed.toNatClampNeg) + person.toNatClampNeg)))
set_option maxHeartbeats 8000000 in
set_option maxRecDepth 100000 in
theorem c_X7_worthOf (l : Launch) (D : va_G) (o : Nat) (q1 : Nat) (q2 : Nat) (q3 : Nat) (q4 : Nat) (q5 : Nat) (q6 : Nat) (q7 : Nat) (q8 : Nat) (q9 : Nat) (q10 : Nat) (q11 : Nat) (q12 : Nat) (q13 : Nat) (q14 : Nat) (q15 : Nat) (q16 : Nat) (q17 : Nat) (q18 : Nat) (q19 : Nat) (q20 : Nat) (q21 : Nat) (q22 : Nat) (pe : Nat) (n : Nat) (la : Int32) (ri : Int32) (td : Int32) (ys : Int32) (ty : Nat) (ap : Nat) (wg : Int32) (rd : Nat) (sm : Int32) (bt : Int32) (up : Int64) (lw : Int64) (ii : Int32) (kd : Nat → Int32) (dy : Nat → Int32) (nd : Nat → Int32) (co : Nat → Int32) (od : Nat → Int32) (wo : Nat → Int32) (tp : Nat → Int32) (rk : Nat → Int32) (ry : Nat → Int32) (rn : Nat → Int32) (vs : Nat → Int32) (bs : Nat → Int32) (ch : Nat → Int32) (tr : Nat → Int32) (en : Nat → Int32) (du : Nat → Int32) (ol : Nat → Int32) (ig : Nat → Int32) (ln : Nat → Int32) (sz : Nat → Int32) (it : Nat → Int64) (mo : Nat → Int64) (deed : Int32) (person : Int32) (hn : n ≤ 12) : ct l yX7_worthOf cX7_worthOf 3 (some .int) 2 47 D [.ref o, .int deed, .int person] (wM D o q1 q2 q3 q4 q5 q6 q7 q8 q9 q10 q11 q12 q13 q14 q15 q16 q17 q18 q19 q20 q21 q22 pe n la ri td ys ty ap wg rd sm bt up lw ii kd dy nd co od wo tp rk ry rn vs bs ch tr en du ol ig ln sz it mo) (wM D o q1 q2 q3 q4 q5 q6 q7 q8 q9 q10 q11 q12 q13 q14 q15 q16 q17 q18 q19 q20 q21 q22 pe n la ri td ys ty ap wg rd sm bt up lw ii kd dy nd co od wo tp rk ry rn vs bs ch tr en du ol ig ln sz it mo) (fun _ => False) (some (Value.int (s_X7_worthOf n wo deed person))) := by
  obtain ⟨V, hv⟩ : ∃ V, s_X7_worthOf n wo deed person = V := ⟨_, rfl⟩
  rw [hv]
  refine ct_intro (own := RX7) (lv := [(0, .ref o), (1, .int deed), (2, .int person)]) (by decide) rfl (Nat.le_of_ble_eq_true rfl) rfl ?_
  intro p_ e_ s_ m_ below_ meth_ c_ C
  have hv : (if s_X7_isDeed n deed.toInt64 = (0 : Int32) then (-100001 : Int32) else (if s_X7_in person.toInt64 (0 : Int64) (3 : Int64) = (0 : Int32) then (-100001 : Int32) else wo ((4 * deed.toNatClampNeg) + person.toNatClampNeg))) = V := hv
  refine r_aln C dX7_worthOf_0 rfl 0 rfl ?_
  refine r_iln C dX7_worthOf_1 rfl 1 rfl ?_
  refine r_i2l C dX7_worthOf_2 ?_
  refine aft_rd (st' := [.int (s_X7_isDeed n deed.toInt64)]) (run_V (rest := []) C (c_X7_isDeed l D o q1 q2 q3 q4 q5 q6 q7 q8 q9 q10 q11 q12 q13 q14 q15 q16 q17 q18 q19 q20 q21 q22 pe n la ri td ys ty ap wg rd sm bt up lw ii kd dy nd co od wo tp rk ry rn vs bs ch tr en du ol ig ln sz it mo deed.toInt64 ) ok_X7_isDeed wn_X7_isDeed wl_X7_isDeed wm_X7_109 _ 0 rfl rfl rfl ⟨Nat.le_of_ble_eq_true rfl, Nat.le_of_ble_eq_true rfl⟩ fm_all rfl (Nat.le_of_ble_eq_true rfl) dX7_worthOf_3) rfl ?_
  refine r_ifeq C (tgt := 34) dX7_worthOf_6 (by decide) (fun c1 => ?_) (fun c1 => ?_)
  · rw [if_pos c1] at hv
    refine r_ldc C wc_X7_127 dX7_worthOf_34 ?_
    exact r_iret rfl C (congrArg (fun z => some (Value.int z)) hv) rfl dX7_worthOf_36
  · rw [if_neg c1] at hv
    have e2 := mdeed_nat hn c1
    refine r_iln C dX7_worthOf_9 rfl 2 rfl ?_
    refine r_i2l C dX7_worthOf_10 ?_
    refine r_lc C (v := (0 : Int64)) dX7_worthOf_11 (by decide) ?_
    refine r_ldc2 C wc_X7_93 dX7_worthOf_12 ?_
    refine aft_rd (st' := [.int (s_X7_in person.toInt64 (0 : Int64) (3 : Int64))]) (run_S (rest := []) C (c_X7_in l D person.toInt64 (0 : Int64) (3 : Int64) ) ok_X7_in ws_X7_in wm_X7_87 [] rfl ⟨Nat.le_of_ble_eq_true rfl, Nat.le_of_ble_eq_true rfl⟩ rfl rfl (Nat.le_of_ble_eq_true rfl) dX7_worthOf_15) rfl ?_
    refine r_ifeq C (tgt := 34) dX7_worthOf_18 (by decide) (fun c3 => ?_) (fun c3 => ?_)
    · rw [if_pos c3] at hv
      refine r_ldc C wc_X7_127 dX7_worthOf_34 ?_
      exact r_iret rfl C (congrArg (fun z => some (Value.int z)) hv) rfl dX7_worthOf_36
    · rw [if_neg c3] at hv
      have e4 := m03_nat c3
      refine r_aln C dX7_worthOf_21 rfl 0 rfl ?_
      refine gf_X7_25 C 0 rfl rfl dX7_worthOf_22 ?_
      refine r_ic C (v := (4 : Int32)) dX7_worthOf_25 (by decide) ?_
      refine r_iln C dX7_worthOf_26 rfl 1 rfl ?_
      refine r_imul C dX7_worthOf_27 ?_
      refine r_iln C dX7_worthOf_28 rfl 2 rfl ?_
      refine r_iadd C dX7_worthOf_29 ?_
      refine r_iald C 6 ((4 * deed.toNatClampNeg) + person.toNatClampNeg) rfl (nv_add (nv_mul rfl e2.1) e4.1) (by omega) (by decide) rfl dX7_worthOf_30 ?_
      refine r_goto C (tgt := 36) dX7_worthOf_31 (by decide) ?_
      exact r_iret rfl C (congrArg (fun z => some (Value.int z)) hv) rfl dX7_worthOf_36

def s_X7_last (n : Nat) (la : Int32) (set : Int32) : Int32 × Int32 := (if s_X7_areDeeds n set.toInt64 = (0 : Int32) then ((-1 : Int32), la) else (la, set))
set_option maxHeartbeats 8000000 in
set_option maxRecDepth 100000 in
theorem c_X7_last (l : Launch) (D : va_G) (o : Nat) (q1 : Nat) (q2 : Nat) (q3 : Nat) (q4 : Nat) (q5 : Nat) (q6 : Nat) (q7 : Nat) (q8 : Nat) (q9 : Nat) (q10 : Nat) (q11 : Nat) (q12 : Nat) (q13 : Nat) (q14 : Nat) (q15 : Nat) (q16 : Nat) (q17 : Nat) (q18 : Nat) (q19 : Nat) (q20 : Nat) (q21 : Nat) (q22 : Nat) (pe : Nat) (n : Nat) (la : Int32) (ri : Int32) (td : Int32) (ys : Int32) (ty : Nat) (ap : Nat) (wg : Int32) (rd : Nat) (sm : Int32) (bt : Int32) (up : Int64) (lw : Int64) (ii : Int32) (kd : Nat → Int32) (dy : Nat → Int32) (nd : Nat → Int32) (co : Nat → Int32) (od : Nat → Int32) (wo : Nat → Int32) (tp : Nat → Int32) (rk : Nat → Int32) (ry : Nat → Int32) (rn : Nat → Int32) (vs : Nat → Int32) (bs : Nat → Int32) (ch : Nat → Int32) (tr : Nat → Int32) (en : Nat → Int32) (du : Nat → Int32) (ol : Nat → Int32) (ig : Nat → Int32) (ln : Nat → Int32) (sz : Nat → Int32) (it : Nat → Int64) (mo : Nat → Int64) (set : Int32) (hn : n ≤ 12) (h0 : va_D (fun _ => True) (wM D o q1 q2 q3 q4 q5 q6 q7 q8 q9 q10 q11 q12 q13 q14 q15 q16 q17 q18 q19 q20 q21 q22 pe n la ri td ys ty ap wg rd sm bt up lw ii kd dy nd co od wo tp rk ry rn vs bs ch tr en du ol ig ln sz it mo)) : ct l yX7_last cX7_last 3 (some .int) 2 47 D [.ref o, .int set] (wM D o q1 q2 q3 q4 q5 q6 q7 q8 q9 q10 q11 q12 q13 q14 q15 q16 q17 q18 q19 q20 q21 q22 pe n la ri td ys ty ap wg rd sm bt up lw ii kd dy nd co od wo tp rk ry rn vs bs ch tr en du ol ig ln sz it mo) (wM D o q1 q2 q3 q4 q5 q6 q7 q8 q9 q10 q11 q12 q13 q14 q15 q16 q17 q18 q19 q20 q21 q22 pe n (s_X7_last n la set).2 ri td ys ty ap wg rd sm bt up lw ii kd dy nd co od wo tp rk ry rn vs bs ch tr en du ol ig ln sz it mo) (Ad (wM D o q1 q2 q3 q4 q5 q6 q7 q8 q9 q10 q11 q12 q13 q14 q15 q16 q17 q18 q19 q20 q21 q22 pe n la ri td ys ty ap wg rd sm bt up lw ii kd dy nd co od wo tp rk ry rn vs bs ch tr en du ol ig ln sz it mo)) (some (Value.int (s_X7_last n la set).1)) := by
  obtain ⟨V, hv⟩ : ∃ V, s_X7_last n la set = V := ⟨_, rfl⟩
  rw [hv]
  refine ct_intro (own := RX7) (lv := [(0, .ref o), (1, .int set)]) (by decide) rfl (Nat.le_of_ble_eq_true rfl) rfl ?_
  intro p_ e_ s_ m_ below_ meth_ c_ C
  have hv : (if s_X7_areDeeds n set.toInt64 = (0 : Int32) then ((-1 : Int32), la) else (la, set)) = V := hv
  refine r_aln C dX7_last_0 rfl 0 rfl ?_
  refine r_iln C dX7_last_1 rfl 1 rfl ?_
  refine r_i2l C dX7_last_2 ?_
  refine aft_rd (st' := [.int (s_X7_areDeeds n set.toInt64)]) (run_V (rest := []) C (c_X7_areDeeds l D o q1 q2 q3 q4 q5 q6 q7 q8 q9 q10 q11 q12 q13 q14 q15 q16 q17 q18 q19 q20 q21 q22 pe n la ri td ys ty ap wg rd sm bt up lw ii kd dy nd co od wo tp rk ry rn vs bs ch tr en du ol ig ln sz it mo set.toInt64 (by omega)) ok_X7_areDeeds wn_X7_areDeeds wl_X7_areDeeds wm_X7_128 _ 0 rfl rfl rfl ⟨Nat.le_of_ble_eq_true rfl, Nat.le_of_ble_eq_true rfl⟩ fm_all rfl (Nat.le_of_ble_eq_true rfl) dX7_last_3) rfl ?_
  refine r_ifne C (tgt := 11) dX7_last_6 (by decide) (fun c1 => ?_) (fun c1 => ?_)
  · rw [if_neg c1] at hv
    refine r_aln C dX7_last_11 rfl 0 rfl ?_
    refine gf_X7_116 C 0 rfl rfl dX7_last_12 ?_
    refine r_isn C (lv' := [(2, .int la), (0, .ref o), (1, .int set)]) dX7_last_15 rfl (by decide) rfl ?_
    refine r_aln C dX7_last_16 rfl 1 rfl ?_
    refine r_iln C dX7_last_17 rfl 2 rfl ?_
    refine pf_X7_116 C (ws2 := wM D o q1 q2 q3 q4 q5 q6 q7 q8 q9 q10 q11 q12 q13 q14 q15 q16 q17 q18 q19 q20 q21 q22 pe n set ri td ys ty ap wg rd sm bt up lw ii kd dy nd co od wo tp rk ry rn vs bs ch tr en du ol ig ln sz it mo) h0 rfl 0 rfl (Nat.le_of_ble_eq_true rfl) dX7_last_18 rfl rfl ?_
    refine r_iln C dX7_last_21 rfl 0 rfl ?_
    exact r_iret rfl C (by rw [← hv]) (by rw [← hv]) dX7_last_22
  · rw [if_pos c1] at hv
    refine r_ic C (v := (-1 : Int32)) dX7_last_9 (by decide) ?_
    exact r_iret rfl C (by rw [← hv]) (by rw [← hv]) dX7_last_10

