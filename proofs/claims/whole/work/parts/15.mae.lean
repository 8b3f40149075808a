def s_X7_best (pe : Nat) (n : Nat) (la : Int32) (sm : Int32) (bt : Int32) (kd : Nat → Int32) (dy : Nat → Int32) (nd : Nat → Int32) (co : Nat → Int32) (wo : Nat → Int32) (vs : Nat → Int32) (bs : Nat → Int32) (k : Int32) (fair : Int32) (what : Int32) : Int32 × Int32 × Int32 × (Nat → Int32) × (Nat → Int32) := (if s_X7_in k.toInt64 (0 : Int64) (4 : Int64) = (0 : Int32) then ((-100001 : Int32), sm, bt, vs, bs) else (if s_X7_in fair.toInt64 (0 : Int64) (1 : Int64) = (0 : Int32) then ((-100001 : Int32), sm, bt, vs, bs) else (if s_X7_in what.toInt64 (0 : Int64) (1 : Int64) = (0 : Int32) then ((-100001 : Int32), sm, bt, vs, bs) else (if fair = (1 : Int32) then (if what = (0 : Int32) then ((s_X7_bestOf pe n kd dy nd co wo vs bs k (1 : Int32) la).2.2.1, (s_X7_bestOf pe n kd dy nd co wo vs bs k (1 : Int32) la).2.1, (s_X7_bestOf pe n kd dy nd co wo vs bs k (1 : Int32) la).2.2.1, (s_X7_bestOf pe n kd dy nd co wo vs bs k (1 : Int32) la).2.2.2.1, (s_X7_bestOf pe n kd dy nd co wo vs bs k (1 : Int32) la).2.2.2.2) else ((s_X7_bestOf pe n kd dy nd co wo vs bs k (1 : Int32) la).1, (s_X7_bestOf pe n kd dy nd co wo vs bs k (1 : Int32) la).2.1, (s_X7_bestOf pe n kd dy nd co wo vs bs k (1 : Int32) la).2.2.1, (s_X7_bestOf pe n kd dy nd co wo vs bs k (1 : Int32) la).2.2.2.1, (s_X7_bestOf pe n kd dy nd co wo vs bs k (1 : Int32) la).2.2.2.2)) else (if what = (0 : Int32) then ((s_X7_bestOf pe n kd dy nd co wo vs bs k (0 : Int32) la).2.2.1, (s_X7_bestOf pe n kd dy nd co wo vs bs k (0 : Int32) la).2.1, (s_X7_bestOf pe n kd dy nd co wo vs bs k (0 : Int32) la).2.2.1, (s_X7_bestOf pe n kd dy nd co wo vs bs k (0 : Int32) la).2.2.2.1, (s_X7_bestOf pe n kd dy nd co wo vs bs k (0 : Int32) la).2.2.2.2) else ((s_X7_bestOf pe n kd dy nd co wo vs bs k (0 : Int32) la).1, (s_X7_bestOf pe n kd dy nd co wo vs bs k (0 : Int32) la).2.1, (s_X7_bestOf pe n kd dy nd co wo vs bs k (0 : Int32) la).2.2.1, (s_X7_bestOf pe n kd dy nd co wo vs bs k (0 : Int32) la).2.2.2.1, (s_X7_bestOf pe n kd dy nd co wo vs bs k (0 : Int32) la).2.2.2.2))))))
set_option maxHeartbeats 8000000 in
set_option maxRecDepth 100000 in
theorem c_X7_best (l : Launch) (D : va_G) (o : Nat) (q1 : Nat) (q2 : Nat) (q3 : Nat) (q4 : Nat) (q5 : Nat) (q6 : Nat) (q7 : Nat) (q8 : Nat) (q9 : Nat) (q10 : Nat) (q11 : Nat) (q12 : Nat) (q13 : Nat) (q14 : Nat) (q15 : Nat) (q16 : Nat) (q17 : Nat) (q18 : Nat) (q19 : Nat) (q20 : Nat) (q21 : Nat) (q22 : Nat) (pe : Nat) (n : Nat) (la : Int32) (ri : Int32) (td : Int32) (ys : Int32) (ty : Nat) (ap : Nat) (wg : Int32) (rd : Nat) (sm : Int32) (bt : Int32) (up : Int64) (lw : Int64) (ii : Int32) (kd : Nat → Int32) (dy : Nat → Int32) (nd : Nat → Int32) (co : Nat → Int32) (od : Nat → Int32) (wo : Nat → Int32) (tp : Nat → Int32) (rk : Nat → Int32) (ry : Nat → Int32) (rn : Nat → Int32) (vs : Nat → Int32) (bs : Nat → Int32) (ch : Nat → Int32) (tr : Nat → Int32) (en : Nat → Int32) (du : Nat → Int32) (ol : Nat → Int32) (ig : Nat → Int32) (ln : Nat → Int32) (sz : Nat → Int32) (it : Nat → Int64) (mo : Nat → Int64) (k : Int32) (fair : Int32) (what : Int32) (hn : n ≤ 12) (hp : 1 ≤ pe ∧ pe ≤ 4) (h0 : va_D (fun _ => True) (wM D o q1 q2 q3 q4 q5 q6 q7 q8 q9 q10 q11 q12 q13 q14 q15 q16 q17 q18 q19 q20 q21 q22 pe n la ri td ys ty ap wg rd sm bt up lw ii kd dy nd co od wo tp rk ry rn vs bs ch tr en du ol ig ln sz it mo)) : ct l yX7_best cX7_best 5 (some .int) 4 101 D [.ref o, .int k, .int fair, .int what] (wM D o q1 q2 q3 q4 q5 q6 q7 q8 q9 q10 q11 q12 q13 q14 q15 q16 q17 q18 q19 q20 q21 q22 pe n la ri td ys ty ap wg rd sm bt up lw ii kd dy nd co od wo tp rk ry rn vs bs ch tr en du ol ig ln sz it mo) (wM D o q1 q2 q3 q4 q5 q6 q7 q8 q9 q10 q11 q12 q13 q14 q15 q16 q17 q18 q19 q20 q21 q22 pe n la ri td ys ty ap wg rd (s_X7_best pe n la sm bt kd dy nd co wo vs bs k fair what).2.1 (s_X7_best pe n la sm bt kd dy nd co wo vs bs k fair what).2.2.1 up lw ii kd dy nd co od wo tp rk ry rn (s_X7_best pe n la sm bt kd dy nd co wo vs bs k fair what).2.2.2.1 (s_X7_best pe n la sm bt kd dy nd co wo vs bs k fair what).2.2.2.2 ch tr en du ol ig ln sz it mo) (Ad (wM D o q1 q2 q3 q4 q5 q6 q7 q8 q9 q10 q11 q12 q13 q14 q15 q16 q17 q18 q19 q20 q21 q22 pe n la ri td ys ty ap wg rd sm bt up lw ii kd dy nd co od wo tp rk ry rn vs bs ch tr en du ol ig ln sz it mo)) (some (Value.int (s_X7_best pe n la sm bt kd dy nd co wo vs bs k fair what).1)) := by
  obtain ⟨V, hv⟩ : ∃ V, s_X7_best pe n la sm bt kd dy nd co wo vs bs k fair what = V := ⟨_, rfl⟩
  rw [hv]
  refine ct_intro (own := RX7) (lv := [(0, .ref o), (1, .int k), (2, .int fair), (3, .int what)]) (by decide) rfl (Nat.le_of_ble_eq_true rfl) rfl ?_
  intro p_ e_ s_ m_ below_ meth_ c_ C
  have hv : (if s_X7_in k.toInt64 (0 : Int64) (4 : Int64) = (0 : Int32) then ((-100001 : Int32), sm, bt, vs, bs) else (if s_X7_in fair.toInt64 (0 : Int64) (1 : Int64) = (0 : Int32) then ((-100001 : Int32), sm, bt, vs, bs) else (if s_X7_in what.toInt64 (0 : Int64) (1 : Int64) = (0 : Int32) then ((-100001 : Int32), sm, bt, vs, bs) else (if fair = (1 : Int32) then (if what = (0 : Int32) then ((s_X7_bestOf pe n kd dy nd co wo vs bs k (1 : Int32) la).2.2.1, (s_X7_bestOf pe n kd dy nd co wo vs bs k (1 : Int32) la).2.1, (s_X7_bestOf pe n kd dy nd co wo vs bs k (1 : Int32) la).2.2.1, (s_X7_bestOf pe n kd dy nd co wo vs bs k (1 : Int32) la).2.2.2.1, (s_X7_bestOf pe n kd dy nd co wo vs bs k (1 : Int32) la).2.2.2.2) else ((s_X7_bestOf pe n kd dy nd co wo vs bs k (1 : Int32) la).1, (s_X7_bestOf pe n kd dy nd co wo vs bs k (1 : Int32) la).2.1, (s_X7_bestOf pe n kd dy nd co wo vs bs k (1 : Int32) la).2.2.1, (s_X7_bestOf pe n kd dy nd co wo vs bs k (1 : Int32) la).2.2.2.1, (s_X7_bestOf pe n kd dy nd co wo vs bs k (1 : Int32) la).2.2.2.2)) else (if what = (0 : Int32) then ((s_X7_bestOf pe n kd dy nd co wo vs bs k (0 : Int32) la).2.2.1, (s_X7_bestOf pe n kd dy nd co wo vs bs k (0 : Int32) la).2.1, (s_X7_bestOf pe n kd dy nd co wo vs bs k (0 : Int32) la).2.2.1, (s_X7_bestOf pe n kd dy nd co wo vs bs k (0 : Int32) la).2.2.2.1, (s_X7_bestOf pe n kd dy nd co wo vs bs k (0 : Int32) la).2.2.2.2) else ((s_X7_bestOf pe n kd dy nd co wo vs bs k (0 : Int32) la).1, (s_X7_bestOf pe n kd dy nd co wo vs bs k (0 : Int32) la).2.1, (s_X7_bestOf pe n kd dy nd co wo vs bs k (0 : Int32) la).2.2.1, (s_X7_bestOf pe n kd dy nd co wo vs bs k (0 : Int32) la).2.2.2.1, (s_X7_bestOf pe n kd dy nd co wo vs bs k (0 : Int32) la).2.2.2.2)))))) = V := hv
  refine r_iln C dX7_best_0 rfl 1 rfl ?_
  refine r_i2l C dX7_best_1 ?_
  refine r_lc C (v := (0 : Int64)) dX7_best_2 (by decide) ?_
  refine r_ldc2 C wc_X7_91 dX7_best_3 ?_
  refine aft_rd (st' := [.int (s_X7_in k.toInt64 (0 : Int64) (4 : Int64))]) (run_S (rest := []) C (c_X7_in l D k.toInt64 (0 : Int64) (4 : Int64) ) ok_X7_in ws_X7_in wm_X7_87 [] rfl ⟨Nat.le_of_ble_eq_true rfl, Nat.le_of_ble_eq_true rfl⟩ rfl rfl (Nat.le_of_ble_eq_true rfl) dX7_best_6) rfl ?_
  refine r_ifeq C (tgt := 32) dX7_best_9 (by decide) (fun c1 => ?_) (fun c1 => ?_)
  · rw [if_pos c1] at hv
    refine r_ldc C wc_X7_127 dX7_best_32 ?_
    exact r_iret rfl C (by rw [← hv]) (by rw [← hv]) dX7_best_34
  · rw [if_neg c1] at hv
    refine r_iln C dX7_best_12 rfl 2 rfl ?_
    refine r_i2l C dX7_best_13 ?_
    refine r_lc C (v := (0 : Int64)) dX7_best_14 (by decide) ?_
    refine r_lc C (v := (1 : Int64)) dX7_best_15 (by decide) ?_
    refine aft_rd (st' := [.int (s_X7_in fair.toInt64 (0 : Int64) (1 : Int64))]) (run_S (rest := []) C (c_X7_in l D fair.toInt64 (0 : Int64) (1 : Int64) ) ok_X7_in ws_X7_in wm_X7_87 [] rfl ⟨Nat.le_of_ble_eq_true rfl, Nat.le_of_ble_eq_true rfl⟩ rfl rfl (Nat.le_of_ble_eq_true rfl) dX7_best_16) rfl ?_
    refine r_ifeq C (tgt := 32) dX7_best_19 (by decide) (fun c2 => ?_) (fun c2 => ?_)
    · rw [if_pos c2] at hv
      refine r_ldc C wc_X7_127 dX7_best_32 ?_
      exact r_iret rfl C (by rw [← hv]) (by rw [← hv]) dX7_best_34
    · rw [if_neg c2] at hv
      refine r_iln C dX7_best_22 rfl 3 rfl ?_
      refine r_i2l C dX7_best_23 ?_
      refine r_lc C (v := (0 : Int64)) dX7_best_24 (by decide) ?_
      refine r_lc C (v := (1 : Int64)) dX7_best_25 (by decide) ?_
      refine aft_rd (st' := [.int (s_X7_in what.toInt64 (0 : Int64) (1 : Int64))]) (run_S (rest := []) C (c_X7_in l D what.toInt64 (0 : Int64) (1 : Int64) ) ok_X7_in ws_X7_in wm_X7_87 [] rfl ⟨Nat.le_of_ble_eq_true rfl, Nat.le_of_ble_eq_true rfl⟩ rfl rfl (Nat.le_of_ble_eq_true rfl) dX7_best_26) rfl ?_
      refine r_ifne C (tgt := 35) dX7_best_29 (by decide) (fun c3 => ?_) (fun c3 => ?_)
      · rw [if_neg c3] at hv
        refine r_aln C dX7_best_35 rfl 0 rfl ?_
        refine r_iln C dX7_best_36 rfl 1 rfl ?_
        refine r_iln C dX7_best_37 rfl 2 rfl ?_
        refine r_ic C (v := (1 : Int32)) dX7_best_38 (by decide) ?_
        refine r_icne C (tgt := 46) dX7_best_39 (by decide) (fun c4 => ?_) (fun c4 => ?_)
        · rw [if_neg c4] at hv
          refine r_ic C (v := (0 : Int32)) dX7_best_46 (by decide) ?_
          refine r_aln C dX7_best_47 rfl 0 rfl ?_
          refine gf_X7_116 C 0 rfl rfl dX7_best_48 ?_
          refine aft_wa (ws2 := wM D o q1 q2 q3 q4 q5 q6 q7 q8 q9 q10 q11 q12 q13 q14 q15 q16 q17 q18 q19 q20 q21 q22 pe n la ri td ys ty ap wg rd ((s_X7_bestOf pe n kd dy nd co wo vs bs k (0 : Int32) la).2.1) ((s_X7_bestOf pe n kd dy nd co wo vs bs k (0 : Int32) la).2.2.1) up lw ii kd dy nd co od wo tp rk ry rn ((s_X7_bestOf pe n kd dy nd co wo vs bs k (0 : Int32) la).2.2.2.1) ((s_X7_bestOf pe n kd dy nd co wo vs bs k (0 : Int32) la).2.2.2.2) ch tr en du ol ig ln sz it mo) (st' := [.int ((s_X7_bestOf pe n kd dy nd co wo vs bs k (0 : Int32) la).1)]) h0 rfl rfl (run_V (rest := []) C (c_X7_bestOf l D o q1 q2 q3 q4 q5 q6 q7 q8 q9 q10 q11 q12 q13 q14 q15 q16 q17 q18 q19 q20 q21 q22 pe n la ri td ys ty ap wg rd sm bt up lw ii kd dy nd co od wo tp rk ry rn vs bs ch tr en du ol ig ln sz it mo k (0 : Int32) la (by omega) (by omega) (dis_all h0 rfl)) ok_X7_bestOf wn_X7_bestOf wl_X7_bestOf wm_X7_191 _ 0 rfl rfl rfl ⟨Nat.le_of_ble_eq_true rfl, Nat.le_of_ble_eq_true rfl⟩ fm_all rfl (Nat.le_of_ble_eq_true rfl) dX7_best_51) rfl rfl ?_
          refine r_is C (lv' := [(4, .int ((s_X7_bestOf pe n kd dy nd co wo vs bs k (0 : Int32) la).1)), (0, .ref o), (1, .int k), (2, .int fair), (3, .int what)]) dX7_best_54 (by decide) rfl ?_
          refine r_iln C dX7_best_56 rfl 4 rfl ?_
          refine r_ifne C (tgt := 67) dX7_best_57 (by decide) (fun c5 => ?_) (fun c5 => ?_)
          · rw [if_neg c5] at hv
            refine r_il C dX7_best_67 0 rfl ?_
            exact r_iret rfl C (by rw [← hv]) (by rw [← hv]) dX7_best_69
          · rw [if_pos c5] at hv
            refine r_aln C dX7_best_60 rfl 1 rfl ?_
            refine gf_X7_184 C 0 rfl rfl dX7_best_61 ?_
            refine r_goto C (tgt := 69) dX7_best_64 (by decide) ?_
            exact r_iret rfl C (by rw [← hv]) (by rw [← hv]) dX7_best_69
        · rw [if_pos c4] at hv
          refine r_ic C (v := (1 : Int32)) dX7_best_42 (by decide) ?_
          refine r_goto C (tgt := 47) dX7_best_43 (by decide) ?_
          refine r_aln C dX7_best_47 rfl 0 rfl ?_
          refine gf_X7_116 C 0 rfl rfl dX7_best_48 ?_
          refine aft_wa (ws2 := wM D o q1 q2 q3 q4 q5 q6 q7 q8 q9 q10 q11 q12 q13 q14 q15 q16 q17 q18 q19 q20 q21 q22 pe n la ri td ys ty ap wg rd ((s_X7_bestOf pe n kd dy nd co wo vs bs k (1 : Int32) la).2.1) ((s_X7_bestOf pe n kd dy nd co wo vs bs k (1 : Int32) la).2.2.1) up lw ii kd dy nd co od wo tp rk ry rn ((s_X7_bestOf pe n kd dy nd co wo vs bs k (1 : Int32) la).2.2.2.1) ((s_X7_bestOf pe n kd dy nd co wo vs bs k (1 : Int32) la).2.2.2.2) ch tr en du ol ig ln sz it mo) (st' := [.int ((s_X7_bestOf pe n kd dy nd co wo vs bs k (1 : Int32) la).1)]) h0 rfl rfl (run_V (rest := []) C (c_X7_bestOf l D o q1 q2 q3 q4 q5 q6 q7 q8 q9 q10 q11 q12 q13 q14 q15 q16 q17 q18 q19 q20 q21 q22 pe n la ri td ys ty ap wg rd sm bt up lw ii kd dy nd co od wo tp rk ry rn vs bs ch tr en du ol ig ln sz it mo k (1 : Int32) la (by omega) (by omega) (dis_all h0 rfl)) ok_X7_bestOf wn_X7_bestOf wl_X7_bestOf wm_X7_191 _ 0 rfl rfl rfl ⟨Nat.le_of_ble_eq_true rfl, Nat.le_of_ble_eq_true rfl⟩ fm_all rfl (Nat.le_of_ble_eq_true rfl) dX7_best_51) rfl rfl ?_
          refine r_is C (lv' := [(4, .int ((s_X7_bestOf pe n kd dy nd co wo vs bs k (1 : Int32) la).1)), (0, .ref o), (1, .int k), (2, .int fair), (3, .int what)]) dX7_best_54 (by decide) rfl ?_
          refine r_iln C dX7_best_56 rfl 4 rfl ?_
          refine r_ifne C (tgt := 67) dX7_best_57 (by decide) (fun c6 => ?_) (fun c6 => ?_)
          · rw [if_neg c6] at hv
            refine r_il C dX7_best_67 0 rfl ?_
            exact r_iret rfl C (by rw [← hv]) (by rw [← hv]) dX7_best_69
          · rw [if_pos c6] at hv
            refine r_aln C dX7_best_60 rfl 1 rfl ?_
            refine gf_X7_184 C 0 rfl rfl dX7_best_61 ?_
            refine r_goto C (tgt := 69) dX7_best_64 (by decide) ?_
            exact r_iret rfl C (by rw [← hv]) (by rw [← hv]) dX7_best_69
      · rw [if_pos c3] at hv
        refine r_ldc C wc_X7_127 dX7_best_32 ?_
        exact r_iret rfl C (by rw [← hv]) (by rw [← hv]) dX7_best_34

def bestOK (x : Int32) : Prop := x = (-4 : Int32) ∨ (x = nI x.toNatClampNeg ∧ x.toNatClampNeg < 4096)
theorem bestOK_nI {d : Nat} (h : d < 4096) : bestOK (nI d) := Or.inr (by rw [nI_clamp (by omega)]; exact ⟨rfl, h⟩)
