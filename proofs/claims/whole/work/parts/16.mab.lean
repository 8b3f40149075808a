def s_X7_net_m167_0 (dy : Nat → Int32) (deed : Int32) (d15 : Nat) : Nat := (if (nI d15) &&& ((s_X7_ahead dy deed.toNatClampNeg (dy deed.toNatClampNeg)) ^^^ (-1 : Int32)) = (0 : Int32) then 1 else 0)
def s_X7_net_L180 (kd : Nat → Int32) (it : Nat → Int64) (deed : Int32) (sheet : Int32) (i : Int32) (d15 : Nat) (nd_18 : Nat → Int32) : Nat → Nat → Int32 → Int32
  | 0, _, iw_26 => iw_26
  | k24 + 1, d25, iw_26 => (if iw_26 = (0 : Int32) then iw_26 else (if (((it (((16 * sheet.toNatClampNeg) + i.toNatClampNeg) + d25)).toInt32) >>> (deed &&& 31)) &&& (1 : Int32) = (1 : Int32) then (if s_X7_is kd (upd nd_18 deed.toNatClampNeg (nI d15)) deed.toNatClampNeg ((it (((16 * sheet.toNatClampNeg) + i.toNatClampNeg) + d25)).toInt32) (0 : Int32) = (1 : Int32) then (s_X7_net_L180 kd it deed sheet i d15 nd_18 k24 (d25 + 1) (1 : Int32)) else (s_X7_net_L180 kd it deed sheet i d15 nd_18 k24 (d25 + 1) (0 : Int32))) else (if s_X7_is kd (upd nd_18 deed.toNatClampNeg (nI d15)) deed.toNatClampNeg ((it (((16 * sheet.toNatClampNeg) + i.toNatClampNeg) + d25)).toInt32) (0 : Int32) = (0 : Int32) then (s_X7_net_L180 kd it deed sheet i d15 nd_18 k24 (d25 + 1) (1 : Int32)) else (s_X7_net_L180 kd it deed sheet i d15 nd_18 k24 (d25 + 1) (0 : Int32)))))
def s_X7_net_L144 (kd : Nat → Int32) (dy : Nat → Int32) (it : Nat → Int64) (deed : Int32) (sheet : Int32) (i : Int32) (m : Int32) : Nat → Nat → Int32 → Int32 → (Nat → Int32) → Int32 × Int32 × (Nat → Int32)
  | 0, _, cnt_16, least_17, nd_18 => (cnt_16, least_17, nd_18)
  | k14 + 1, d15, cnt_16, least_17, nd_18 => (if (s_X7_net_L180 kd it deed sheet i d15 nd_18 m.toNatClampNeg 0 (nI (s_X7_net_m167_0 dy deed d15))) = (0 : Int32) then (s_X7_net_L144 kd dy it deed sheet i m k14 (d15 + 1) (cnt_16 + (0 : Int32)) least_17 (upd nd_18 deed.toNatClampNeg (nI d15))) else (if cnt_16 = (0 : Int32) then (s_X7_net_L144 kd dy it deed sheet i m k14 (d15 + 1) (cnt_16 + (1 : Int32)) (nI d15) (upd nd_18 deed.toNatClampNeg (nI d15))) else (s_X7_net_L144 kd dy it deed sheet i m k14 (d15 + 1) (cnt_16 + (1 : Int32)) least_17 (upd nd_18 deed.toNatClampNeg (nI d15)))))
def s_X7_net_L72 (n : Nat) (nd : Nat → Int32) (it : Nat → Int64) (sheet : Int32) (i : Int32) (K : Int32 × (Nat → Int32)) : Nat → Nat → Int32 × (Nat → Int32)
  | 0, _ => K
  | k11 + 1, d12 => (if s_X7_areDeeds n (it (((16 * sheet.toNatClampNeg) + i.toNatClampNeg) + d12)) = (0 : Int32) then ((-2 : Int32), nd) else (s_X7_net_L72 n nd it sheet i K k11 (d12 + 1)))
def s_X7_net (n : Nat) (kd : Nat → Int32) (dy : Nat → Int32) (nd : Nat → Int32) (ln : Nat → Int32) (sz : Nat → Int32) (it : Nat → Int64) (deed : Int32) (sheet : Int32) (lane : Int32) (i : Int32) (m : Int32) (what : Int32) : Int32 × (Nat → Int32) := (if s_X7_isDeed n deed.toInt64 = (0 : Int32) then ((-1 : Int32), nd) else (if s_X7_isSheet sheet = (0 : Int32) then ((-1 : Int32), nd) else (if s_X7_isLane lane = (0 : Int32) then ((-1 : Int32), nd) else (if s_X7_in m.toInt64 (1 : Int64) (8 : Int64) = (0 : Int32) then ((-1 : Int32), nd) else (if s_X7_in what.toInt64 (0 : Int64) (1 : Int64) = (0 : Int32) then ((-1 : Int32), nd) else (if s_X7_why ln sz sheet.toNatClampNeg lane i m < (0 : Int32) then (s_X7_why ln sz sheet.toNatClampNeg lane i m, nd) else (s_X7_net_L72 n nd it sheet i (if what = (0 : Int32) then (((s_X7_net_L144 kd dy it deed sheet i m (2 ^ deed.toNatClampNeg) 0 (0 : Int32) (-4 : Int32) nd).1), upd ((s_X7_net_L144 kd dy it deed sheet i m (2 ^ deed.toNatClampNeg) 0 (0 : Int32) (-4 : Int32) nd).2.2) deed.toNatClampNeg (nd deed.toNatClampNeg)) else (((s_X7_net_L144 kd dy it deed sheet i m (2 ^ deed.toNatClampNeg) 0 (0 : Int32) (-4 : Int32) nd).2.1), upd ((s_X7_net_L144 kd dy it deed sheet i m (2 ^ deed.toNatClampNeg) 0 (0 : Int32) (-4 : Int32) nd).2.2) deed.toNatClampNeg (nd deed.toNatClampNeg))) m.toNatClampNeg 0)))))))
set_option maxHeartbeats 8000000 in
set_option maxRecDepth 100000 in
theorem c_X7_net (l : Launch) (D : va_G) (o : Nat) (q1 : Nat) (q2 : Nat) (q3 : Nat) (q4 : Nat) (q5 : Nat) (q6 : Nat) (q7 : Nat) (q8 : Nat) (q9 : Nat) (q10 : Nat) (q11 : Nat) (q12 : Nat) (q13 : Nat) (q14 : Nat) (q15 : Nat) (q16 : Nat) (q17 : Nat) (q18 : Nat) (q19 : Nat) (q20 : Nat) (q21 : Nat) (q22 : Nat) (pe : Nat) (n : Nat) (la : Int32) (ri : Int32) (td : Int32) (ys : Int32) (ty : Nat) (ap : Nat) (wg : Int32) (rd : Nat) (sm : Int32) (bt : Int32) (up : Int64) (lw : Int64) (ii : Int32) (kd : Nat → Int32) (dy : Nat → Int32) (nd : Nat → Int32) (co : Nat → Int32) (od : Nat → Int32) (wo : Nat → Int32) (tp : Nat → Int32) (rk : Nat → Int32) (ry : Nat → Int32) (rn : Nat → Int32) (vs : Nat → Int32) (bs : Nat → Int32) (ch : Nat → Int32) (tr : Nat → Int32) (en : Nat → Int32) (du : Nat → Int32) (ol : Nat → Int32) (ig : Nat → Int32) (ln : Nat → Int32) (sz : Nat → Int32) (it : Nat → Int64) (mo : Nat → Int64) (deed : Int32) (sheet : Int32) (lane : Int32) (i : Int32) (m : Int32) (what : Int32) (hn : n ≤ 12) (hz : ∀ j, j < 4 → ∃ z : Nat, z ≤ 16 ∧ sz j = nI z) (h0 : va_D (fun _ => True) (wM D o q1 q2 q3 q4 q5 q6 q7 q8 q9 q10 q11 q12 q13 q14 q15 q16 q17 q18 q19 q20 q21 q22 pe n la ri td ys ty ap wg rd sm bt up lw ii kd dy nd co od wo tp rk ry rn vs bs ch tr en du ol ig ln sz it mo)) : ct l yX7_net cX7_net 16 (some .int) 2 47 D [.ref o, .int deed, .int sheet, .int lane, .int i, .int m, .int what] (wM D o q1 q2 q3 q4 q5 q6 q7 q8 q9 q10 q11 q12 q13 q14 q15 q16 q17 q18 q19 q20 q21 q22 pe n la ri td ys ty ap wg rd sm bt up lw ii kd dy nd co od wo tp rk ry rn vs bs ch tr en du ol ig ln sz it mo) (wM D o q1 q2 q3 q4 q5 q6 q7 q8 q9 q10 q11 q12 q13 q14 q15 q16 q17 q18 q19 q20 q21 q22 pe n la ri td ys ty ap wg rd sm bt up lw ii kd dy (s_X7_net n kd dy nd ln sz it deed sheet lane i m what).2 co od wo tp rk ry rn vs bs ch tr en du ol ig ln sz it mo) (Ad (wM D o q1 q2 q3 q4 q5 q6 q7 q8 q9 q10 q11 q12 q13 q14 q15 q16 q17 q18 q19 q20 q21 q22 pe n la ri td ys ty ap wg rd sm bt up lw ii kd dy nd co od wo tp rk ry rn vs bs ch tr en du ol ig ln sz it mo)) (some (Value.int (s_X7_net n kd dy nd ln sz it deed sheet lane i m what).1)) := by
  obtain ⟨V, hv⟩ : ∃ V, s_X7_net n kd dy nd ln sz it deed sheet lane i m what = V := ⟨_, rfl⟩
  rw [hv]
  refine ct_intro (own := RX7) (lv := [(0, .ref o), (1, .int deed), (2, .int sheet), (3, .int lane), (4, .int i), (5, .int m), (6, .int what)]) (by decide) rfl (Nat.le_of_ble_eq_true rfl) rfl ?_
  intro p_ e_ s_ m_ below_ meth_ c_ C
  have hv : (if s_X7_isDeed n deed.toInt64 = (0 : Int32) then ((-1 : Int32), nd) else (if s_X7_isSheet sheet = (0 : Int32) then ((-1 : Int32), nd) else (if s_X7_isLane lane = (0 : Int32) then ((-1 : Int32), nd) else (if s_X7_in m.toInt64 (1 : Int64) (8 : Int64) = (0 : Int32) then ((-1 : Int32), nd) else (if s_X7_in what.toInt64 (0 : Int64) (1 : Int64) = (0 : Int32) then ((-1 : Int32), nd) else (if s_X7_why ln sz sheet.toNatClampNeg lane i m < (0 : Int32) then (s_X7_why ln sz sheet.toNatClampNeg lane i m, nd) else (s_X7_net_L72 n nd it sheet i (if what = (0 : Int32) then (((s_X7_net_L144 kd dy it deed sheet i m (2 ^ deed.toNatClampNeg) 0 (0 : Int32) (-4 : Int32) nd).1), upd ((s_X7_net_L144 kd dy it deed sheet i m (2 ^ deed.toNatClampNeg) 0 (0 : Int32) (-4 : Int32) nd).2.2) deed.toNatClampNeg (nd deed.toNatClampNeg)) else (((s_X7_net_L144 kd dy it deed sheet i m (2 ^ deed.toNatClampNeg) 0 (0 : Int32) (-4 : Int32) nd).2.1), upd ((s_X7_net_L144 kd dy it deed sheet i m (2 ^ deed.toNatClampNeg) 0 (0 : Int32) (-4 : Int32) nd).2.2) deed.toNatClampNeg (nd deed.toNatClampNeg))) m.toNatClampNeg 0))))))) = V := hv
  refine r_aln C dX7_net_0 rfl 0 rfl ?_
  refine r_iln C dX7_net_1 rfl 1 rfl ?_
  refine r_i2l C dX7_net_2 ?_
  refine aft_rd (st' := [.int (s_X7_isDeed n deed.toInt64)]) (run_V (rest := []) C (c_X7_isDeed l D o q1 q2 q3 q4 q5 q6 q7 q8 q9 q10 q11 q12 q13 q14 q15 q16 q17 q18 q19 q20 q21 q22 pe n la ri td ys ty ap wg rd sm bt up lw ii kd dy nd co od wo tp rk ry rn vs bs ch tr en du ol ig ln sz it mo deed.toInt64 ) ok_X7_isDeed wn_X7_isDeed wl_X7_isDeed wm_X7_109 _ 0 rfl rfl rfl ⟨Nat.le_of_ble_eq_true rfl, Nat.le_of_ble_eq_true rfl⟩ fm_all rfl (Nat.le_of_ble_eq_true rfl) dX7_net_3) rfl ?_
  refine r_ifeq C (tgt := 47) dX7_net_6 (by decide) (fun c1 => ?_) (fun c1 => ?_)
  · rw [if_pos c1] at hv
    refine r_ic C (v := (-1 : Int32)) dX7_net_47 (by decide) ?_
    exact r_iret rfl C (by rw [← hv]) (by rw [← hv]) dX7_net_48
  · rw [if_neg c1] at hv
    have e2 := mdeed_nat hn c1
    refine r_iln C dX7_net_9 rfl 2 rfl ?_
    refine aft_rd (st' := [.int (s_X7_isSheet sheet)]) (run_S (rest := []) C (c_X7_isSheet l D sheet ) ok_X7_isSheet ws_X7_isSheet wm_X7_228 [] rfl ⟨Nat.le_of_ble_eq_true rfl, Nat.le_of_ble_eq_true rfl⟩ rfl rfl (Nat.le_of_ble_eq_true rfl) dX7_net_10) rfl ?_
    refine r_ifeq C (tgt := 47) dX7_net_13 (by decide) (fun c3 => ?_) (fun c3 => ?_)
    · rw [if_pos c3] at hv
      refine r_ic C (v := (-1 : Int32)) dX7_net_47 (by decide) ?_
      exact r_iret rfl C (by rw [← hv]) (by rw [← hv]) dX7_net_48
    · rw [if_neg c3] at hv
      have e4 := mSheet_nat c3
      refine r_iln C dX7_net_16 rfl 3 rfl ?_
      refine aft_rd (st' := [.int (s_X7_isLane lane)]) (run_S (rest := []) C (c_X7_isLane l D lane ) ok_X7_isLane ws_X7_isLane wm_X7_231 [] rfl ⟨Nat.le_of_ble_eq_true rfl, Nat.le_of_ble_eq_true rfl⟩ rfl rfl (Nat.le_of_ble_eq_true rfl) dX7_net_17) rfl ?_
      refine r_ifeq C (tgt := 47) dX7_net_20 (by decide) (fun c5 => ?_) (fun c5 => ?_)
      · rw [if_pos c5] at hv
        refine r_ic C (v := (-1 : Int32)) dX7_net_47 (by decide) ?_
        exact r_iret rfl C (by rw [← hv]) (by rw [← hv]) dX7_net_48
      · rw [if_neg c5] at hv
        refine r_il C dX7_net_23 5 rfl ?_
        refine r_i2l C dX7_net_25 ?_
        refine r_lc C (v := (1 : Int64)) dX7_net_26 (by decide) ?_
        refine r_ldc2 C wc_X7_240 dX7_net_27 ?_
        refine aft_rd (st' := [.int (s_X7_in m.toInt64 (1 : Int64) (8 : Int64))]) (run_S (rest := []) C (c_X7_in l D m.toInt64 (1 : Int64) (8 : Int64) ) ok_X7_in ws_X7_in wm_X7_87 [] rfl ⟨Nat.le_of_ble_eq_true rfl, Nat.le_of_ble_eq_true rfl⟩ rfl rfl (Nat.le_of_ble_eq_true rfl) dX7_net_30) rfl ?_
        refine r_ifeq C (tgt := 47) dX7_net_33 (by decide) (fun c6 => ?_) (fun c6 => ?_)
        · rw [if_pos c6] at hv
          refine r_ic C (v := (-1 : Int32)) dX7_net_47 (by decide) ?_
          exact r_iret rfl C (by rw [← hv]) (by rw [← hv]) dX7_net_48
        · rw [if_neg c6] at hv
          have e7 := m18_nat c6
          refine r_il C dX7_net_36 6 rfl ?_
          refine r_i2l C dX7_net_38 ?_
          refine r_lc C (v := (0 : Int64)) dX7_net_39 (by decide) ?_
          refine r_lc C (v := (1 : Int64)) dX7_net_40 (by decide) ?_
          refine aft_rd (st' := [.int (s_X7_in what.toInt64 (0 : Int64) (1 : Int64))]) (run_S (rest := []) C (c_X7_in l D what.toInt64 (0 : Int64) (1 : Int64) ) ok_X7_in ws_X7_in wm_X7_87 [] rfl ⟨Nat.le_of_ble_eq_true rfl, Nat.le_of_ble_eq_true rfl⟩ rfl rfl (Nat.le_of_ble_eq_true rfl) dX7_net_41) rfl ?_
          refine r_ifne C (tgt := 49) dX7_net_44 (by decide) (fun c8 => ?_) (fun c8 => ?_)
          · rw [if_neg c8] at hv
            refine r_aln C dX7_net_49 rfl 0 rfl ?_
            refine r_iln C dX7_net_50 rfl 2 rfl ?_
            refine r_iln C dX7_net_51 rfl 3 rfl ?_
            refine r_il C dX7_net_52 4 rfl ?_
            refine r_il C dX7_net_54 5 rfl ?_
            refine r_stk (st2 := [.int m, .int i, .int lane, .int (nI sheet.toNatClampNeg), .ref o]) (congrArg (fun (z : Int32) => ([.int m, .int i, .int lane, .int z, .ref o] : List Value)) e4.1) ?_
            refine aft_rd (st' := [.int (s_X7_why ln sz sheet.toNatClampNeg lane i m)]) (run_V (rest := []) C (c_X7_why l D o q1 q2 q3 q4 q5 q6 q7 q8 q9 q10 q11 q12 q13 q14 q15 q16 q17 q18 q19 q20 q21 q22 pe n la ri td ys ty ap wg rd sm bt up lw ii kd dy nd co od wo tp rk ry rn vs bs ch tr en du ol ig ln sz it mo sheet.toNatClampNeg lane i m (by omega)) ok_X7_why wn_X7_why wl_X7_why wm_X7_234 _ 0 rfl rfl rfl ⟨Nat.le_of_ble_eq_true rfl, Nat.le_of_ble_eq_true rfl⟩ fm_all rfl (Nat.le_of_ble_eq_true rfl) dX7_net_56) rfl ?_
            refine r_is C (lv' := [(7, .int (s_X7_why ln sz sheet.toNatClampNeg lane i m)), (0, .ref o), (1, .int deed), (2, .int sheet), (3, .int lane), (4, .int i), (5, .int m), (6, .int what)]) dX7_net_59 (by decide) rfl ?_
            refine r_il C dX7_net_61 0 rfl ?_
            refine r_ifge C (tgt := 69) dX7_net_63 (by decide) (fun c9 => ?_) (fun c9 => ?_)
            · rw [if_neg c9] at hv
              have e10 := mwhy_i (mn := m.toNatClampNeg) (m18_nat (by assumption)).1 (by omega) hz (by omega) c9
              refine r_ic C (v := (0 : Int32)) dX7_net_69 (by decide) ?_
              refine r_is C (lv' := [(8, .int (0 : Int32)), (7, .int (s_X7_why ln sz sheet.toNatClampNeg lane i m)), (0, .ref o), (1, .int deed), (2, .int sheet), (3, .int lane), (4, .int i), (5, .int m), (6, .int what)]) dX7_net_70 (by decide) rfl ?_
              have L46 : ∀ (k11 : Nat) (d12 : Nat), (d12 + k11 = m.toNatClampNeg) → (s_X7_net_L72 n nd it sheet i (if what = (0 : Int32) then (((s_X7_net_L144 kd dy it deed sheet i m (2 ^ deed.toNatClampNeg) 0 (0 : Int32) (-4 : Int32) nd).1), upd ((s_X7_net_L144 kd dy it deed sheet i m (2 ^ deed.toNatClampNeg) 0 (0 : Int32) (-4 : Int32) nd).2.2) deed.toNatClampNeg (nd deed.toNatClampNeg)) else (((s_X7_net_L144 kd dy it deed sheet i m (2 ^ deed.toNatClampNeg) 0 (0 : Int32) (-4 : Int32) nd).2.1), upd ((s_X7_net_L144 kd dy it deed sheet i m (2 ^ deed.toNatClampNeg) 0 (0 : Int32) (-4 : Int32) nd).2.2) deed.toNatClampNeg (nd deed.toNatClampNeg))) k11 d12) = V → GM p_ l e_ s_ m_ below_ meth_ c_ D 2 47 16 [.ref o, .int deed, .int sheet, .int lane, .int i, .int m, .int what] (wM D o q1 q2 q3 q4 q5 q6 q7 q8 q9 q10 q11 q12 q13 q14 q15 q16 q17 q18 q19 q20 q21 q22 pe n la ri td ys ty ap wg rd sm bt up lw ii kd dy V.2 co od wo tp rk ry rn vs bs ch tr en du ol ig ln sz it mo) (Ad (wM D o q1 q2 q3 q4 q5 q6 q7 q8 q9 q10 q11 q12 q13 q14 q15 q16 q17 q18 q19 q20 q21 q22 pe n la ri td ys ty ap wg rd sm bt up lw ii kd dy nd co od wo tp rk ry rn vs bs ch tr en du ol ig ln sz it mo)) (some (Value.int V.1)) (wM D o q1 q2 q3 q4 q5 q6 q7 q8 q9 q10 q11 q12 q13 q14 q15 q16 q17 q18 q19 q20 q21 q22 pe n la ri td ys ty ap wg rd sm bt up lw ii kd dy nd co od wo tp rk ry rn vs bs ch tr en du ol ig ln sz it mo) 72 [(8, .int (nI d12)), (7, .int (s_X7_why ln sz sheet.toNatClampNeg lane i m)), (0, .ref o), (1, .int deed), (2, .int sheet), (3, .int lane), (4, .int i), (5, .int m), (6, .int what)] [] := by
                intro k11
                induction k11 with
                | zero =>
                  intro d12 hk hv
                  have hv : (if what = (0 : Int32) then (((s_X7_net_L144 kd dy it deed sheet i m (2 ^ deed.toNatClampNeg) 0 (0 : Int32) (-4 : Int32) nd).1), upd ((s_X7_net_L144 kd dy it deed sheet i m (2 ^ deed.toNatClampNeg) 0 (0 : Int32) (-4 : Int32) nd).2.2) deed.toNatClampNeg (nd deed.toNatClampNeg)) else (((s_X7_net_L144 kd dy it deed sheet i m (2 ^ deed.toNatClampNeg) 0 (0 : Int32) (-4 : Int32) nd).2.1), upd ((s_X7_net_L144 kd dy it deed sheet i m (2 ^ deed.toNatClampNeg) 0 (0 : Int32) (-4 : Int32) nd).2.2) deed.toNatClampNeg (nd deed.toNatClampNeg))) = V := hv
                  refine r_il C dX7_net_72 0 rfl ?_
                  refine r_il C dX7_net_74 7 rfl ?_
                  refine r_icge C (tgt := 110) dX7_net_76 (by decide) (fun c13 => ?_) (fun c13 => ?_)
                  · skip
                    have hpd := pw_le (n := deed.toNatClampNeg) (by omega)
                    refine r_iln C dX7_net_110 rfl 3 rfl ?_
                    refine r_aln C dX7_net_111 rfl 2 rfl ?_
                    refine gf_X7_13 C 0 rfl rfl dX7_net_112 ?_
                    refine r_iln C dX7_net_115 rfl 3 rfl ?_
                    refine r_iald C 2 deed.toNatClampNeg rfl e2.1 (by omega) (by decide) rfl dX7_net_116 ?_
                    refine r_aln C dX7_net_117 rfl 2 rfl ?_
                    refine gf_X7_13 C 0 rfl rfl dX7_net_118 ?_
                    refine r_stk (st2 := [.ref q2, .int (dy deed.toNatClampNeg), .int (nI deed.toNatClampNeg)]) (congrArg (fun (z : Int32) => ([.ref q2, .int (dy deed.toNatClampNeg), .int z] : List Value)) e2.1) ?_
                    refine aft_rd (st' := [.int (s_X7_ahead dy deed.toNatClampNeg (dy deed.toNatClampNeg))]) (run_S (rest := []) C (c_X7_ahead l D q2 dy deed.toNatClampNeg (dy deed.toNatClampNeg) (by omega)) ok_X7_ahead ws_X7_ahead wm_X7_97 [2] rfl ⟨Nat.le_of_ble_eq_true rfl, Nat.le_of_ble_eq_true rfl⟩ rfl rfl (Nat.le_of_ble_eq_true rfl) dX7_net_121) rfl ?_
                    refine r_is C (lv' := [(8, .int (s_X7_ahead dy deed.toNatClampNeg (dy deed.toNatClampNeg))), (7, .int (s_X7_why ln sz sheet.toNatClampNeg lane i m)), (0, .ref o), (1, .int deed), (2, .int sheet), (3, .int lane), (4, .int i), (5, .int m), (6, .int what)]) dX7_net_124 (by decide) rfl ?_
                    refine r_aln C dX7_net_126 rfl 2 rfl ?_
                    refine gf_X7_16 C 0 rfl rfl dX7_net_127 ?_
                    refine r_iln C dX7_net_130 rfl 3 rfl ?_
                    refine r_iald C 3 deed.toNatClampNeg rfl e2.1 (by omega) (by decide) rfl dX7_net_131 ?_
                    refine r_is C (lv' := [(9, .int (nd deed.toNatClampNeg)), (8, .int (s_X7_ahead dy deed.toNatClampNeg (dy deed.toNatClampNeg))), (7, .int (s_X7_why ln sz sheet.toNatClampNeg lane i m)), (0, .ref o), (1, .int deed), (2, .int sheet), (3, .int lane), (4, .int i), (5, .int m), (6, .int what)]) dX7_net_132 (by decide) rfl ?_
                    refine r_ic C (v := (0 : Int32)) dX7_net_134 (by decide) ?_
                    refine r_is C (lv' := [(10, .int (0 : Int32)), (9, .int (nd deed.toNatClampNeg)), (8, .int (s_X7_ahead dy deed.toNatClampNeg (dy deed.toNatClampNeg))), (7, .int (s_X7_why ln sz sheet.toNatClampNeg lane i m)), (0, .ref o), (1, .int deed), (2, .int sheet), (3, .int lane), (4, .int i), (5, .int m), (6, .int what)]) dX7_net_135 (by decide) rfl ?_
                    refine r_bp C (v := (-4 : Int32)) dX7_net_137 (by decide) ?_
                    refine r_is C (lv' := [(11, .int (-4 : Int32)), (10, .int (0 : Int32)), (9, .int (nd deed.toNatClampNeg)), (8, .int (s_X7_ahead dy deed.toNatClampNeg (dy deed.toNatClampNeg))), (7, .int (s_X7_why ln sz sheet.toNatClampNeg lane i m)), (0, .ref o), (1, .int deed), (2, .int sheet), (3, .int lane), (4, .int i), (5, .int m), (6, .int what)]) dX7_net_139 (by decide) rfl ?_
                    refine r_ic C (v := (0 : Int32)) dX7_net_141 (by decide) ?_
                    refine r_is C (lv' := [(12, .int (0 : Int32)), (11, .int (-4 : Int32)), (10, .int (0 : Int32)), (9, .int (nd deed.toNatClampNeg)), (8, .int (s_X7_ahead dy deed.toNatClampNeg (dy deed.toNatClampNeg))), (7, .int (s_X7_why ln sz sheet.toNatClampNeg lane i m)), (0, .ref o), (1, .int deed), (2, .int sheet), (3, .int lane), (4, .int i), (5, .int m), (6, .int what)]) dX7_net_142 (by decide) rfl ?_
                    have L42 : ∀ (k14 : Nat) (d15 : Nat) (cnt_16 : Int32) (least_17 : Int32) (nd_18 : Nat → Int32), (d15 + k14 = 2 ^ deed.toNatClampNeg) → (if what = (0 : Int32) then (((s_X7_net_L144 kd dy it deed sheet i m k14 d15 cnt_16 least_17 nd_18).1), upd ((s_X7_net_L144 kd dy it deed sheet i m k14 d15 cnt_16 least_17 nd_18).2.2) deed.toNatClampNeg (nd deed.toNatClampNeg)) else (((s_X7_net_L144 kd dy it deed sheet i m k14 d15 cnt_16 least_17 nd_18).2.1), upd ((s_X7_net_L144 kd dy it deed sheet i m k14 d15 cnt_16 least_17 nd_18).2.2) deed.toNatClampNeg (nd deed.toNatClampNeg))) = V → GM p_ l e_ s_ m_ below_ meth_ c_ D 2 47 16 [.ref o, .int deed, .int sheet, .int lane, .int i, .int m, .int what] (wM D o q1 q2 q3 q4 q5 q6 q7 q8 q9 q10 q11 q12 q13 q14 q15 q16 q17 q18 q19 q20 q21 q22 pe n la ri td ys ty ap wg rd sm bt up lw ii kd dy V.2 co od wo tp rk ry rn vs bs ch tr en du ol ig ln sz it mo) (Ad (wM D o q1 q2 q3 q4 q5 q6 q7 q8 q9 q10 q11 q12 q13 q14 q15 q16 q17 q18 q19 q20 q21 q22 pe n la ri td ys ty ap wg rd sm bt up lw ii kd dy nd co od wo tp rk ry rn vs bs ch tr en du ol ig ln sz it mo)) (some (Value.int V.1)) (wM D o q1 q2 q3 q4 q5 q6 q7 q8 q9 q10 q11 q12 q13 q14 q15 q16 q17 q18 q19 q20 q21 q22 pe n la ri td ys ty ap wg rd sm bt up lw ii kd dy nd_18 co od wo tp rk ry rn vs bs ch tr en du ol ig ln sz it mo) 144 [(12, .int (nI d15)), (11, .int least_17), (10, .int cnt_16), (9, .int (nd deed.toNatClampNeg)), (8, .int (s_X7_ahead dy deed.toNatClampNeg (dy deed.toNatClampNeg))), (7, .int (s_X7_why ln sz sheet.toNatClampNeg lane i m)), (0, .ref o), (1, .int deed), (2, .int sheet), (3, .int lane), (4, .int i), (5, .int m), (6, .int what)] [] := by
                      intro k14
                      induction k14 with
                      | zero =>
                        intro d15 cnt_16 least_17 nd_18 hk hv
                        have hv : (if what = (0 : Int32) then (cnt_16, upd nd_18 deed.toNatClampNeg (nd deed.toNatClampNeg)) else (least_17, upd nd_18 deed.toNatClampNeg (nd deed.toNatClampNeg))) = V := hv
                        refine r_il C dX7_net_144 0 rfl ?_
                        refine r_ic C (v := (1 : Int32)) dX7_net_146 (by decide) ?_
                        refine r_iln C dX7_net_147 rfl 7 rfl ?_
                        refine r_ishl C dX7_net_148 ?_
                        refine r_top (sh1x (mdeed_nat hn (by assumption)).1 (by omega)) ?_
                        refine r_icge C (tgt := 289) dX7_net_149 (by decide) (fun c19 => ?_) (fun c19 => ?_)
                        · skip
                          refine r_aln C dX7_net_289 rfl 6 rfl ?_
                          refine gf_X7_16 C 0 rfl rfl dX7_net_290 ?_
                          refine r_iln C dX7_net_293 rfl 7 rfl ?_
                          refine r_il C dX7_net_294 3 rfl ?_
                          refine r_iast C (ws2 := wM D o q1 q2 q3 q4 q5 q6 q7 q8 q9 q10 q11 q12 q13 q14 q15 q16 q17 q18 q19 q20 q21 q22 pe n la ri td ys ty ap wg rd sm bt up lw ii kd dy (upd nd_18 deed.toNatClampNeg (nd deed.toNatClampNeg)) co od wo tp rk ry rn vs bs ch tr en du ol ig ln sz it mo) h0 rfl 3 deed.toNatClampNeg rfl e2.1 (by omega) (by decide) dX7_net_296 rfl rfl ?_
                          refine r_il C dX7_net_297 12 rfl ?_
                          refine r_ifne C (tgt := 307) dX7_net_299 (by decide) (fun c20 => ?_) (fun c20 => ?_)
                          · rw [if_neg c20] at hv
                            refine r_il C dX7_net_307 1 rfl ?_
                            exact r_iret rfl C (by rw [← hv]) (by rw [← hv]) dX7_net_309
                          · rw [if_pos c20] at hv
                            refine r_il C dX7_net_302 2 rfl ?_
                            refine r_goto C (tgt := 309) dX7_net_304 (by decide) ?_
                            exact r_iret rfl C (by rw [← hv]) (by rw [← hv]) dX7_net_309
                        · exact absurd c19 (fun z => absurd ((nv_lt (a := d15) (b := 2 ^ deed.toNatClampNeg) rfl rfl (by omega) (by omega)).mp z) (by omega))
                      | succ k14 ih21 =>
                        intro d15 cnt_16 least_17 nd_18 hk hv
                        have hv : (if what = (0 : Int32) then (((if (s_X7_net_L180 kd it deed sheet i d15 nd_18 m.toNatClampNeg 0 (nI (s_X7_net_m167_0 dy deed d15))) = (0 : Int32) then (s_X7_net_L144 kd dy it deed sheet i m k14 (d15 + 1) (cnt_16 + (0 : Int32)) least_17 (upd nd_18 deed.toNatClampNeg (nI d15))) else (if cnt_16 = (0 : Int32) then (s_X7_net_L144 kd dy it deed sheet i m k14 (d15 + 1) (cnt_16 + (1 : Int32)) (nI d15) (upd nd_18 deed.toNatClampNeg (nI d15))) else (s_X7_net_L144 kd dy it deed sheet i m k14 (d15 + 1) (cnt_16 + (1 : Int32)) least_17 (upd nd_18 deed.toNatClampNeg (nI d15))))).1), upd ((if (s_X7_net_L180 kd it deed sheet i d15 nd_18 m.toNatClampNeg 0 (nI (s_X7_net_m167_0 dy deed d15))) = (0 : Int32) then (s_X7_net_L144 kd dy it deed sheet i m k14 (d15 + 1) (cnt_16 + (0 : Int32)) least_17 (upd nd_18 deed.toNatClampNeg (nI d15))) else (if cnt_16 = (0 : Int32) then (s_X7_net_L144 kd dy it deed sheet i m k14 (d15 + 1) (cnt_16 + (1 : Int32)) (nI d15) (upd nd_18 deed.toNatClampNeg (nI d15))) else (s_X7_net_L144 kd dy it deed sheet i m k14 (d15 + 1) (cnt_16 + (1 : Int32)) least_17 (upd nd_18 deed.toNatClampNeg (nI d15))))).2.2) deed.toNatClampNeg (nd deed.toNatClampNeg)) else (((if (s_X7_net_L180 kd it deed sheet i d15 nd_18 m.toNatClampNeg 0 (nI (s_X7_net_m167_0 dy deed d15))) = (0 : Int32) then (s_X7_net_L144 kd dy it deed sheet i m k14 (d15 + 1) (cnt_16 + (0 : Int32)) least_17 (upd nd_18 deed.toNatClampNeg (nI d15))) else (if cnt_16 = (0 : Int32) then (s_X7_net_L144 kd dy it deed sheet i m k14 (d15 + 1) (cnt_16 + (1 : Int32)) (nI d15) (upd nd_18 deed.toNatClampNeg (nI d15))) else (s_X7_net_L144 kd dy it deed sheet i m k14 (d15 + 1) (cnt_16 + (1 : Int32)) least_17 (upd nd_18 deed.toNatClampNeg (nI d15))))).2.1), upd ((if (s_X7_net_L180 kd it deed sheet i d15 nd_18 m.toNatClampNeg 0 (nI (s_X7_net_m167_0 dy deed d15))) = (0 : Int32) then (s_X7_net_L144 kd dy it deed sheet i m k14 (d15 + 1) (cnt_16 + (0 : Int32)) least_17 (upd nd_18 deed.toNatClampNeg (nI d15))) else (if cnt_16 = (0 : Int32) then (s_X7_net_L144 kd dy it deed sheet i m k14 (d15 + 1) (cnt_16 + (1 : Int32)) (nI d15) (upd nd_18 deed.toNatClampNeg (nI d15))) else (s_X7_net_L144 kd dy it deed sheet i m k14 (d15 + 1) (cnt_16 + (1 : Int32)) least_17 (upd nd_18 deed.toNatClampNeg (nI d15))))).2.2) deed.toNatClampNeg (nd deed.toNatClampNeg))) = V := hv
                        refine r_il C dX7_net_144 0 rfl ?_
                        refine r_ic C (v := (1 : Int32)) dX7_net_146 (by decide) ?_
                        refine r_iln C dX7_net_147 rfl 7 rfl ?_
                        refine r_ishl C dX7_net_148 ?_
                        refine r_top (sh1x (mdeed_nat hn (by assumption)).1 (by omega)) ?_
                        refine r_icge C (tgt := 289) dX7_net_149 (by decide) (fun c22 => ?_) (fun c22 => ?_)
                        · exact absurd ((nv_lt (a := d15) (b := 2 ^ deed.toNatClampNeg) rfl rfl (by omega) (by omega)).mpr (by omega)) c22
                        · skip
                          refine r_il C dX7_net_152 0 rfl ?_
                          refine r_il C dX7_net_154 4 rfl ?_
                          refine r_ic C (v := (-1 : Int32)) dX7_net_156 (by decide) ?_
                          refine r_ixor C dX7_net_157 ?_
                          refine r_iand C dX7_net_158 ?_
                          have J41 : GM p_ l e_ s_ m_ below_ meth_ c_ D 2 47 16 [.ref o, .int deed, .int sheet, .int lane, .int i, .int m, .int what] (wM D o q1 q2 q3 q4 q5 q6 q7 q8 q9 q10 q11 q12 q13 q14 q15 q16 q17 q18 q19 q20 q21 q22 pe n la ri td ys ty ap wg rd sm bt up lw ii kd dy V.2 co od wo tp rk ry rn vs bs ch tr en du ol ig ln sz it mo) (Ad (wM D o q1 q2 q3 q4 q5 q6 q7 q8 q9 q10 q11 q12 q13 q14 q15 q16 q17 q18 q19 q20 q21 q22 pe n la ri td ys ty ap wg rd sm bt up lw ii kd dy nd co od wo tp rk ry rn vs bs ch tr en du ol ig ln sz it mo)) (some (Value.int V.1)) (wM D o q1 q2 q3 q4 q5 q6 q7 q8 q9 q10 q11 q12 q13 q14 q15 q16 q17 q18 q19 q20 q21 q22 pe n la ri td ys ty ap wg rd sm bt up lw ii kd dy nd_18 co od wo tp rk ry rn vs bs ch tr en du ol ig ln sz it mo) 167 [(12, .int (nI d15)), (11, .int least_17), (10, .int cnt_16), (9, .int (nd deed.toNatClampNeg)), (8, .int (s_X7_ahead dy deed.toNatClampNeg (dy deed.toNatClampNeg))), (7, .int (s_X7_why ln sz sheet.toNatClampNeg lane i m)), (0, .ref o), (1, .int deed), (2, .int sheet), (3, .int lane), (4, .int i), (5, .int m), (6, .int what)] [.int (nI (s_X7_net_m167_0 dy deed d15))] := by
                            refine r_is C (lv' := [(13, .int (nI (s_X7_net_m167_0 dy deed d15))), (12, .int (nI d15)), (11, .int least_17), (10, .int cnt_16), (9, .int (nd deed.toNatClampNeg)), (8, .int (s_X7_ahead dy deed.toNatClampNeg (dy deed.toNatClampNeg))), (7, .int (s_X7_why ln sz sheet.toNatClampNeg lane i m)), (0, .ref o), (1, .int deed), (2, .int sheet), (3, .int lane), (4, .int i), (5, .int m), (6, .int what)]) dX7_net_167 (by decide) rfl ?_
                            refine r_aln C dX7_net_169 rfl 7 rfl ?_
                            refine gf_X7_16 C 0 rfl rfl dX7_net_170 ?_
                            refine r_iln C dX7_net_173 rfl 8 rfl ?_
                            refine r_il C dX7_net_174 1 rfl ?_
                            refine r_iast C (ws2 := wM D o q1 q2 q3 q4 q5 q6 q7 q8 q9 q10 q11 q12 q13 q14 q15 q16 q17 q18 q19 q20 q21 q22 pe n la ri td ys ty ap wg rd sm bt up lw ii kd dy (upd nd_18 deed.toNatClampNeg (nI d15)) co od wo tp rk ry rn vs bs ch tr en du ol ig ln sz it mo) h0 rfl 3 deed.toNatClampNeg rfl e2.1 (by omega) (by decide) dX7_net_176 rfl rfl ?_
                            refine r_ic C (v := (0 : Int32)) dX7_net_177 (by decide) ?_
                            refine r_is C (lv' := [(14, .int (0 : Int32)), (13, .int (nI (s_X7_net_m167_0 dy deed d15))), (12, .int (nI d15)), (11, .int least_17), (10, .int cnt_16), (9, .int (nd deed.toNatClampNeg)), (8, .int (s_X7_ahead dy deed.toNatClampNeg (dy deed.toNatClampNeg))), (7, .int (s_X7_why ln sz sheet.toNatClampNeg lane i m)), (0, .ref o), (1, .int deed), (2, .int sheet), (3, .int lane), (4, .int i), (5, .int m), (6, .int what)]) dX7_net_178 (by decide) rfl ?_
                            have X27 : ∀ (iw_26 : Int32), (if what = (0 : Int32) then (((if iw_26 = (0 : Int32) then (s_X7_net_L144 kd dy it deed sheet i m k14 (d15 + 1) (cnt_16 + (0 : Int32)) least_17 (upd nd_18 deed.toNatClampNeg (nI d15))) else (if cnt_16 = (0 : Int32) then (s_X7_net_L144 kd dy it deed sheet i m k14 (d15 + 1) (cnt_16 + (1 : Int32)) (nI d15) (upd nd_18 deed.toNatClampNeg (nI d15))) else (s_X7_net_L144 kd dy it deed sheet i m k14 (d15 + 1) (cnt_16 + (1 : Int32)) least_17 (upd nd_18 deed.toNatClampNeg (nI d15))))).1), upd ((if iw_26 = (0 : Int32) then (s_X7_net_L144 kd dy it deed sheet i m k14 (d15 + 1) (cnt_16 + (0 : Int32)) least_17 (upd nd_18 deed.toNatClampNeg (nI d15))) else (if cnt_16 = (0 : Int32) then (s_X7_net_L144 kd dy it deed sheet i m k14 (d15 + 1) (cnt_16 + (1 : Int32)) (nI d15) (upd nd_18 deed.toNatClampNeg (nI d15))) else (s_X7_net_L144 kd dy it deed sheet i m k14 (d15 + 1) (cnt_16 + (1 : Int32)) least_17 (upd nd_18 deed.toNatClampNeg (nI d15))))).2.2) deed.toNatClampNeg (nd deed.toNatClampNeg)) else (((if iw_26 = (0 : Int32) then (s_X7_net_L144 kd dy it deed sheet i m k14 (d15 + 1) (cnt_16 + (0 : Int32)) least_17 (upd nd_18 deed.toNatClampNeg (nI d15))) else (if cnt_16 = (0 : Int32) then (s_X7_net_L144 kd dy it deed sheet i m k14 (d15 + 1) (cnt_16 + (1 : Int32)) (nI d15) (upd nd_18 deed.toNatClampNeg (nI d15))) else (s_X7_net_L144 kd dy it deed sheet i m k14 (d15 + 1) (cnt_16 + (1 : Int32)) least_17 (upd nd_18 deed.toNatClampNeg (nI d15))))).2.1), upd ((if iw_26 = (0 : Int32) then (s_X7_net_L144 kd dy it deed sheet i m k14 (d15 + 1) (cnt_16 + (0 : Int32)) least_17 (upd nd_18 deed.toNatClampNeg (nI d15))) else (if cnt_16 = (0 : Int32) then (s_X7_net_L144 kd dy it deed sheet i m k14 (d15 + 1) (cnt_16 + (1 : Int32)) (nI d15) (upd nd_18 deed.toNatClampNeg (nI d15))) else (s_X7_net_L144 kd dy it deed sheet i m k14 (d15 + 1) (cnt_16 + (1 : Int32)) least_17 (upd nd_18 deed.toNatClampNeg (nI d15))))).2.2) deed.toNatClampNeg (nd deed.toNatClampNeg))) = V → GM p_ l e_ s_ m_ below_ meth_ c_ D 2 47 16 [.ref o, .int deed, .int sheet, .int lane, .int i, .int m, .int what] (wM D o q1 q2 q3 q4 q5 q6 q7 q8 q9 q10 q11 q12 q13 q14 q15 q16 q17 q18 q19 q20 q21 q22 pe n la ri td ys ty ap wg rd sm bt up lw ii kd dy V.2 co od wo tp rk ry rn vs bs ch tr en du ol ig ln sz it mo) (Ad (wM D o q1 q2 q3 q4 q5 q6 q7 q8 q9 q10 q11 q12 q13 q14 q15 q16 q17 q18 q19 q20 q21 q22 pe n la ri td ys ty ap wg rd sm bt up lw ii kd dy nd co od wo tp rk ry rn vs bs ch tr en du ol ig ln sz it mo)) (some (Value.int V.1)) (wM D o q1 q2 q3 q4 q5 q6 q7 q8 q9 q10 q11 q12 q13 q14 q15 q16 q17 q18 q19 q20 q21 q22 pe n la ri td ys ty ap wg rd sm bt up lw ii kd dy (upd nd_18 deed.toNatClampNeg (nI d15)) co od wo tp rk ry rn vs bs ch tr en du ol ig ln sz it mo) 249 [(13, .int iw_26), (12, .int (nI d15)), (11, .int least_17), (10, .int cnt_16), (9, .int (nd deed.toNatClampNeg)), (8, .int (s_X7_ahead dy deed.toNatClampNeg (dy deed.toNatClampNeg))), (7, .int (s_X7_why ln sz sheet.toNatClampNeg lane i m)), (0, .ref o), (1, .int deed), (2, .int sheet), (3, .int lane), (4, .int i), (5, .int m), (6, .int what)] [] := by
                              intro iw_26 hv
                              refine r_il C dX7_net_249 0 rfl ?_
                              refine r_ifeq C (tgt := 264) dX7_net_251 (by decide) (fun c28 => ?_) (fun c28 => ?_)
                              · rw [if_pos c28] at hv
                                refine r_il C dX7_net_264 2 rfl ?_
                                refine r_is C (lv' := [(11, .int least_17), (13, .int iw_26), (12, .int (nI d15)), (10, .int cnt_16), (9, .int (nd deed.toNatClampNeg)), (8, .int (s_X7_ahead dy deed.toNatClampNeg (dy deed.toNatClampNeg))), (7, .int (s_X7_why ln sz sheet.toNatClampNeg lane i m)), (0, .ref o), (1, .int deed), (2, .int sheet), (3, .int lane), (4, .int i), (5, .int m), (6, .int what)]) dX7_net_266 (by decide) rfl ?_
                                refine r_il C dX7_net_268 3 rfl ?_
                                refine r_il C dX7_net_270 1 rfl ?_
                                refine r_ifeq C (tgt := 279) dX7_net_272 (by decide) (fun c29 => ?_) (fun c29 => ?_)
                                · skip
                                  refine r_ic C (v := (0 : Int32)) dX7_net_279 (by decide) ?_
                                  refine r_iadd C dX7_net_280 ?_
                                  refine r_is C (lv' := [(10, .int (cnt_16 + (0 : Int32))), (11, .int least_17), (13, .int iw_26), (12, .int (nI d15)), (9, .int (nd deed.toNatClampNeg)), (8, .int (s_X7_ahead dy deed.toNatClampNeg (dy deed.toNatClampNeg))), (7, .int (s_X7_why ln sz sheet.toNatClampNeg lane i m)), (0, .ref o), (1, .int deed), (2, .int sheet), (3, .int lane), (4, .int i), (5, .int m), (6, .int what)]) dX7_net_281 (by decide) rfl ?_
                                  refine r_inc C (v := nI (d15 + 1)) (lv' := [(12, .int (nI (d15 + 1))), (10, .int (cnt_16 + (0 : Int32))), (11, .int least_17), (13, .int iw_26), (9, .int (nd deed.toNatClampNeg)), (8, .int (s_X7_ahead dy deed.toNatClampNeg (dy deed.toNatClampNeg))), (7, .int (s_X7_why ln sz sheet.toNatClampNeg lane i m)), (0, .ref o), (1, .int deed), (2, .int sheet), (3, .int lane), (4, .int i), (5, .int m), (6, .int what)]) dX7_net_283 3 rfl (inc_nI d15) (by decide) rfl ?_
                                  refine r_goto C (tgt := 144) dX7_net_286 (by decide) ?_
                                  refine r_lv [0, 2, 1, 4, 5, 6, 7, 8, 9, 10, 11, 12, 13] rfl ?_
                                  exact ih21 (d15 + 1) (cnt_16 + (0 : Int32)) least_17 (upd nd_18 deed.toNatClampNeg (nI d15)) (by omega) hv
                                · exact absurd c28 c29
                              · rw [if_neg c28] at hv
                                refine r_il C dX7_net_254 3 rfl ?_
                                refine r_ifne C (tgt := 264) dX7_net_256 (by decide) (fun c30 => ?_) (fun c30 => ?_)
                                · rw [if_neg c30] at hv
                                  refine r_il C dX7_net_264 2 rfl ?_
                                  refine r_is C (lv' := [(11, .int least_17), (13, .int iw_26), (12, .int (nI d15)), (10, .int cnt_16), (9, .int (nd deed.toNatClampNeg)), (8, .int (s_X7_ahead dy deed.toNatClampNeg (dy deed.toNatClampNeg))), (7, .int (s_X7_why ln sz sheet.toNatClampNeg lane i m)), (0, .ref o), (1, .int deed), (2, .int sheet), (3, .int lane), (4, .int i), (5, .int m), (6, .int what)]) dX7_net_266 (by decide) rfl ?_
                                  refine r_il C dX7_net_268 3 rfl ?_
                                  refine r_il C dX7_net_270 1 rfl ?_
                                  refine r_ifeq C (tgt := 279) dX7_net_272 (by decide) (fun c31 => ?_) (fun c31 => ?_)
                                  · exact absurd c31 c28
                                  · skip
                                    refine r_ic C (v := (1 : Int32)) dX7_net_275 (by decide) ?_
                                    refine r_goto C (tgt := 280) dX7_net_276 (by decide) ?_
                                    refine r_iadd C dX7_net_280 ?_
                                    refine r_is C (lv' := [(10, .int (cnt_16 + (1 : Int32))), (11, .int least_17), (13, .int iw_26), (12, .int (nI d15)), (9, .int (nd deed.toNatClampNeg)), (8, .int (s_X7_ahead dy deed.toNatClampNeg (dy deed.toNatClampNeg))), (7, .int (s_X7_why ln sz sheet.toNatClampNeg lane i m)), (0, .ref o), (1, .int deed), (2, .int sheet), (3, .int lane), (4, .int i), (5, .int m), (6, .int what)]) dX7_net_281 (by decide) rfl ?_
                                    refine r_inc C (v := nI (d15 + 1)) (lv' := [(12, .int (nI (d15 + 1))), (10, .int (cnt_16 + (1 : Int32))), (11, .int least_17), (13, .int iw_26), (9, .int (nd deed.toNatClampNeg)), (8, .int (s_X7_ahead dy deed.toNatClampNeg (dy deed.toNatClampNeg))), (7, .int (s_X7_why ln sz sheet.toNatClampNeg lane i m)), (0, .ref o), (1, .int deed), (2, .int sheet), (3, .int lane), (4, .int i), (5, .int m), (6, .int what)]) dX7_net_283 3 rfl (inc_nI d15) (by decide) rfl ?_
                                    refine r_goto C (tgt := 144) dX7_net_286 (by decide) ?_
                                    refine r_lv [0, 2, 1, 4, 5, 6, 7, 8, 9, 10, 11, 12, 13] rfl ?_
                                    exact ih21 (d15 + 1) (cnt_16 + (1 : Int32)) least_17 (upd nd_18 deed.toNatClampNeg (nI d15)) (by omega) hv
                                · rw [if_pos c30] at hv
                                  refine r_il C dX7_net_259 1 rfl ?_
                                  refine r_goto C (tgt := 266) dX7_net_261 (by decide) ?_
                                  refine r_is C (lv' := [(11, .int (nI d15)), (13, .int iw_26), (12, .int (nI d15)), (10, .int cnt_16), (9, .int (nd deed.toNatClampNeg)), (8, .int (s_X7_ahead dy deed.toNatClampNeg (dy deed.toNatClampNeg))), (7, .int (s_X7_why ln sz sheet.toNatClampNeg lane i m)), (0, .ref o), (1, .int deed), (2, .int sheet), (3, .int lane), (4, .int i), (5, .int m), (6, .int what)]) dX7_net_266 (by decide) rfl ?_
                                  refine r_il C dX7_net_268 3 rfl ?_
                                  refine r_il C dX7_net_270 1 rfl ?_
                                  refine r_ifeq C (tgt := 279) dX7_net_272 (by decide) (fun c32 => ?_) (fun c32 => ?_)
                                  · exact absurd c32 c28
                                  · skip
                                    refine r_ic C (v := (1 : Int32)) dX7_net_275 (by decide) ?_
                                    refine r_goto C (tgt := 280) dX7_net_276 (by decide) ?_
                                    refine r_iadd C dX7_net_280 ?_
                                    refine r_is C (lv' := [(10, .int (cnt_16 + (1 : Int32))), (11, .int (nI d15)), (13, .int iw_26), (12, .int (nI d15)), (9, .int (nd deed.toNatClampNeg)), (8, .int (s_X7_ahead dy deed.toNatClampNeg (dy deed.toNatClampNeg))), (7, .int (s_X7_why ln sz sheet.toNatClampNeg lane i m)), (0, .ref o), (1, .int deed), (2, .int sheet), (3, .int lane), (4, .int i), (5, .int m), (6, .int what)]) dX7_net_281 (by decide) rfl ?_
                                    refine r_inc C (v := nI (d15 + 1)) (lv' := [(12, .int (nI (d15 + 1))), (10, .int (cnt_16 + (1 : Int32))), (11, .int (nI d15)), (13, .int iw_26), (9, .int (nd deed.toNatClampNeg)), (8, .int (s_X7_ahead dy deed.toNatClampNeg (dy deed.toNatClampNeg))), (7, .int (s_X7_why ln sz sheet.toNatClampNeg lane i m)), (0, .ref o), (1, .int deed), (2, .int sheet), (3, .int lane), (4, .int i), (5, .int m), (6, .int what)]) dX7_net_283 3 rfl (inc_nI d15) (by decide) rfl ?_
                                    refine r_goto C (tgt := 144) dX7_net_286 (by decide) ?_
                                    refine r_lv [0, 2, 1, 4, 5, 6, 7, 8, 9, 10, 11, 12, 13] rfl ?_
                                    exact ih21 (d15 + 1) (cnt_16 + (1 : Int32)) (nI d15) (upd nd_18 deed.toNatClampNeg (nI d15)) (by omega) hv
                            have L40 : ∀ (k24 : Nat) (d25 : Nat) (iw_26 : Int32), (d25 + k24 = m.toNatClampNeg) → (if what = (0 : Int32) then (((if (s_X7_net_L180 kd it deed sheet i d15 nd_18 k24 d25 iw_26) = (0 : Int32) then (s_X7_net_L144 kd dy it deed sheet i m k14 (d15 + 1) (cnt_16 + (0 : Int32)) least_17 (upd nd_18 deed.toNatClampNeg (nI d15))) else (if cnt_16 = (0 : Int32) then (s_X7_net_L144 kd dy it deed sheet i m k14 (d15 + 1) (cnt_16 + (1 : Int32)) (nI d15) (upd nd_18 deed.toNatClampNeg (nI d15))) else (s_X7_net_L144 kd dy it deed sheet i m k14 (d15 + 1) (cnt_16 + (1 : Int32)) least_17 (upd nd_18 deed.toNatClampNeg (nI d15))))).1), upd ((if (s_X7_net_L180 kd it deed sheet i d15 nd_18 k24 d25 iw_26) = (0 : Int32) then (s_X7_net_L144 kd dy it deed sheet i m k14 (d15 + 1) (cnt_16 + (0 : Int32)) least_17 (upd nd_18 deed.toNatClampNeg (nI d15))) else (if cnt_16 = (0 : Int32) then (s_X7_net_L144 kd dy it deed sheet i m k14 (d15 + 1) (cnt_16 + (1 : Int32)) (nI d15) (upd nd_18 deed.toNatClampNeg (nI d15))) else (s_X7_net_L144 kd dy it deed sheet i m k14 (d15 + 1) (cnt_16 + (1 : Int32)) least_17 (upd nd_18 deed.toNatClampNeg (nI d15))))).2.2) deed.toNatClampNeg (nd deed.toNatClampNeg)) else (((if (s_X7_net_L180 kd it deed sheet i d15 nd_18 k24 d25 iw_26) = (0 : Int32) then (s_X7_net_L144 kd dy it deed sheet i m k14 (d15 + 1) (cnt_16 + (0 : Int32)) least_17 (upd nd_18 deed.toNatClampNeg (nI d15))) else (if cnt_16 = (0 : Int32) then (s_X7_net_L144 kd dy it deed sheet i m k14 (d15 + 1) (cnt_16 + (1 : Int32)) (nI d15) (upd nd_18 deed.toNatClampNeg (nI d15))) else (s_X7_net_L144 kd dy it deed sheet i m k14 (d15 + 1) (cnt_16 + (1 : Int32)) least_17 (upd nd_18 deed.toNatClampNeg (nI d15))))).2.1), upd ((if (s_X7_net_L180 kd it deed sheet i d15 nd_18 k24 d25 iw_26) = (0 : Int32) then (s_X7_net_L144 kd dy it deed sheet i m k14 (d15 + 1) (cnt_16 + (0 : Int32)) least_17 (upd nd_18 deed.toNatClampNeg (nI d15))) else (if cnt_16 = (0 : Int32) then (s_X7_net_L144 kd dy it deed sheet i m k14 (d15 + 1) (cnt_16 + (1 : Int32)) (nI d15) (upd nd_18 deed.toNatClampNeg (nI d15))) else (s_X7_net_L144 kd dy it deed sheet i m k14 (d15 + 1) (cnt_16 + (1 : Int32)) least_17 (upd nd_18 deed.toNatClampNeg (nI d15))))).2.2) deed.toNatClampNeg (nd deed.toNatClampNeg))) = V → GM p_ l e_ s_ m_ below_ meth_ c_ D 2 47 16 [.ref o, .int deed, .int sheet, .int lane, .int i, .int m, .int what] (wM D o q1 q2 q3 q4 q5 q6 q7 q8 q9 q10 q11 q12 q13 q14 q15 q16 q17 q18 q19 q20 q21 q22 pe n la ri td ys ty ap wg rd sm bt up lw ii kd dy V.2 co od wo tp rk ry rn vs bs ch tr en du ol ig ln sz it mo) (Ad (wM D o q1 q2 q3 q4 q5 q6 q7 q8 q9 q10 q11 q12 q13 q14 q15 q16 q17 q18 q19 q20 q21 q22 pe n la ri td ys ty ap wg rd sm bt up lw ii kd dy nd co od wo tp rk ry rn vs bs ch tr en du ol ig ln sz it mo)) (some (Value.int V.1)) (wM D o q1 q2 q3 q4 q5 q6 q7 q8 q9 q10 q11 q12 q13 q14 q15 q16 q17 q18 q19 q20 q21 q22 pe n la ri td ys ty ap wg rd sm bt up lw ii kd dy (upd nd_18 deed.toNatClampNeg (nI d15)) co od wo tp rk ry rn vs bs ch tr en du ol ig ln sz it mo) 180 [(14, .int (nI d25)), (13, .int iw_26), (12, .int (nI d15)), (11, .int least_17), (10, .int cnt_16), (9, .int (nd deed.toNatClampNeg)), (8, .int (s_X7_ahead dy deed.toNatClampNeg (dy deed.toNatClampNeg))), (7, .int (s_X7_why ln sz sheet.toNatClampNeg lane i m)), (0, .ref o), (1, .int deed), (2, .int sheet), (3, .int lane), (4, .int i), (5, .int m), (6, .int what)] [] := by
                              intro k24
                              induction k24 with
                              | zero =>
                                intro d25 iw_26 hk hv
                                have hv : (if what = (0 : Int32) then (((if iw_26 = (0 : Int32) then (s_X7_net_L144 kd dy it deed sheet i m k14 (d15 + 1) (cnt_16 + (0 : Int32)) least_17 (upd nd_18 deed.toNatClampNeg (nI d15))) else (if cnt_16 = (0 : Int32) then (s_X7_net_L144 kd dy it deed sheet i m k14 (d15 + 1) (cnt_16 + (1 : Int32)) (nI d15) (upd nd_18 deed.toNatClampNeg (nI d15))) else (s_X7_net_L144 kd dy it deed sheet i m k14 (d15 + 1) (cnt_16 + (1 : Int32)) least_17 (upd nd_18 deed.toNatClampNeg (nI d15))))).1), upd ((if iw_26 = (0 : Int32) then (s_X7_net_L144 kd dy it deed sheet i m k14 (d15 + 1) (cnt_16 + (0 : Int32)) least_17 (upd nd_18 deed.toNatClampNeg (nI d15))) else (if cnt_16 = (0 : Int32) then (s_X7_net_L144 kd dy it deed sheet i m k14 (d15 + 1) (cnt_16 + (1 : Int32)) (nI d15) (upd nd_18 deed.toNatClampNeg (nI d15))) else (s_X7_net_L144 kd dy it deed sheet i m k14 (d15 + 1) (cnt_16 + (1 : Int32)) least_17 (upd nd_18 deed.toNatClampNeg (nI d15))))).2.2) deed.toNatClampNeg (nd deed.toNatClampNeg)) else (((if iw_26 = (0 : Int32) then (s_X7_net_L144 kd dy it deed sheet i m k14 (d15 + 1) (cnt_16 + (0 : Int32)) least_17 (upd nd_18 deed.toNatClampNeg (nI d15))) else (if cnt_16 = (0 : Int32) then (s_X7_net_L144 kd dy it deed sheet i m k14 (d15 + 1) (cnt_16 + (1 : Int32)) (nI d15) (upd nd_18 deed.toNatClampNeg (nI d15))) else (s_X7_net_L144 kd dy it deed sheet i m k14 (d15 + 1) (cnt_16 + (1 : Int32)) least_17 (upd nd_18 deed.toNatClampNeg (nI d15))))).2.1), upd ((if iw_26 = (0 : Int32) then (s_X7_net_L144 kd dy it deed sheet i m k14 (d15 + 1) (cnt_16 + (0 : Int32)) least_17 (upd nd_18 deed.toNatClampNeg (nI d15))) else (if cnt_16 = (0 : Int32) then (s_X7_net_L144 kd dy it deed sheet i m k14 (d15 + 1) (cnt_16 + (1 : Int32)) (nI d15) (upd nd_18 deed.toNatClampNeg (nI d15))) else (s_X7_net_L144 kd dy it deed sheet i m k14 (d15 + 1) (cnt_16 + (1 : Int32)) least_17 (upd nd_18 deed.toNatClampNeg (nI d15))))).2.2) deed.toNatClampNeg (nd deed.toNatClampNeg))) = V := hv
                                refine r_il C dX7_net_180 0 rfl ?_
                                refine r_il C dX7_net_182 13 rfl ?_
                                refine r_icge C (tgt := 249) dX7_net_184 (by decide) (fun c33 => ?_) (fun c33 => ?_)
                                · skip
                                  refine r_lv [1, 2, 3, 4, 5, 6, 7, 8, 9, 10, 11, 12, 13, 14] rfl ?_
                                  exact X27 iw_26 hv
                                · exact absurd c33 (fun z => absurd ((nv_lt (a := d25) (b := m.toNatClampNeg) rfl e7.1 (by omega) (by omega)).mp z) (by omega))
                              | succ k24 ih34 =>
                                intro d25 iw_26 hk hv
                                have hv : (if what = (0 : Int32) then (((if (if iw_26 = (0 : Int32) then iw_26 else (if (((it (((16 * sheet.toNatClampNeg) + i.toNatClampNeg) + d25)).toInt32) >>> (deed &&& 31)) &&& (1 : Int32) = (1 : Int32) then (if s_X7_is kd (upd nd_18 deed.toNatClampNeg (nI d15)) deed.toNatClampNeg ((it (((16 * sheet.toNatClampNeg) + i.toNatClampNeg) + d25)).toInt32) (0 : Int32) = (1 : Int32) then (s_X7_net_L180 kd it deed sheet i d15 nd_18 k24 (d25 + 1) (1 : Int32)) else (s_X7_net_L180 kd it deed sheet i d15 nd_18 k24 (d25 + 1) (0 : Int32))) else (if s_X7_is kd (upd nd_18 deed.toNatClampNeg (nI d15)) deed.toNatClampNeg ((it (((16 * sheet.toNatClampNeg) + i.toNatClampNeg) + d25)).toInt32) (0 : Int32) = (0 : Int32) then (s_X7_net_L180 kd it deed sheet i d15 nd_18 k24 (d25 + 1) (1 : Int32)) else (s_X7_net_L180 kd it deed sheet i d15 nd_18 k24 (d25 + 1) (0 : Int32))))) = (0 : Int32) then (s_X7_net_L144 kd dy it deed sheet i m k14 (d15 + 1) (cnt_16 + (0 : Int32)) least_17 (upd nd_18 deed.toNatClampNeg (nI d15))) else (if cnt_16 = (0 : Int32) then (s_X7_net_L144 kd dy it deed sheet i m k14 (d15 + 1) (cnt_16 + (1 : Int32)) (nI d15) (upd nd_18 deed.toNatClampNeg (nI d15))) else (s_X7_net_L144 kd dy it deed sheet i m k14 (d15 + 1) (cnt_16 + (1 : Int32)) least_17 (upd nd_18 deed.toNatClampNeg (nI d15))))).1), upd ((if (if iw_26 = (0 : Int32) then iw_26 else (if (((it (((16 * sheet.toNatClampNeg) + i.toNatClampNeg) + d25)).toInt32) >>> (deed &&& 31)) &&& (1 : Int32) = (1 : Int32) then (if s_X7_is kd (upd nd_18 deed.toNatClampNeg (nI d15)) deed.toNatClampNeg ((it (((16 * sheet.toNatClampNeg) + i.toNatClampNeg) + d25)).toInt32) (0 : Int32) = (1 : Int32) then (s_X7_net_L180 kd it deed sheet i d15 nd_18 k24 (d25 + 1) (1 : Int32)) else (s_X7_net_L180 kd it deed sheet i d15 nd_18 k24 (d25 + 1) (0 : Int32))) else (if s_X7_is kd (upd nd_18 deed.toNatClampNeg (nI d15)) deed.toNatClampNeg ((it (((16 * sheet.toNatClampNeg) + i.toNatClampNeg) + d25)).toInt32) (0 : Int32) = (0 : Int32) then (s_X7_net_L180 kd it deed sheet i d15 nd_18 k24 (d25 + 1) (1 : Int32)) else (s_X7_net_L180 kd it deed sheet i d15 nd_18 k24 (d25 + 1) (0 : Int32))))) = (0 : Int32) then (s_X7_net_L144 kd dy it deed sheet i m k14 (d15 + 1) (cnt_16 + (0 : Int32)) least_17 (upd nd_18 deed.toNatClampNeg (nI d15))) else (if cnt_16 = (0 : Int32) then (s_X7_net_L144 kd dy it deed sheet i m k14 (d15 + 1) (cnt_16 + (1 : Int32)) (nI d15) (upd nd_18 deed.toNatClampNeg (nI d15))) else (s_X7_net_L144 kd dy it deed sheet i m k14 (d15 + 1) (cnt_16 + (1 : Int32)) least_17 (upd nd_18 deed.toNatClampNeg (nI d15))))).2.2) deed.toNatClampNeg (nd deed.toNatClampNeg)) else (((if (if iw_26 = (0 : Int32) then iw_26 else (if (((it (((16 * sheet.toNatClampNeg) + i.toNatClampNeg) + d25)).toInt32) >>> (deed &&& 31)) &&& (1 : Int32) = (1 : Int32) then (if s_X7_is kd (upd nd_18 deed.toNatClampNeg (nI d15)) deed.toNatClampNeg ((it (((16 * sheet.toNatClampNeg) + i.toNatClampNeg) + d25)).toInt32) (0 : Int32) = (1 : Int32) then (s_X7_net_L180 kd it deed sheet i d15 nd_18 k24 (d25 + 1) (1 : Int32)) else (s_X7_net_L180 kd it deed sheet i d15 nd_18 k24 (d25 + 1) (0 : Int32))) else (if s_X7_is kd (upd nd_18 deed.toNatClampNeg (nI d15)) deed.toNatClampNeg ((it (((16 * sheet.toNatClampNeg) + i.toNatClampNeg) + d25)).toInt32) (0 : Int32) = (0 : Int32) then (s_X7_net_L180 kd it deed sheet i d15 nd_18 k24 (d25 + 1) (1 : Int32)) else (s_X7_net_L180 kd it deed sheet i d15 nd_18 k24 (d25 + 1) (0 : Int32))))) = (0 : Int32) then (s_X7_net_L144 kd dy it deed sheet i m k14 (d15 + 1) (cnt_16 + (0 : Int32)) least_17 (upd nd_18 deed.toNatClampNeg (nI d15))) else (if cnt_16 = (0 : Int32) then (s_X7_net_L144 kd dy it deed sheet i m k14 (d15 + 1) (cnt_16 + (1 : Int32)) (nI d15) (upd nd_18 deed.toNatClampNeg (nI d15))) else (s_X7_net_L144 kd dy it deed sheet i m k14 (d15 + 1) (cnt_16 + (1 : Int32)) least_17 (upd nd_18 deed.toNatClampNeg (nI d15))))).2.1), upd ((if (if iw_26 = (0 : Int32) then iw_26 else (if (((it (((16 * sheet.toNatClampNeg) + i.toNatClampNeg) + d25)).toInt32) >>> (deed &&& 31)) &&& (1 : Int32) = (1 : Int32) then (if s_X7_is kd (upd nd_18 deed.toNatClampNeg (nI d15)) deed.toNatClampNeg ((it (((16 * sheet.toNatClampNeg) + i.toNatClampNeg) + d25)).toInt32) (0 : Int32) = (1 : Int32) then (s_X7_net_L180 kd it deed sheet i d15 nd_18 k24 (d25 + 1) (1 : Int32)) else (s_X7_net_L180 kd it deed sheet i d15 nd_18 k24 (d25 + 1) (0 : Int32))) else (if s_X7_is kd (upd nd_18 deed.toNatClampNeg (nI d15)) deed.toNatClampNeg ((it (((16 * sheet.toNatClampNeg) + i.toNatClampNeg) + d25)).toInt32) (0 : Int32) = (0 : Int32) then (s_X7_net_L180 kd it deed sheet i d15 nd_18 k24 (d25 + 1) (1 : Int32)) else (s_X7_net_L180 kd it deed sheet i d15 nd_18 k24 (d25 + 1) (0 : Int32))))) = (0 : Int32) then (s_X7_net_L144 kd dy it deed sheet i m k14 (d15 + 1) (cnt_16 + (0 : Int32)) least_17 (upd nd_18 deed.toNatClampNeg (nI d15))) else (if cnt_16 = (0 : Int32) then (s_X7_net_L144 kd dy it deed sheet i m k14 (d15 + 1) (cnt_16 + (1 : Int32)) (nI d15) (upd nd_18 deed.toNatClampNeg (nI d15))) else (s_X7_net_L144 kd dy it deed sheet i m k14 (d15 + 1) (cnt_16 + (1 : Int32)) least_17 (upd nd_18 deed.toNatClampNeg (nI d15))))).2.2) deed.toNatClampNeg (nd deed.toNatClampNeg))) = V := hv
                                refine r_il C dX7_net_180 0 rfl ?_
                                refine r_il C dX7_net_182 13 rfl ?_
                                refine r_icge C (tgt := 249) dX7_net_184 (by decide) (fun c35 => ?_) (fun c35 => ?_)
                                · exact absurd ((nv_lt (a := d25) (b := m.toNatClampNeg) rfl e7.1 (by omega) (by omega)).mpr (by omega)) c35
                                · skip
                                  refine r_il C dX7_net_187 1 rfl ?_
                                  refine r_ifeq C (tgt := 249) dX7_net_189 (by decide) (fun c36 => ?_) (fun c36 => ?_)
                                  · rw [if_pos c36] at hv
                                    refine r_lv [1, 2, 3, 4, 5, 6, 7, 8, 9, 10, 11, 12, 13, 14] rfl ?_
                                    exact X27 iw_26 hv
                                  · rw [if_neg c36] at hv
                                    refine r_aln C dX7_net_192 rfl 8 rfl ?_
                                    refine gf_X7_70 C 0 rfl rfl dX7_net_193 ?_
                                    refine r_bp C (v := (16 : Int32)) dX7_net_196 (by decide) ?_
                                    refine r_iln C dX7_net_198 rfl 10 rfl ?_
                                    refine r_imul C dX7_net_199 ?_
                                    refine r_il C dX7_net_200 12 rfl ?_
                                    refine r_iadd C dX7_net_202 ?_
                                    refine r_il C dX7_net_203 0 rfl ?_
                                    refine r_iadd C dX7_net_205 ?_
                                    refine r_lald C 21 (((16 * sheet.toNatClampNeg) + i.toNatClampNeg) + d25) rfl (nv_add (nv_add (nv_mul rfl e4.1) e10.1) rfl) (by omega) (by decide) rfl dX7_net_206 ?_
                                    refine r_l2i C dX7_net_207 ?_
                                    refine r_is C (lv' := [(15, .int ((it (((16 * sheet.toNatClampNeg) + i.toNatClampNeg) + d25)).toInt32)), (14, .int (nI d25)), (13, .int iw_26), (12, .int (nI d15)), (11, .int least_17), (10, .int cnt_16), (9, .int (nd deed.toNatClampNeg)), (8, .int (s_X7_ahead dy deed.toNatClampNeg (dy deed.toNatClampNeg))), (7, .int (s_X7_why ln sz sheet.toNatClampNeg lane i m)), (0, .ref o), (1, .int deed), (2, .int sheet), (3, .int lane), (4, .int i), (5, .int m), (6, .int what)]) dX7_net_208 (by decide) rfl ?_
                                    refine r_aln C dX7_net_210 rfl 9 rfl ?_
                                    refine r_iln C dX7_net_211 rfl 10 rfl ?_
                                    refine r_il C dX7_net_212 0 rfl ?_
                                    refine r_ic C (v := (0 : Int32)) dX7_net_214 (by decide) ?_
                                    refine r_stk (st2 := [.int (0 : Int32), .int ((it (((16 * sheet.toNatClampNeg) + i.toNatClampNeg) + d25)).toInt32), .int (nI deed.toNatClampNeg), .ref o]) (congrArg (fun (z : Int32) => ([.int (0 : Int32), .int ((it (((16 * sheet.toNatClampNeg) + i.toNatClampNeg) + d25)).toInt32), .int z, .ref o] : List Value)) e2.1) ?_
                                    refine aft_rd (st' := [.int (s_X7_is kd (upd nd_18 deed.toNatClampNeg (nI d15)) deed.toNatClampNeg ((it (((16 * sheet.toNatClampNeg) + i.toNatClampNeg) + d25)).toInt32) (0 : Int32))]) (run_V (rest := []) C (c_X7_is l D o q1 q2 q3 q4 q5 q6 q7 q8 q9 q10 q11 q12 q13 q14 q15 q16 q17 q18 q19 q20 q21 q22 pe n la ri td ys ty ap wg rd sm bt up lw ii kd dy (upd nd_18 deed.toNatClampNeg (nI d15)) co od wo tp rk ry rn vs bs ch tr en du ol ig ln sz it mo deed.toNatClampNeg ((it (((16 * sheet.toNatClampNeg) + i.toNatClampNeg) + d25)).toInt32) (0 : Int32) (by omega)) ok_X7_is wn_X7_is wl_X7_is wm_X7_105 _ 0 rfl rfl rfl ⟨Nat.le_of_ble_eq_true rfl, Nat.le_of_ble_eq_true rfl⟩ fm_all rfl (Nat.le_of_ble_eq_true rfl) dX7_net_215) rfl ?_
                                    refine r_il C dX7_net_218 0 rfl ?_
                                    refine r_iln C dX7_net_220 rfl 10 rfl ?_
                                    refine r_ishr C dX7_net_221 ?_
                                    refine r_ic C (v := (1 : Int32)) dX7_net_222 (by decide) ?_
                                    refine r_iand C dX7_net_223 ?_
                                    refine r_ic C (v := (1 : Int32)) dX7_net_224 (by decide) ?_
                                    refine r_icne C (tgt := 232) dX7_net_225 (by decide) (fun c37 => ?_) (fun c37 => ?_)
                                    · rw [if_neg c37] at hv
                                      refine r_ic C (v := (0 : Int32)) dX7_net_232 (by decide) ?_
                                      refine r_icne C (tgt := 240) dX7_net_233 (by decide) (fun c38 => ?_) (fun c38 => ?_)
                                      · rw [if_neg c38] at hv
                                        refine r_ic C (v := (0 : Int32)) dX7_net_240 (by decide) ?_
                                        refine r_is C (lv' := [(13, .int (0 : Int32)), (15, .int ((it (((16 * sheet.toNatClampNeg) + i.toNatClampNeg) + d25)).toInt32)), (14, .int (nI d25)), (12, .int (nI d15)), (11, .int least_17), (10, .int cnt_16), (9, .int (nd deed.toNatClampNeg)), (8, .int (s_X7_ahead dy deed.toNatClampNeg (dy deed.toNatClampNeg))), (7, .int (s_X7_why ln sz sheet.toNatClampNeg lane i m)), (0, .ref o), (1, .int deed), (2, .int sheet), (3, .int lane), (4, .int i), (5, .int m), (6, .int what)]) dX7_net_241 (by decide) rfl ?_
                                        refine r_inc C (v := nI (d25 + 1)) (lv' := [(14, .int (nI (d25 + 1))), (13, .int (0 : Int32)), (15, .int ((it (((16 * sheet.toNatClampNeg) + i.toNatClampNeg) + d25)).toInt32)), (12, .int (nI d15)), (11, .int least_17), (10, .int cnt_16), (9, .int (nd deed.toNatClampNeg)), (8, .int (s_X7_ahead dy deed.toNatClampNeg (dy deed.toNatClampNeg))), (7, .int (s_X7_why ln sz sheet.toNatClampNeg lane i m)), (0, .ref o), (1, .int deed), (2, .int sheet), (3, .int lane), (4, .int i), (5, .int m), (6, .int what)]) dX7_net_243 2 rfl (inc_nI d25) (by decide) rfl ?_
                                        refine r_goto C (tgt := 180) dX7_net_246 (by decide) ?_
                                        refine r_lv [0, 1, 3, 4, 5, 6, 7, 8, 9, 10, 11, 12, 13, 14, 15] rfl ?_
                                        exact ih34 (d25 + 1) (0 : Int32) (by omega) hv
                                      · rw [if_pos c38] at hv
                                        refine r_ic C (v := (1 : Int32)) dX7_net_236 (by decide) ?_
                                        refine r_goto C (tgt := 241) dX7_net_237 (by decide) ?_
                                        refine r_is C (lv' := [(13, .int (1 : Int32)), (15, .int ((it (((16 * sheet.toNatClampNeg) + i.toNatClampNeg) + d25)).toInt32)), (14, .int (nI d25)), (12, .int (nI d15)), (11, .int least_17), (10, .int cnt_16), (9, .int (nd deed.toNatClampNeg)), (8, .int (s_X7_ahead dy deed.toNatClampNeg (dy deed.toNatClampNeg))), (7, .int (s_X7_why ln sz sheet.toNatClampNeg lane i m)), (0, .ref o), (1, .int deed), (2, .int sheet), (3, .int lane), (4, .int i), (5, .int m), (6, .int what)]) dX7_net_241 (by decide) rfl ?_
                                        refine r_inc C (v := nI (d25 + 1)) (lv' := [(14, .int (nI (d25 + 1))), (13, .int (1 : Int32)), (15, .int ((it (((16 * sheet.toNatClampNeg) + i.toNatClampNeg) + d25)).toInt32)), (12, .int (nI d15)), (11, .int least_17), (10, .int cnt_16), (9, .int (nd deed.toNatClampNeg)), (8, .int (s_X7_ahead dy deed.toNatClampNeg (dy deed.toNatClampNeg))), (7, .int (s_X7_why ln sz sheet.toNatClampNeg lane i m)), (0, .ref o), (1, .int deed), (2, .int sheet), (3, .int lane), (4, .int i), (5, .int m), (6, .int what)]) dX7_net_243 2 rfl (inc_nI d25) (by decide) rfl ?_
                                        refine r_goto C (tgt := 180) dX7_net_246 (by decide) ?_
                                        refine r_lv [0, 1, 3, 4, 5, 6, 7, 8, 9, 10, 11, 12, 13, 14, 15] rfl ?_
                                        exact ih34 (d25 + 1) (1 : Int32) (by omega) hv
                                    · rw [if_pos c37] at hv
                                      refine r_ic C (v := (1 : Int32)) dX7_net_228 (by decide) ?_
                                      refine r_goto C (tgt := 233) dX7_net_229 (by decide) ?_
                                      refine r_icne C (tgt := 240) dX7_net_233 (by decide) (fun c39 => ?_) (fun c39 => ?_)
                                      · rw [if_neg c39] at hv
                                        refine r_ic C (v := (0 : Int32)) dX7_net_240 (by decide) ?_
                                        refine r_is C (lv' := [(13, .int (0 : Int32)), (15, .int ((it (((16 * sheet.toNatClampNeg) + i.toNatClampNeg) + d25)).toInt32)), (14, .int (nI d25)), (12, .int (nI d15)), (11, .int least_17), (10, .int cnt_16), (9, .int (nd deed.toNatClampNeg)), (8, .int (s_X7_ahead dy deed.toNatClampNeg (dy deed.toNatClampNeg))), (7, .int (s_X7_why ln sz sheet.toNatClampNeg lane i m)), (0, .ref o), (1, .int deed), (2, .int sheet), (3, .int lane), (4, .int i), (5, .int m), (6, .int what)]) dX7_net_241 (by decide) rfl ?_
                                        refine r_inc C (v := nI (d25 + 1)) (lv' := [(14, .int (nI (d25 + 1))), (13, .int (0 : Int32)), (15, .int ((it (((16 * sheet.toNatClampNeg) + i.toNatClampNeg) + d25)).toInt32)), (12, .int (nI d15)), (11, .int least_17), (10, .int cnt_16), (9, .int (nd deed.toNatClampNeg)), (8, .int (s_X7_ahead dy deed.toNatClampNeg (dy deed.toNatClampNeg))), (7, .int (s_X7_why ln sz sheet.toNatClampNeg lane i m)), (0, .ref o), (1, .int deed), (2, .int sheet), (3, .int lane), (4, .int i), (5, .int m), (6, .int what)]) dX7_net_243 2 rfl (inc_nI d25) (by decide) rfl ?_
                                        refine r_goto C (tgt := 180) dX7_net_246 (by decide) ?_
                                        refine r_lv [0, 1, 3, 4, 5, 6, 7, 8, 9, 10, 11, 12, 13, 14, 15] rfl ?_
                                        exact ih34 (d25 + 1) (0 : Int32) (by omega) hv
                                      · rw [if_pos c39] at hv
                                        refine r_ic C (v := (1 : Int32)) dX7_net_236 (by decide) ?_
                                        refine r_goto C (tgt := 241) dX7_net_237 (by decide) ?_
                                        refine r_is C (lv' := [(13, .int (1 : Int32)), (15, .int ((it (((16 * sheet.toNatClampNeg) + i.toNatClampNeg) + d25)).toInt32)), (14, .int (nI d25)), (12, .int (nI d15)), (11, .int least_17), (10, .int cnt_16), (9, .int (nd deed.toNatClampNeg)), (8, .int (s_X7_ahead dy deed.toNatClampNeg (dy deed.toNatClampNeg))), (7, .int (s_X7_why ln sz sheet.toNatClampNeg lane i m)), (0, .ref o), (1, .int deed), (2, .int sheet), (3, .int lane), (4, .int i), (5, .int m), (6, .int what)]) dX7_net_241 (by decide) rfl ?_
                                        refine r_inc C (v := nI (d25 + 1)) (lv' := [(14, .int (nI (d25 + 1))), (13, .int (1 : Int32)), (15, .int ((it (((16 * sheet.toNatClampNeg) + i.toNatClampNeg) + d25)).toInt32)), (12, .int (nI d15)), (11, .int least_17), (10, .int cnt_16), (9, .int (nd deed.toNatClampNeg)), (8, .int (s_X7_ahead dy deed.toNatClampNeg (dy deed.toNatClampNeg))), (7, .int (s_X7_why ln sz sheet.toNatClampNeg lane i m)), (0, .ref o), (1, .int deed), (2, .int sheet), (3, .int lane), (4, .int i), (5, .int m), (6, .int what)]) dX7_net_243 2 rfl (inc_nI d25) (by decide) rfl ?_
                                        refine r_goto C (tgt := 180) dX7_net_246 (by decide) ?_
                                        refine r_lv [0, 1, 3, 4, 5, 6, 7, 8, 9, 10, 11, 12, 13, 14, 15] rfl ?_
                                        exact ih34 (d25 + 1) (1 : Int32) (by omega) hv
                            refine r_lve (lv2 := [(14, .int (nI 0)), (13, .int (nI (s_X7_net_m167_0 dy deed d15))), (12, .int (nI d15)), (11, .int least_17), (10, .int cnt_16), (9, .int (nd deed.toNatClampNeg)), (8, .int (s_X7_ahead dy deed.toNatClampNeg (dy deed.toNatClampNeg))), (7, .int (s_X7_why ln sz sheet.toNatClampNeg lane i m)), (0, .ref o), (1, .int deed), (2, .int sheet), (3, .int lane), (4, .int i), (5, .int m), (6, .int what)]) (congrArg (fun (z : Int32) => ([(14, .int z), (13, .int (nI (s_X7_net_m167_0 dy deed d15))), (12, .int (nI d15)), (11, .int least_17), (10, .int cnt_16), (9, .int (nd deed.toNatClampNeg)), (8, .int (s_X7_ahead dy deed.toNatClampNeg (dy deed.toNatClampNeg))), (7, .int (s_X7_why ln sz sheet.toNatClampNeg lane i m)), (0, .ref o), (1, .int deed), (2, .int sheet), (3, .int lane), (4, .int i), (5, .int m), (6, .int what)] : List (Nat × Value))) rfl) ?_
                            exact L40 m.toNatClampNeg 0 (nI (s_X7_net_m167_0 dy deed d15)) (by omega) hv
                          refine r_ifne C (tgt := 166) dX7_net_159 (by decide) (fun c23 => ?_) (fun c23 => ?_)
                          · skip
                            refine r_ic C (v := (0 : Int32)) dX7_net_166 (by decide) ?_
                            refine r_lv [0, 1, 2, 3, 4, 5, 6, 7, 8, 9, 10, 11, 12] rfl ?_
                            refine r_lve (lv2 := [(12, .int (nI d15)), (11, .int least_17), (10, .int cnt_16), (9, .int (nd deed.toNatClampNeg)), (8, .int (s_X7_ahead dy deed.toNatClampNeg (dy deed.toNatClampNeg))), (7, .int (s_X7_why ln sz sheet.toNatClampNeg lane i m)), (0, .ref o), (1, .int deed), (2, .int sheet), (3, .int lane), (4, .int i), (5, .int m), (6, .int what)]) rfl ?_
                            refine r_stk (st2 := [.int (nI 0)]) rfl ?_
                            exact (by have z := J41; rw [show (s_X7_net_m167_0 dy deed d15) = 0 from (by unfold s_X7_net_m167_0; first | rfl | ((try rw [if_neg (show ¬ ((nI d15) &&& ((s_X7_ahead dy deed.toNatClampNeg (dy deed.toNatClampNeg)) ^^^ (-1 : Int32)) = (0 : Int32)) from by assumption)]); (try rfl); done) | (simp only [if_pos, if_neg, *, not_false_eq_true, ite_true, ite_false, if_true, if_false]; done) | (simp [*]; done))] at z; exact z)
                          · skip
                            refine r_ic C (v := (1 : Int32)) dX7_net_162 (by decide) ?_
                            refine r_goto C (tgt := 167) dX7_net_163 (by decide) ?_
                            refine r_lv [0, 1, 2, 3, 4, 5, 6, 7, 8, 9, 10, 11, 12] rfl ?_
                            refine r_lve (lv2 := [(12, .int (nI d15)), (11, .int least_17), (10, .int cnt_16), (9, .int (nd deed.toNatClampNeg)), (8, .int (s_X7_ahead dy deed.toNatClampNeg (dy deed.toNatClampNeg))), (7, .int (s_X7_why ln sz sheet.toNatClampNeg lane i m)), (0, .ref o), (1, .int deed), (2, .int sheet), (3, .int lane), (4, .int i), (5, .int m), (6, .int what)]) rfl ?_
                            refine r_stk (st2 := [.int (nI 1)]) rfl ?_
                            exact (by have z := J41; rw [show (s_X7_net_m167_0 dy deed d15) = 1 from (by unfold s_X7_net_m167_0; first | rfl | ((try rw [if_pos (show (nI d15) &&& ((s_X7_ahead dy deed.toNatClampNeg (dy deed.toNatClampNeg)) ^^^ (-1 : Int32)) = (0 : Int32) from by assumption)]); (try rfl); done) | (simp only [if_pos, if_neg, *, not_false_eq_true, ite_true, ite_false, if_true, if_false]; done) | (simp [*]; done))] at z; exact z)
                    refine r_lve (lv2 := [(12, .int (nI 0)), (11, .int (-4 : Int32)), (10, .int (0 : Int32)), (9, .int (nd deed.toNatClampNeg)), (8, .int (s_X7_ahead dy deed.toNatClampNeg (dy deed.toNatClampNeg))), (7, .int (s_X7_why ln sz sheet.toNatClampNeg lane i m)), (0, .ref o), (1, .int deed), (2, .int sheet), (3, .int lane), (4, .int i), (5, .int m), (6, .int what)]) (congrArg (fun (z : Int32) => ([(12, .int z), (11, .int (-4 : Int32)), (10, .int (0 : Int32)), (9, .int (nd deed.toNatClampNeg)), (8, .int (s_X7_ahead dy deed.toNatClampNeg (dy deed.toNatClampNeg))), (7, .int (s_X7_why ln sz sheet.toNatClampNeg lane i m)), (0, .ref o), (1, .int deed), (2, .int sheet), (3, .int lane), (4, .int i), (5, .int m), (6, .int what)] : List (Nat × Value))) rfl) ?_
                    exact L42 (2 ^ deed.toNatClampNeg) 0 (0 : Int32) (-4 : Int32) nd (by omega) hv
                  · exact absurd c13 (fun z => absurd ((nv_lt (a := d12) (b := m.toNatClampNeg) rfl e7.1 (by omega) (by omega)).mp z) (by omega))
                | succ k11 ih43 =>
                  intro d12 hk hv
                  have hv : (if s_X7_areDeeds n (it (((16 * sheet.toNatClampNeg) + i.toNatClampNeg) + d12)) = (0 : Int32) then ((-2 : Int32), nd) else (s_X7_net_L72 n nd it sheet i (if what = (0 : Int32) then (((s_X7_net_L144 kd dy it deed sheet i m (2 ^ deed.toNatClampNeg) 0 (0 : Int32) (-4 : Int32) nd).1), upd ((s_X7_net_L144 kd dy it deed sheet i m (2 ^ deed.toNatClampNeg) 0 (0 : Int32) (-4 : Int32) nd).2.2) deed.toNatClampNeg (nd deed.toNatClampNeg)) else (((s_X7_net_L144 kd dy it deed sheet i m (2 ^ deed.toNatClampNeg) 0 (0 : Int32) (-4 : Int32) nd).2.1), upd ((s_X7_net_L144 kd dy it deed sheet i m (2 ^ deed.toNatClampNeg) 0 (0 : Int32) (-4 : Int32) nd).2.2) deed.toNatClampNeg (nd deed.toNatClampNeg))) k11 (d12 + 1))) = V := hv
                  refine r_il C dX7_net_72 0 rfl ?_
                  refine r_il C dX7_net_74 7 rfl ?_
                  refine r_icge C (tgt := 110) dX7_net_76 (by decide) (fun c44 => ?_) (fun c44 => ?_)
                  · exact absurd ((nv_lt (a := d12) (b := m.toNatClampNeg) rfl e7.1 (by omega) (by omega)).mpr (by omega)) c44
                  · skip
                    refine r_aln C dX7_net_79 rfl 2 rfl ?_
                    refine r_aln C dX7_net_80 rfl 2 rfl ?_
                    refine gf_X7_70 C 0 rfl rfl dX7_net_81 ?_
                    refine r_bp C (v := (16 : Int32)) dX7_net_84 (by decide) ?_
                    refine r_iln C dX7_net_86 rfl 4 rfl ?_
                    refine r_imul C dX7_net_87 ?_
                    refine r_il C dX7_net_88 6 rfl ?_
                    refine r_iadd C dX7_net_90 ?_
                    refine r_il C dX7_net_91 0 rfl ?_
                    refine r_iadd C dX7_net_93 ?_
                    refine r_lald C 21 (((16 * sheet.toNatClampNeg) + i.toNatClampNeg) + d12) rfl (nv_add (nv_add (nv_mul rfl e4.1) e10.1) rfl) (by omega) (by decide) rfl dX7_net_94 ?_
                    refine aft_rd (st' := [.int (s_X7_areDeeds n (it (((16 * sheet.toNatClampNeg) + i.toNatClampNeg) + d12)))]) (run_V (rest := []) C (c_X7_areDeeds l D o q1 q2 q3 q4 q5 q6 q7 q8 q9 q10 q11 q12 q13 q14 q15 q16 q17 q18 q19 q20 q21 q22 pe n la ri td ys ty ap wg rd sm bt up lw ii kd dy nd co od wo tp rk ry rn vs bs ch tr en du ol ig ln sz it mo (it (((16 * sheet.toNatClampNeg) + i.toNatClampNeg) + d12)) (by omega)) ok_X7_areDeeds wn_X7_areDeeds wl_X7_areDeeds wm_X7_128 _ 0 rfl rfl rfl ⟨Nat.le_of_ble_eq_true rfl, Nat.le_of_ble_eq_true rfl⟩ fm_all rfl (Nat.le_of_ble_eq_true rfl) dX7_net_95) rfl ?_
                    refine r_ifne C (tgt := 104) dX7_net_98 (by decide) (fun c45 => ?_) (fun c45 => ?_)
                    · rw [if_neg c45] at hv
                      refine r_inc C (v := nI (d12 + 1)) (lv' := [(8, .int (nI (d12 + 1))), (7, .int (s_X7_why ln sz sheet.toNatClampNeg lane i m)), (0, .ref o), (1, .int deed), (2, .int sheet), (3, .int lane), (4, .int i), (5, .int m), (6, .int what)]) dX7_net_104 0 rfl (inc_nI d12) (by decide) rfl ?_
                      refine r_goto C (tgt := 72) dX7_net_107 (by decide) ?_
                      exact ih43 (d12 + 1) (by omega) hv
                    · rw [if_pos c45] at hv
                      refine r_bp C (v := (-2 : Int32)) dX7_net_101 (by decide) ?_
                      exact r_iret rfl C (by rw [← hv]) (by rw [← hv]) dX7_net_103
              refine r_lve (lv2 := [(8, .int (nI 0)), (7, .int (s_X7_why ln sz sheet.toNatClampNeg lane i m)), (0, .ref o), (1, .int deed), (2, .int sheet), (3, .int lane), (4, .int i), (5, .int m), (6, .int what)]) (congrArg (fun (z : Int32) => ([(8, .int z), (7, .int (s_X7_why ln sz sheet.toNatClampNeg lane i m)), (0, .ref o), (1, .int deed), (2, .int sheet), (3, .int lane), (4, .int i), (5, .int m), (6, .int what)] : List (Nat × Value))) rfl) ?_
              exact L46 m.toNatClampNeg 0 (by omega) hv
            · rw [if_pos c9] at hv
              refine r_il C dX7_net_66 0 rfl ?_
              exact r_iret rfl C (by rw [← hv]) (by rw [← hv]) dX7_net_68
          · rw [if_pos c8] at hv
            refine r_ic C (v := (-1 : Int32)) dX7_net_47 (by decide) ?_
            exact r_iret rfl C (by rw [← hv]) (by rw [← hv]) dX7_net_48

