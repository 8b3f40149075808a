def s_X7_due (pe : Nat) (n : Nat) (ri : Int32) (co : Nat → Int32) (wo : Nat → Int32) (du : Nat → Int32) (person : Int32) : Int32 × (Nat → Int32) := (if s_X7_isOne pe person = (0 : Int32) then ((-100001 : Int32), du) else ((s_X7_owes pe n ri co wo du) person.toNatClampNeg, s_X7_owes pe n ri co wo du))
set_option maxHeartbeats 8000000 in
set_option maxRecDepth 100000 in
theorem c_X7_due (l : Launch) (D : va_G) (o : Nat) (q1 : Nat) (q2 : Nat) (q3 : Nat) (q4 : Nat) (q5 : Nat) (q6 : Nat) (q7 : Nat) (q8 : Nat) (q9 : Nat) (q10 : Nat) (q11 : Nat) (q12 : Nat) (q13 : Nat) (q14 : Nat) (q15 : Nat) (q16 : Nat) (q17 : Nat) (q18 : Nat) (q19 : Nat) (q20 : Nat) (q21 : Nat) (q22 : Nat) (pe : Nat) (n : Nat) (la : Int32) (ri : Int32) (td : Int32) (ys : Int32) (ty : Nat) (ap : Nat) (wg : Int32) (rd : Nat) (sm : Int32) (bt : Int32) (up : Int64) (lw : Int64) (ii : Int32) (kd : Nat → Int32) (dy : Nat → Int32) (nd : Nat → Int32) (co : Nat → Int32) (od : Nat → Int32) (wo : Nat → Int32) (tp : Nat → Int32) (rk : Nat → Int32) (ry : Nat → Int32) (rn : Nat → Int32) (vs : Nat → Int32) (bs : Nat → Int32) (ch : Nat → Int32) (tr : Nat → Int32) (en : Nat → Int32) (du : Nat → Int32) (ol : Nat → Int32) (ig : Nat → Int32) (ln : Nat → Int32) (sz : Nat → Int32) (it : Nat → Int64) (mo : Nat → Int64) (person : Int32) (hn : n ≤ 12) (hp : 1 ≤ pe ∧ pe ≤ 4) (h0 : va_D (fun _ => True) (wM D o q1 q2 q3 q4 q5 q6 q7 q8 q9 q10 q11 q12 q13 q14 q15 q16 q17 q18 q19 q20 q21 q22 pe n la ri td ys ty ap wg rd sm bt up lw ii kd dy nd co od wo tp rk ry rn vs bs ch tr en du ol ig ln sz it mo)) : ct l yX7_due cX7_due 2 (some .int) 2 50 D [.ref o, .int person] (wM D o q1 q2 q3 q4 q5 q6 q7 q8 q9 q10 q11 q12 q13 q14 q15 q16 q17 q18 q19 q20 q21 q22 pe n la ri td ys ty ap wg rd sm bt up lw ii kd dy nd co od wo tp rk ry rn vs bs ch tr en du ol ig ln sz it mo) (wM D o q1 q2 q3 q4 q5 q6 q7 q8 q9 q10 q11 q12 q13 q14 q15 q16 q17 q18 q19 q20 q21 q22 pe n la ri td ys ty ap wg rd sm bt up lw ii kd dy nd co od wo tp rk ry rn vs bs ch tr en (s_X7_due pe n ri co wo du person).2 ol ig ln sz it mo) (Ad (wM D o q1 q2 q3 q4 q5 q6 q7 q8 q9 q10 q11 q12 q13 q14 q15 q16 q17 q18 q19 q20 q21 q22 pe n la ri td ys ty ap wg rd sm bt up lw ii kd dy nd co od wo tp rk ry rn vs bs ch tr en du ol ig ln sz it mo)) (some (Value.int (s_X7_due pe n ri co wo du person).1)) := by
  obtain ⟨V, hv⟩ : ∃ V, s_X7_due pe n ri co wo du person = V := ⟨_, rfl⟩
  rw [hv]
  refine ct_intro (own := RX7) (lv := [(0, .ref o), (1, .int person)]) (by decide) rfl (Nat.le_of_ble_eq_true rfl) rfl ?_
  intro p_ e_ s_ m_ below_ meth_ c_ C
  have hv : (if s_X7_isOne pe person = (0 : Int32) then ((-100001 : Int32), du) else ((s_X7_owes pe n ri co wo du) person.toNatClampNeg, s_X7_owes pe n ri co wo du)) = V := hv
  refine r_aln C dX7_due_0 rfl 0 rfl ?_
  refine r_iln C dX7_due_1 rfl 1 rfl ?_
  refine aft_rd (st' := [.int (s_X7_isOne pe person)]) (run_V (rest := []) C (c_X7_isOne l D o q1 q2 q3 q4 q5 q6 q7 q8 q9 q10 q11 q12 q13 q14 q15 q16 q17 q18 q19 q20 q21 q22 pe n la ri td ys ty ap wg rd sm bt up lw ii kd dy nd co od wo tp rk ry rn vs bs ch tr en du ol ig ln sz it mo person ) ok_X7_isOne wn_X7_isOne wl_X7_isOne wm_X7_176 _ 0 rfl rfl rfl ⟨Nat.le_of_ble_eq_true rfl, Nat.le_of_ble_eq_true rfl⟩ fm_all rfl (Nat.le_of_ble_eq_true rfl) dX7_due_2) rfl ?_
  refine r_ifne C (tgt := 11) dX7_due_5 (by decide) (fun c1 => ?_) (fun c1 => ?_)
  · rw [if_neg c1] at hv
    have e2 := mone_nat hp c1
    refine r_aln C dX7_due_11 rfl 0 rfl ?_
    refine aft_wa (ws2 := wM D o q1 q2 q3 q4 q5 q6 q7 q8 q9 q10 q11 q12 q13 q14 q15 q16 q17 q18 q19 q20 q21 q22 pe n la ri td ys ty ap wg rd sm bt up lw ii kd dy nd co od wo tp rk ry rn vs bs ch tr en (s_X7_owes pe n ri co wo du) ol ig ln sz it mo) (st' := []) h0 rfl rfl (run_V (rest := []) C (c_X7_owes l D o q1 q2 q3 q4 q5 q6 q7 q8 q9 q10 q11 q12 q13 q14 q15 q16 q17 q18 q19 q20 q21 q22 pe n la ri td ys ty ap wg rd sm bt up lw ii kd dy nd co od wo tp rk ry rn vs bs ch tr en du ol ig ln sz it mo (by omega) (by omega) (dis_all h0 rfl)) ok_X7_owes wn_X7_owes wl_X7_owes wm_X7_201 _ 0 rfl rfl rfl ⟨Nat.le_of_ble_eq_true rfl, Nat.le_of_ble_eq_true rfl⟩ fm_all rfl (Nat.le_of_ble_eq_true rfl) dX7_due_12) rfl rfl ?_
    refine r_aln C dX7_due_15 rfl 0 rfl ?_
    refine gf_X7_55 C 0 rfl rfl dX7_due_16 ?_
    refine r_iln C dX7_due_19 rfl 1 rfl ?_
    refine r_iald C 16 person.toNatClampNeg rfl e2.1 (by omega) (by decide) rfl dX7_due_20 ?_
    exact r_iret rfl C (by rw [← hv]) (by rw [← hv]) dX7_due_21
  · rw [if_pos c1] at hv
    refine r_ldc C wc_X7_127 dX7_due_8 ?_
    exact r_iret rfl C (by rw [← hv]) (by rw [← hv]) dX7_due_10

def s_X7_isZero_L4 (du : Nat → Int32) (set : Int32) : Nat → Nat → Int32 → Int32
  | 0, _, sum_3 => sum_3
  | k1 + 1, d2, sum_3 => (if (set >>> ((nI d2) &&& 31)) &&& (1 : Int32) = (1 : Int32) then (s_X7_isZero_L4 du set k1 (d2 + 1) (sum_3 + (du d2))) else (s_X7_isZero_L4 du set k1 (d2 + 1) (sum_3 + (0 : Int32))))
def s_X7_isZero (du : Nat → Int32) (set : Int32) : Int32 := (if (s_X7_isZero_L4 du set 4 0 (0 : Int32)) = (0 : Int32) then (1 : Int32) else (0 : Int32))
set_option maxHeartbeats 8000000 in
set_option maxRecDepth 100000 in
theorem c_X7_isZero (l : Launch) (D : va_G) (o : Nat) (q1 : Nat) (q2 : Nat) (q3 : Nat) (q4 : Nat) (q5 : Nat) (q6 : Nat) (q7 : Nat) (q8 : Nat) (q9 : Nat) (q10 : Nat) (q11 : Nat) (q12 : Nat) (q13 : Nat) (q14 : Nat) (q15 : Nat) (q16 : Nat) (q17 : Nat) (q18 : Nat) (q19 : Nat) (q20 : Nat) (q21 : Nat) (q22 : Nat) (pe : Nat) (n : Nat) (la : Int32) (ri : Int32) (td : Int32) (ys : Int32) (ty : Nat) (ap : Nat) (wg : Int32) (rd : Nat) (sm : Int32) (bt : Int32) (up : Int64) (lw : Int64) (ii : Int32) (kd : Nat → Int32) (dy : Nat → Int32) (nd : Nat → Int32) (co : Nat → Int32) (od : Nat → Int32) (wo : Nat → Int32) (tp : Nat → Int32) (rk : Nat → Int32) (ry : Nat → Int32) (rn : Nat → Int32) (vs : Nat → Int32) (bs : Nat → Int32) (ch : Nat → Int32) (tr : Nat → Int32) (en : Nat → Int32) (du : Nat → Int32) (ol : Nat → Int32) (ig : Nat → Int32) (ln : Nat → Int32) (sz : Nat → Int32) (it : Nat → Int64) (mo : Nat → Int64) (set : Int32) : ct l yX7_isZero cX7_isZero 4 (some .boolean) 0 0 D [.ref o, .int set] (wM D o q1 q2 q3 q4 q5 q6 q7 q8 q9 q10 q11 q12 q13 q14 q15 q16 q17 q18 q19 q20 q21 q22 pe n la ri td ys ty ap wg rd sm bt up lw ii kd dy nd co od wo tp rk ry rn vs bs ch tr en du ol ig ln sz it mo) (wM D o q1 q2 q3 q4 q5 q6 q7 q8 q9 q10 q11 q12 q13 q14 q15 q16 q17 q18 q19 q20 q21 q22 pe n la ri td ys ty ap wg rd sm bt up lw ii kd dy nd co od wo tp rk ry rn vs bs ch tr en du ol ig ln sz it mo) (fun _ => False) (some (Value.int (s_X7_isZero du set))) := by
  obtain ⟨V, hv⟩ : ∃ V, s_X7_isZero du set = V := ⟨_, rfl⟩
  rw [hv]
  refine ct_intro (own := RX7) (lv := [(0, .ref o), (1, .int set)]) (by decide) rfl (Nat.le_of_ble_eq_true rfl) rfl ?_
  intro p_ e_ s_ m_ below_ meth_ c_ C
  have hv : (if (s_X7_isZero_L4 du set 4 0 (0 : Int32)) = (0 : Int32) then (1 : Int32) else (0 : Int32)) = V := hv
  refine r_ic C (v := (0 : Int32)) dX7_isZero_0 (by decide) ?_
  refine r_isn C (lv' := [(2, .int (0 : Int32)), (0, .ref o), (1, .int set)]) dX7_isZero_1 rfl (by decide) rfl ?_
  refine r_ic C (v := (0 : Int32)) dX7_isZero_2 (by decide) ?_
  refine r_isn C (lv' := [(3, .int (0 : Int32)), (2, .int (0 : Int32)), (0, .ref o), (1, .int set)]) dX7_isZero_3 rfl (by decide) rfl ?_
  have L9 : ∀ (k1 : Nat) (d2 : Nat) (sum_3 : Int32), (d2 + k1 = 4) → (if (s_X7_isZero_L4 du set k1 d2 sum_3) = (0 : Int32) then (1 : Int32) else (0 : Int32)) = V → GM p_ l e_ s_ m_ below_ meth_ c_ D 0 0 4 [.ref o, .int set] (wM D o q1 q2 q3 q4 q5 q6 q7 q8 q9 q10 q11 q12 q13 q14 q15 q16 q17 q18 q19 q20 q21 q22 pe n la ri td ys ty ap wg rd sm bt up lw ii kd dy nd co od wo tp rk ry rn vs bs ch tr en du ol ig ln sz it mo) (fun _ => False) (some (Value.int V)) (wM D o q1 q2 q3 q4 q5 q6 q7 q8 q9 q10 q11 q12 q13 q14 q15 q16 q17 q18 q19 q20 q21 q22 pe n la ri td ys ty ap wg rd sm bt up lw ii kd dy nd co od wo tp rk ry rn vs bs ch tr en du ol ig ln sz it mo) 4 [(3, .int (nI d2)), (2, .int sum_3), (0, .ref o), (1, .int set)] [] := by
    intro k1
    induction k1 with
    | zero =>
      intro d2 sum_3 hk hv
      have hv : (if sum_3 = (0 : Int32) then (1 : Int32) else (0 : Int32)) = V := hv
      refine r_iln C dX7_isZero_4 rfl 0 rfl ?_
      refine r_ic C (v := (4 : Int32)) dX7_isZero_5 (by decide) ?_
      refine r_icge C (tgt := 37) dX7_isZero_6 (by decide) (fun c4 => ?_) (fun c4 => ?_)
      · skip
        refine r_iln C dX7_isZero_37 rfl 1 rfl ?_
        refine r_ifne C (tgt := 45) dX7_isZero_38 (by decide) (fun c5 => ?_) (fun c5 => ?_)
        · rw [if_neg c5] at hv
          refine r_ic C (v := (0 : Int32)) dX7_isZero_45 (by decide) ?_
          exact r_zret rfl C rfl (congrArg (fun z => some (Value.int z)) hv) rfl dX7_isZero_46
        · rw [if_pos c5] at hv
          refine r_ic C (v := (1 : Int32)) dX7_isZero_41 (by decide) ?_
          refine r_goto C (tgt := 46) dX7_isZero_42 (by decide) ?_
          exact r_zret rfl C rfl (congrArg (fun z => some (Value.int z)) hv) rfl dX7_isZero_46
      · exact absurd c4 (fun z => absurd ((nv_lt (a := d2) (b := 4) rfl rfl (by omega) (by omega)).mp z) (by omega))
    | succ k1 ih6 =>
      intro d2 sum_3 hk hv
      have hv : (if (if (set >>> ((nI d2) &&& 31)) &&& (1 : Int32) = (1 : Int32) then (s_X7_isZero_L4 du set k1 (d2 + 1) (sum_3 + (du d2))) else (s_X7_isZero_L4 du set k1 (d2 + 1) (sum_3 + (0 : Int32)))) = (0 : Int32) then (1 : Int32) else (0 : Int32)) = V := hv
      refine r_iln C dX7_isZero_4 rfl 0 rfl ?_
      refine r_ic C (v := (4 : Int32)) dX7_isZero_5 (by decide) ?_
      refine r_icge C (tgt := 37) dX7_isZero_6 (by decide) (fun c7 => ?_) (fun c7 => ?_)
      · exact absurd ((nv_lt (a := d2) (b := 4) rfl rfl (by omega) (by omega)).mpr (by omega)) c7
      · skip
        refine r_iln C dX7_isZero_9 rfl 1 rfl ?_
        refine r_iln C dX7_isZero_10 rfl 3 rfl ?_
        refine r_iln C dX7_isZero_11 rfl 0 rfl ?_
        refine r_ishr C dX7_isZero_12 ?_
        refine r_ic C (v := (1 : Int32)) dX7_isZero_13 (by decide) ?_
        refine r_iand C dX7_isZero_14 ?_
        refine r_ic C (v := (1 : Int32)) dX7_isZero_15 (by decide) ?_
        refine r_icne C (tgt := 28) dX7_isZero_16 (by decide) (fun c8 => ?_) (fun c8 => ?_)
        · rw [if_neg c8] at hv
          refine r_ic C (v := (0 : Int32)) dX7_isZero_28 (by decide) ?_
          refine r_iadd C dX7_isZero_29 ?_
          refine r_isn C (lv' := [(2, .int (sum_3 + (0 : Int32))), (3, .int (nI d2)), (0, .ref o), (1, .int set)]) dX7_isZero_30 rfl (by decide) rfl ?_
          refine r_inc C (v := nI (d2 + 1)) (lv' := [(3, .int (nI (d2 + 1))), (2, .int (sum_3 + (0 : Int32))), (0, .ref o), (1, .int set)]) dX7_isZero_31 1 rfl (inc_nI d2) (by decide) rfl ?_
          refine r_goto C (tgt := 4) dX7_isZero_34 (by decide) ?_
          exact ih6 (d2 + 1) (sum_3 + (0 : Int32)) (by omega) hv
        · rw [if_pos c8] at hv
          refine r_aln C dX7_isZero_19 rfl 2 rfl ?_
          refine gf_X7_55 C 0 rfl rfl dX7_isZero_20 ?_
          refine r_iln C dX7_isZero_23 rfl 0 rfl ?_
          refine r_iald C 16 d2 rfl rfl (by omega) (by decide) rfl dX7_isZero_24 ?_
          refine r_goto C (tgt := 29) dX7_isZero_25 (by decide) ?_
          refine r_iadd C dX7_isZero_29 ?_
          refine r_isn C (lv' := [(2, .int (sum_3 + (du d2))), (3, .int (nI d2)), (0, .ref o), (1, .int set)]) dX7_isZero_30 rfl (by decide) rfl ?_
          refine r_inc C (v := nI (d2 + 1)) (lv' := [(3, .int (nI (d2 + 1))), (2, .int (sum_3 + (du d2))), (0, .ref o), (1, .int set)]) dX7_isZero_31 1 rfl (inc_nI d2) (by decide) rfl ?_
          refine r_goto C (tgt := 4) dX7_isZero_34 (by decide) ?_
          exact ih6 (d2 + 1) (sum_3 + (du d2)) (by omega) hv
  refine r_lve (lv2 := [(3, .int (nI 0)), (2, .int (0 : Int32)), (0, .ref o), (1, .int set)]) (congrArg (fun (z : Int32) => ([(3, .int z), (2, .int (0 : Int32)), (0, .ref o), (1, .int set)] : List (Nat × Value))) rfl) ?_
  exact L9 4 0 (0 : Int32) (by omega) hv

theorem zb_X7_isZero (du : Nat → Int32) (set : Int32) : narrow .boolean (.int (s_X7_isZero du set)) = .int (s_X7_isZero du set) := by
  unfold s_X7_isZero
  (repeat' split) <;> first | exact nz0 | exact nz1
theorem isSet4_nat {x : Int32} (h : isSet 4 x) (h0 : ¬ x = (0 : Int32)) : x = nI x.toNatClampNeg ∧ x.toNatClampNeg < 16 ∧ 1 ≤ x.toNatClampNeg := by
  obtain ⟨j, rfl, hj⟩ := h
  rw [nI_clamp (by omega)]
  refine ⟨rfl, by omega, ?_⟩
  rcases Nat.eq_zero_or_pos j with z | z
  · subst z; exact absurd rfl h0
  · omega
def s_X7_payments_L49 (pe : Nat) (n : Nat) (ri : Int32) (co : Nat → Int32) (wo : Nat → Int32) (du : Nat → Int32) (owing_3 : Int32) (K : Int32 × (Nat → Int32)) : Nat → Nat → Int32 × (Nat → Int32)
  | 0, _ => K
  | k7 + 1, d8 => (if (nI d8) &&& (owing_3 ^^^ (-1 : Int32)) = (0 : Int32) then (if s_X7_isZero (s_X7_owes pe n ri co wo du) (nI d8) = (0 : Int32) then (s_X7_payments_L49 pe n ri co wo du owing_3 K k7 (d8 + 1)) else ((s_X7_size owing_3.toNatClampNeg) - (2 : Int32), s_X7_owes pe n ri co wo du)) else (s_X7_payments_L49 pe n ri co wo du owing_3 K k7 (d8 + 1)))
def s_X7_payments_L8 (pe : Nat) (n : Nat) (ri : Int32) (co : Nat → Int32) (wo : Nat → Int32) (du : Nat → Int32) : Nat → Nat → Int32 → Int32
  | 0, _, owing_3 => owing_3
  | k1 + 1, d2, owing_3 => (if (s_X7_owes pe n ri co wo du) d2 = (0 : Int32) then (s_X7_payments_L8 pe n ri co wo du k1 (d2 + 1) (owing_3 ||| (0 : Int32))) else (s_X7_payments_L8 pe n ri co wo du k1 (d2 + 1) (owing_3 ||| ((1 : Int32) <<< ((nI d2) &&& 31)))))
def s_X7_payments (pe : Nat) (n : Nat) (ri : Int32) (co : Nat → Int32) (wo : Nat → Int32) (du : Nat → Int32) : Int32 × (Nat → Int32) := (if (s_X7_payments_L8 pe n ri co wo du pe 0 (0 : Int32)) = (0 : Int32) then ((0 : Int32), s_X7_owes pe n ri co wo du) else (s_X7_payments_L49 pe n ri co wo du (s_X7_payments_L8 pe n ri co wo du pe 0 (0 : Int32)) ((s_X7_size (s_X7_payments_L8 pe n ri co wo du pe 0 (0 : Int32)).toNatClampNeg) - (1 : Int32), s_X7_owes pe n ri co wo du) ((s_X7_payments_L8 pe n ri co wo du pe 0 (0 : Int32)).toNatClampNeg - 1) 1))
set_option maxHeartbeats 8000000 in
set_option maxRecDepth 100000 in
theorem c_X7_payments (l : Launch) (D : va_G) (o : Nat) (q1 : Nat) (q2 : Nat) (q3 : Nat) (q4 : Nat) (q5 : Nat) (q6 : Nat) (q7 : Nat) (q8 : Nat) (q9 : Nat) (q10 : Nat) (q11 : Nat) (q12 : Nat) (q13 : Nat) (q14 : Nat) (q15 : Nat) (q16 : Nat) (q17 : Nat) (q18 : Nat) (q19 : Nat) (q20 : Nat) (q21 : Nat) (q22 : Nat) (pe : Nat) (n : Nat) (la : Int32) (ri : Int32) (td : Int32) (ys : Int32) (ty : Nat) (ap : Nat) (wg : Int32) (rd : Nat) (sm : Int32) (bt : Int32) (up : Int64) (lw : Int64) (ii : Int32) (kd : Nat → Int32) (dy : Nat → Int32) (nd : Nat → Int32) (co : Nat → Int32) (od : Nat → Int32) (wo : Nat → Int32) (tp : Nat → Int32) (rk : Nat → Int32) (ry : Nat → Int32) (rn : Nat → Int32) (vs : Nat → Int32) (bs : Nat → Int32) (ch : Nat → Int32) (tr : Nat → Int32) (en : Nat → Int32) (du : Nat → Int32) (ol : Nat → Int32) (ig : Nat → Int32) (ln : Nat → Int32) (sz : Nat → Int32) (it : Nat → Int64) (mo : Nat → Int64) (hn : n ≤ 12) (hp : 1 ≤ pe ∧ pe ≤ 4) (h0 : va_D (fun _ => True) (wM D o q1 q2 q3 q4 q5 q6 q7 q8 q9 q10 q11 q12 q13 q14 q15 q16 q17 q18 q19 q20 q21 q22 pe n la ri td ys ty ap wg rd sm bt up lw ii kd dy nd co od wo tp rk ry rn vs bs ch tr en du ol ig ln sz it mo)) : ct l yX7_payments cX7_payments 3 (some .int) 2 50 D [.ref o] (wM D o q1 q2 q3 q4 q5 q6 q7 q8 q9 q10 q11 q12 q13 q14 q15 q16 q17 q18 q19 q20 q21 q22 pe n la ri td ys ty ap wg rd sm bt up lw ii kd dy nd co od wo tp rk ry rn vs bs ch tr en du ol ig ln sz it mo) (wM D o q1 q2 q3 q4 q5 q6 q7 q8 q9 q10 q11 q12 q13 q14 q15 q16 q17 q18 q19 q20 q21 q22 pe n la ri td ys ty ap wg rd sm bt up lw ii kd dy nd co od wo tp rk ry rn vs bs ch tr en (s_X7_payments pe n ri co wo du).2 ol ig ln sz it mo) (Ad (wM D o q1 q2 q3 q4 q5 q6 q7 q8 q9 q10 q11 q12 q13 q14 q15 q16 q17 q18 q19 q20 q21 q22 pe n la ri td ys ty ap wg rd sm bt up lw ii kd dy nd co od wo tp rk ry rn vs bs ch tr en du ol ig ln sz it mo)) (some (Value.int (s_X7_payments pe n ri co wo du).1)) := by
  obtain ⟨V, hv⟩ : ∃ V, s_X7_payments pe n ri co wo du = V := ⟨_, rfl⟩
  rw [hv]
  refine ct_intro (own := RX7) (lv := [(0, .ref o)]) (by decide) rfl (Nat.le_of_ble_eq_true rfl) rfl ?_
  intro p_ e_ s_ m_ below_ meth_ c_ C
  have hv : (if (s_X7_payments_L8 pe n ri co wo du pe 0 (0 : Int32)) = (0 : Int32) then ((0 : Int32), s_X7_owes pe n ri co wo du) else (s_X7_payments_L49 pe n ri co wo du (s_X7_payments_L8 pe n ri co wo du pe 0 (0 : Int32)) ((s_X7_size (s_X7_payments_L8 pe n ri co wo du pe 0 (0 : Int32)).toNatClampNeg) - (1 : Int32), s_X7_owes pe n ri co wo du) ((s_X7_payments_L8 pe n ri co wo du pe 0 (0 : Int32)).toNatClampNeg - 1) 1)) = V := hv
  refine r_aln C dX7_payments_0 rfl 0 rfl ?_
  refine aft_wa (ws2 := wM D o q1 q2 q3 q4 q5 q6 q7 q8 q9 q10 q11 q12 q13 q14 q15 q16 q17 q18 q19 q20 q21 q22 pe n la ri td ys ty ap wg rd sm bt up lw ii kd dy nd co od wo tp rk ry rn vs bs ch tr en (s_X7_owes pe n ri co wo du) ol ig ln sz it mo) (st' := []) h0 rfl rfl (run_V (rest := []) C (c_X7_owes l D o q1 q2 q3 q4 q5 q6 q7 q8 q9 q10 q11 q12 q13 q14 q15 q16 q17 q18 q19 q20 q21 q22 pe n la ri td ys ty ap wg rd sm bt up lw ii kd dy nd co od wo tp rk ry rn vs bs ch tr en du ol ig ln sz it mo (by omega) (by omega) (dis_all h0 rfl)) ok_X7_owes wn_X7_owes wl_X7_owes wm_X7_201 _ 0 rfl rfl rfl ⟨Nat.le_of_ble_eq_true rfl, Nat.le_of_ble_eq_true rfl⟩ fm_all rfl (Nat.le_of_ble_eq_true rfl) dX7_payments_1) rfl rfl ?_
  refine r_ic C (v := (0 : Int32)) dX7_payments_4 (by decide) ?_
  refine r_isn C (lv' := [(1, .int (0 : Int32)), (0, .ref o)]) dX7_payments_5 rfl (by decide) rfl ?_
  refine r_ic C (v := (0 : Int32)) dX7_payments_6 (by decide) ?_
  refine r_isn C (lv' := [(2, .int (0 : Int32)), (1, .int (0 : Int32)), (0, .ref o)]) dX7_payments_7 rfl (by decide) rfl ?_
  have L18 : ∀ (k1 : Nat) (d2 : Nat) (owing_3 : Int32), (d2 + k1 = pe) → (isSet 4 owing_3 ∧ d2 ≤ 4) → (if (s_X7_payments_L8 pe n ri co wo du k1 d2 owing_3) = (0 : Int32) then ((0 : Int32), s_X7_owes pe n ri co wo du) else (s_X7_payments_L49 pe n ri co wo du (s_X7_payments_L8 pe n ri co wo du k1 d2 owing_3) ((s_X7_size (s_X7_payments_L8 pe n ri co wo du k1 d2 owing_3).toNatClampNeg) - (1 : Int32), s_X7_owes pe n ri co wo du) ((s_X7_payments_L8 pe n ri co wo du k1 d2 owing_3).toNatClampNeg - 1) 1)) = V → GM p_ l e_ s_ m_ below_ meth_ c_ D 2 50 3 [.ref o] (wM D o q1 q2 q3 q4 q5 q6 q7 q8 q9 q10 q11 q12 q13 q14 q15 q16 q17 q18 q19 q20 q21 q22 pe n la ri td ys ty ap wg rd sm bt up lw ii kd dy nd co od wo tp rk ry rn vs bs ch tr en V.2 ol ig ln sz it mo) (Ad (wM D o q1 q2 q3 q4 q5 q6 q7 q8 q9 q10 q11 q12 q13 q14 q15 q16 q17 q18 q19 q20 q21 q22 pe n la ri td ys ty ap wg rd sm bt up lw ii kd dy nd co od wo tp rk ry rn vs bs ch tr en du ol ig ln sz it mo)) (some (Value.int V.1)) (wM D o q1 q2 q3 q4 q5 q6 q7 q8 q9 q10 q11 q12 q13 q14 q15 q16 q17 q18 q19 q20 q21 q22 pe n la ri td ys ty ap wg rd sm bt up lw ii kd dy nd co od wo tp rk ry rn vs bs ch tr en (s_X7_owes pe n ri co wo du) ol ig ln sz it mo) 8 [(2, .int (nI d2)), (1, .int owing_3), (0, .ref o)] [] := by
    intro k1
    induction k1 with
    | zero =>
      intro d2 owing_3 hk hs hv
      have hv : (if owing_3 = (0 : Int32) then ((0 : Int32), s_X7_owes pe n ri co wo du) else (s_X7_payments_L49 pe n ri co wo du owing_3 ((s_X7_size owing_3.toNatClampNeg) - (1 : Int32), s_X7_owes pe n ri co wo du) (owing_3.toNatClampNeg - 1) 1)) = V := hv
      refine r_iln C dX7_payments_8 rfl 0 rfl ?_
      refine r_aln C dX7_payments_9 rfl 2 rfl ?_
      refine gf_X7_77 C 0 rfl rfl dX7_payments_10 ?_
      refine r_icge C (tgt := 41) dX7_payments_13 (by decide) (fun c4 => ?_) (fun c4 => ?_)
      · skip
        refine r_iln C dX7_payments_41 rfl 1 rfl ?_
        refine r_ifne C (tgt := 47) dX7_payments_42 (by decide) (fun c5 => ?_) (fun c5 => ?_)
        · rw [if_neg c5] at hv
          have e6 := (isSet4_nat hs.1 c5)
          refine r_ic C (v := (1 : Int32)) dX7_payments_47 (by decide) ?_
          refine r_isn C (lv' := [(2, .int (1 : Int32)), (1, .int owing_3), (0, .ref o)]) dX7_payments_48 rfl (by decide) rfl ?_
          have L14 : ∀ (k7 : Nat) (d8 : Nat), (d8 + k7 = owing_3.toNatClampNeg) → (s_X7_payments_L49 pe n ri co wo du owing_3 ((s_X7_size owing_3.toNatClampNeg) - (1 : Int32), s_X7_owes pe n ri co wo du) k7 d8) = V → GM p_ l e_ s_ m_ below_ meth_ c_ D 2 50 3 [.ref o] (wM D o q1 q2 q3 q4 q5 q6 q7 q8 q9 q10 q11 q12 q13 q14 q15 q16 q17 q18 q19 q20 q21 q22 pe n la ri td ys ty ap wg rd sm bt up lw ii kd dy nd co od wo tp rk ry rn vs bs ch tr en V.2 ol ig ln sz it mo) (Ad (wM D o q1 q2 q3 q4 q5 q6 q7 q8 q9 q10 q11 q12 q13 q14 q15 q16 q17 q18 q19 q20 q21 q22 pe n la ri td ys ty ap wg rd sm bt up lw ii kd dy nd co od wo tp rk ry rn vs bs ch tr en du ol ig ln sz it mo)) (some (Value.int V.1)) (wM D o q1 q2 q3 q4 q5 q6 q7 q8 q9 q10 q11 q12 q13 q14 q15 q16 q17 q18 q19 q20 q21 q22 pe n la ri td ys ty ap wg rd sm bt up lw ii kd dy nd co od wo tp rk ry rn vs bs ch tr en (s_X7_owes pe n ri co wo du) ol ig ln sz it mo) 49 [(2, .int (nI d8)), (1, .int owing_3), (0, .ref o)] [] := by
            intro k7
            induction k7 with
            | zero =>
              intro d8 hk hv
              have hv : ((s_X7_size owing_3.toNatClampNeg) - (1 : Int32), s_X7_owes pe n ri co wo du) = V := hv
              refine r_iln C dX7_payments_49 rfl 0 rfl ?_
              refine r_iln C dX7_payments_50 rfl 1 rfl ?_
              refine r_icge C (tgt := 83) dX7_payments_51 (by decide) (fun c9 => ?_) (fun c9 => ?_)
              · skip
                refine r_iln C dX7_payments_83 rfl 1 rfl ?_
                refine r_stk (st2 := [.int (nI owing_3.toNatClampNeg)]) (congrArg (fun (z : Int32) => ([.int z] : List Value)) e6.1) ?_
                refine aft_rd (st' := [.int (s_X7_size owing_3.toNatClampNeg)]) (run_S (rest := []) C (c_X7_size l D owing_3.toNatClampNeg (by omega)) ok_X7_size ws_X7_size wm_X7_167 [] rfl ⟨Nat.le_of_ble_eq_true rfl, Nat.le_of_ble_eq_true rfl⟩ rfl rfl (Nat.le_of_ble_eq_true rfl) dX7_payments_84) rfl ?_
                refine r_ic C (v := (1 : Int32)) dX7_payments_87 (by decide) ?_
                refine r_isub C dX7_payments_88 ?_
                exact r_iret rfl C (by rw [← hv]) (by rw [← hv]) dX7_payments_89
              · exact absurd c9 (fun z => absurd ((nv_lt (a := d8) (b := owing_3.toNatClampNeg) rfl e6.1 (by omega) (by omega)).mp z) (by omega))
            | succ k7 ih10 =>
              intro d8 hk hv
              have hv : (if (nI d8) &&& (owing_3 ^^^ (-1 : Int32)) = (0 : Int32) then (if s_X7_isZero (s_X7_owes pe n ri co wo du) (nI d8) = (0 : Int32) then (s_X7_payments_L49 pe n ri co wo du owing_3 ((s_X7_size owing_3.toNatClampNeg) - (1 : Int32), s_X7_owes pe n ri co wo du) k7 (d8 + 1)) else ((s_X7_size owing_3.toNatClampNeg) - (2 : Int32), s_X7_owes pe n ri co wo du)) else (s_X7_payments_L49 pe n ri co wo du owing_3 ((s_X7_size owing_3.toNatClampNeg) - (1 : Int32), s_X7_owes pe n ri co wo du) k7 (d8 + 1))) = V := hv
              refine r_iln C dX7_payments_49 rfl 0 rfl ?_
              refine r_iln C dX7_payments_50 rfl 1 rfl ?_
              refine r_icge C (tgt := 83) dX7_payments_51 (by decide) (fun c11 => ?_) (fun c11 => ?_)
              · exact absurd ((nv_lt (a := d8) (b := owing_3.toNatClampNeg) rfl e6.1 (by omega) (by omega)).mpr (by omega)) c11
              · skip
                refine r_iln C dX7_payments_54 rfl 0 rfl ?_
                refine r_iln C dX7_payments_55 rfl 1 rfl ?_
                refine r_ic C (v := (-1 : Int32)) dX7_payments_56 (by decide) ?_
                refine r_ixor C dX7_payments_57 ?_
                refine r_iand C dX7_payments_58 ?_
                refine r_ifne C (tgt := 77) dX7_payments_59 (by decide) (fun c12 => ?_) (fun c12 => ?_)
                · rw [if_neg c12] at hv
                  refine r_inc C (v := nI (d8 + 1)) (lv' := [(2, .int (nI (d8 + 1))), (1, .int owing_3), (0, .ref o)]) dX7_payments_77 0 rfl (inc_nI d8) (by decide) rfl ?_
                  refine r_goto C (tgt := 49) dX7_payments_80 (by decide) ?_
                  exact ih10 (d8 + 1) (by omega) hv
                · rw [if_pos c12] at hv
                  refine r_aln C dX7_payments_62 rfl 2 rfl ?_
                  refine r_iln C dX7_payments_63 rfl 0 rfl ?_
                  refine aft_rd (st' := [.int (s_X7_isZero (s_X7_owes pe n ri co wo du) (nI d8))]) (run_V (rest := []) C (c_X7_isZero l D o q1 q2 q3 q4 q5 q6 q7 q8 q9 q10 q11 q12 q13 q14 q15 q16 q17 q18 q19 q20 q21 q22 pe n la ri td ys ty ap wg rd sm bt up lw ii kd dy nd co od wo tp rk ry rn vs bs ch tr en (s_X7_owes pe n ri co wo du) ol ig ln sz it mo (nI d8) ) ok_X7_isZero wn_X7_isZero wl_X7_isZero wm_X7_204 _ 0 rfl rfl rfl ⟨Nat.le_of_ble_eq_true rfl, Nat.le_of_ble_eq_true rfl⟩ fm_all rfl (Nat.le_of_ble_eq_true rfl) dX7_payments_64) rfl ?_
                  refine r_ifeq C (tgt := 77) dX7_payments_67 (by decide) (fun c13 => ?_) (fun c13 => ?_)
                  · rw [if_pos c13] at hv
                    refine r_inc C (v := nI (d8 + 1)) (lv' := [(2, .int (nI (d8 + 1))), (1, .int owing_3), (0, .ref o)]) dX7_payments_77 0 rfl (inc_nI d8) (by decide) rfl ?_
                    refine r_goto C (tgt := 49) dX7_payments_80 (by decide) ?_
                    exact ih10 (d8 + 1) (by omega) hv
                  · rw [if_neg c13] at hv
                    refine r_iln C dX7_payments_70 rfl 1 rfl ?_
                    refine r_stk (st2 := [.int (nI owing_3.toNatClampNeg)]) (congrArg (fun (z : Int32) => ([.int z] : List Value)) e6.1) ?_
                    refine aft_rd (st' := [.int (s_X7_size owing_3.toNatClampNeg)]) (run_S (rest := []) C (c_X7_size l D owing_3.toNatClampNeg (by omega)) ok_X7_size ws_X7_size wm_X7_167 [] rfl ⟨Nat.le_of_ble_eq_true rfl, Nat.le_of_ble_eq_true rfl⟩ rfl rfl (Nat.le_of_ble_eq_true rfl) dX7_payments_71) rfl ?_
                    refine r_ic C (v := (2 : Int32)) dX7_payments_74 (by decide) ?_
                    refine r_isub C dX7_payments_75 ?_
                    exact r_iret rfl C (by rw [← hv]) (by rw [← hv]) dX7_payments_76
          refine r_lve (lv2 := [(2, .int (nI 1)), (1, .int owing_3), (0, .ref o)]) (congrArg (fun (z : Int32) => ([(2, .int z), (1, .int owing_3), (0, .ref o)] : List (Nat × Value))) rfl) ?_
          exact L14 (owing_3.toNatClampNeg - 1) 1 (by omega) hv
        · rw [if_pos c5] at hv
          refine r_ic C (v := (0 : Int32)) dX7_payments_45 (by decide) ?_
          exact r_iret rfl C (by rw [← hv]) (by rw [← hv]) dX7_payments_46
      · exact absurd c4 (fun z => absurd ((nv_lt (a := d2) (b := pe) rfl rfl (by omega) (by omega)).mp z) (by omega))
    | succ k1 ih15 =>
      intro d2 owing_3 hk hs hv
      have hv : (if (if (s_X7_owes pe n ri co wo du) d2 = (0 : Int32) then (s_X7_payments_L8 pe n ri co wo du k1 (d2 + 1) (owing_3 ||| (0 : Int32))) else (s_X7_payments_L8 pe n ri co wo du k1 (d2 + 1) (owing_3 ||| ((1 : Int32) <<< ((nI d2) &&& 31))))) = (0 : Int32) then ((0 : Int32), s_X7_owes pe n ri co wo du) else (s_X7_payments_L49 pe n ri co wo du (if (s_X7_owes pe n ri co wo du) d2 = (0 : Int32) then (s_X7_payments_L8 pe n ri co wo du k1 (d2 + 1) (owing_3 ||| (0 : Int32))) else (s_X7_payments_L8 pe n ri co wo du k1 (d2 + 1) (owing_3 ||| ((1 : Int32) <<< ((nI d2) &&& 31))))) ((s_X7_size (if (s_X7_owes pe n ri co wo du) d2 = (0 : Int32) then (s_X7_payments_L8 pe n ri co wo du k1 (d2 + 1) (owing_3 ||| (0 : Int32))) else (s_X7_payments_L8 pe n ri co wo du k1 (d2 + 1) (owing_3 ||| ((1 : Int32) <<< ((nI d2) &&& 31))))).toNatClampNeg) - (1 : Int32), s_X7_owes pe n ri co wo du) ((if (s_X7_owes pe n ri co wo du) d2 = (0 : Int32) then (s_X7_payments_L8 pe n ri co wo du k1 (d2 + 1) (owing_3 ||| (0 : Int32))) else (s_X7_payments_L8 pe n ri co wo du k1 (d2 + 1) (owing_3 ||| ((1 : Int32) <<< ((nI d2) &&& 31))))).toNatClampNeg - 1) 1)) = V := hv
      refine r_iln C dX7_payments_8 rfl 0 rfl ?_
      refine r_aln C dX7_payments_9 rfl 2 rfl ?_
      refine gf_X7_77 C 0 rfl rfl dX7_payments_10 ?_
      refine r_icge C (tgt := 41) dX7_payments_13 (by decide) (fun c16 => ?_) (fun c16 => ?_)
      · exact absurd ((nv_lt (a := d2) (b := pe) rfl rfl (by omega) (by omega)).mpr (by omega)) c16
      · skip
        refine r_iln C dX7_payments_16 rfl 1 rfl ?_
        refine r_aln C dX7_payments_17 rfl 2 rfl ?_
        refine gf_X7_55 C 0 rfl rfl dX7_payments_18 ?_
        refine r_iln C dX7_payments_21 rfl 0 rfl ?_
        refine r_iald C 16 d2 rfl rfl (by omega) (by decide) rfl dX7_payments_22 ?_
        refine r_ifne C (tgt := 30) dX7_payments_23 (by decide) (fun c17 => ?_) (fun c17 => ?_)
        · rw [if_neg c17] at hv
          refine r_ic C (v := (1 : Int32)) dX7_payments_30 (by decide) ?_
          refine r_iln C dX7_payments_31 rfl 0 rfl ?_
          refine r_ishl C dX7_payments_32 ?_
          refine r_ior C dX7_payments_33 ?_
          refine r_isn C (lv' := [(1, .int (owing_3 ||| ((1 : Int32) <<< ((nI d2) &&& 31)))), (2, .int (nI d2)), (0, .ref o)]) dX7_payments_34 rfl (by decide) rfl ?_
          refine r_inc C (v := nI (d2 + 1)) (lv' := [(2, .int (nI (d2 + 1))), (1, .int (owing_3 ||| ((1 : Int32) <<< ((nI d2) &&& 31)))), (0, .ref o)]) dX7_payments_35 1 rfl (inc_nI d2) (by decide) rfl ?_
          refine r_goto C (tgt := 8) dX7_payments_38 (by decide) ?_
          exact ih15 (d2 + 1) (owing_3 ||| ((1 : Int32) <<< ((nI d2) &&& 31))) (by omega) ⟨by first | exact isSet_or (by omega) (by omega) hs.1 | exact isSet_or0 hs.1, by omega⟩ hv
        · rw [if_pos c17] at hv
          refine r_ic C (v := (0 : Int32)) dX7_payments_26 (by decide) ?_
          refine r_goto C (tgt := 33) dX7_payments_27 (by decide) ?_
          refine r_ior C dX7_payments_33 ?_
          refine r_isn C (lv' := [(1, .int (owing_3 ||| (0 : Int32))), (2, .int (nI d2)), (0, .ref o)]) dX7_payments_34 rfl (by decide) rfl ?_
          refine r_inc C (v := nI (d2 + 1)) (lv' := [(2, .int (nI (d2 + 1))), (1, .int (owing_3 ||| (0 : Int32))), (0, .ref o)]) dX7_payments_35 1 rfl (inc_nI d2) (by decide) rfl ?_
          refine r_goto C (tgt := 8) dX7_payments_38 (by decide) ?_
          exact ih15 (d2 + 1) (owing_3 ||| (0 : Int32)) (by omega) ⟨by first | exact isSet_or (by omega) (by omega) hs.1 | exact isSet_or0 hs.1, by omega⟩ hv
  refine r_lve (lv2 := [(2, .int (nI 0)), (1, .int (0 : Int32)), (0, .ref o)]) (congrArg (fun (z : Int32) => ([(2, .int z), (1, .int (0 : Int32)), (0, .ref o)] : List (Nat × Value))) rfl) ?_
  exact L18 pe 0 (0 : Int32) (by omega) ⟨isSet_0 4, by omega⟩ hv

