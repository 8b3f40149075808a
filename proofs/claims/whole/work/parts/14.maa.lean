abbrev wM (D : va_G) (o q1 q2 q3 q4 q5 q6 q7 q8 q9 q10 q11 q12 q13 q14 q15 q16 q17 q18 q19 q20 q21 q22 : Nat) (pe : Nat) (n : Nat) (la : Int32) (ri : Int32) (td : Int32) (ys : Int32) (ty : Nat) (ap : Nat) (wg : Int32) (rd : Nat) (sm : Int32) (bt : Int32) (up : Int64) (lw : Int64) (ii : Int32) (kd : Nat → Int32) (dy : Nat → Int32) (nd : Nat → Int32) (co : Nat → Int32) (od : Nat → Int32) (wo : Nat → Int32) (tp : Nat → Int32) (rk : Nat → Int32) (ry : Nat → Int32) (rn : Nat → Int32) (vs : Nat → Int32) (bs : Nat → Int32) (ch : Nat → Int32) (tr : Nat → Int32) (en : Nat → Int32) (du : Nat → Int32) (ol : Nat → Int32) (ig : Nat → Int32) (ln : Nat → Int32) (sz : Nat → Int32) (it : Nat → Int64) (mo : Nat → Int64) : va_W := [(o, .inr (4, [.int (nI pe), .int (nI n), .ref q1, .ref q2, .ref q3, .ref q4, .ref q5, .ref q6, .int la, .int ri, .int td, .int ys, .ref q7, .int (nI ty), .int (nI ap), .int wg, .int (nI rd), .ref q8, .ref q9, .ref q10, .ref q11, .int sm, .ref q12, .int bt, .ref q13, .ref q14, .ref q15, .ref q16, .long up, .long lw, .ref q17, .ref q18, .int ii, .ref q19, .ref q20, .ref q21, .ref q22])), (q1, .inl (D.1 10, 12, .inl kd)), (q2, .inl (D.1 10, 12, .inl dy)), (q3, .inl (D.1 10, 12, .inl nd)), (q4, .inl (D.1 10, 12, .inl co)), (q5, .inl (D.1 10, 12, .inl od)), (q6, .inl (D.1 10, 48, .inl wo)), (q7, .inl (D.1 10, 80, .inl tp)), (q8, .inl (D.1 10, 12, .inl rk)), (q9, .inl (D.1 10, 12, .inl ry)), (q10, .inl (D.1 10, 12, .inl rn)), (q11, .inl (D.1 10, 4, .inl vs)), (q12, .inl (D.1 10, 4, .inl bs)), (q13, .inl (D.1 10, 13, .inl ch)), (q14, .inl (D.1 10, 13, .inl tr)), (q15, .inl (D.1 10, 13, .inl en)), (q16, .inl (D.1 10, 4, .inl du)), (q17, .inl (D.1 10, 61, .inl ol)), (q18, .inl (D.1 10, 114, .inl ig)), (q19, .inl (D.1 10, 4, .inl ln)), (q20, .inl (D.1 10, 4, .inl sz)), (q21, .inl (D.1 11, 64, .inr (.inl it))), (q22, .inl (D.1 11, 16, .inr (.inl mo)))]
abbrev wA12 (D : va_G) (a : Nat) (f : Nat → Int32) : va_W := [(a, .inl (D.1 10, 12, .inl f))]
def s_X7_in (v : Int64) (lo : Int64) (hi : Int64) : Int32 := (if lg_cmp v lo < (0 : Int32) then (0 : Int32) else (if (0 : Int32) < lg_cmp v hi then (0 : Int32) else (1 : Int32)))
set_option maxHeartbeats 8000000 in
set_option maxRecDepth 100000 in
theorem c_X7_in (l : Launch) (D : va_G) (v : Int64) (lo : Int64) (hi : Int64) : ct l yX7_in cX7_in 6 (some .boolean) 0 0 D [.long v, .long lo, .long hi] (([] : va_W)) (([] : va_W)) (fun _ => False) (some (Value.int (s_X7_in v lo hi))) := by
  obtain ⟨V, hv⟩ : ∃ V, s_X7_in v lo hi = V := ⟨_, rfl⟩
  rw [hv]
  refine ct_intro (own := RX7) (lv := [(0, .long v), (2, .long lo), (4, .long hi)]) (by decide) rfl (Nat.le_of_ble_eq_true rfl) rfl ?_
  intro p_ e_ s_ m_ below_ meth_ c_ C
  have hv : (if lg_cmp v lo < (0 : Int32) then (0 : Int32) else (if (0 : Int32) < lg_cmp v hi then (0 : Int32) else (1 : Int32))) = V := hv
  refine r_lln C dX7_in_0 rfl 0 rfl ?_
  refine r_lln C dX7_in_1 rfl 1 rfl ?_
  refine r_lcmp C dX7_in_2 ?_
  refine r_iflt C (tgt := 17) dX7_in_3 (by decide) (fun c1 => ?_) (fun c1 => ?_)
  · rw [if_pos c1] at hv
    refine r_ic C (v := (0 : Int32)) dX7_in_17 (by decide) ?_
    exact r_zret rfl C rfl (congrArg (fun z => some (Value.int z)) hv) rfl dX7_in_18
  · rw [if_neg c1] at hv
    refine r_lln C dX7_in_6 rfl 0 rfl ?_
    refine r_ll C dX7_in_7 2 rfl ?_
    refine r_lcmp C dX7_in_9 ?_
    refine r_ifgt C (tgt := 17) dX7_in_10 (by decide) (fun c2 => ?_) (fun c2 => ?_)
    · rw [if_pos c2] at hv
      refine r_ic C (v := (0 : Int32)) dX7_in_17 (by decide) ?_
      exact r_zret rfl C rfl (congrArg (fun z => some (Value.int z)) hv) rfl dX7_in_18
    · rw [if_neg c2] at hv
      refine r_ic C (v := (1 : Int32)) dX7_in_13 (by decide) ?_
      refine r_goto C (tgt := 18) dX7_in_14 (by decide) ?_
      exact r_zret rfl C rfl (congrArg (fun z => some (Value.int z)) hv) rfl dX7_in_18

theorem zb_X7_in (v : Int64) (lo : Int64) (hi : Int64) : narrow .boolean (.int (s_X7_in v lo hi)) = .int (s_X7_in v lo hi) := by
  unfold s_X7_in
  (repeat' split) <;> first | exact nz0 | exact nz1
def s_X7_isDeed (n : Nat) (d : Int64) : Int32 := s_X7_in d (0 : Int64) (((nI n) - (1 : Int32)).toInt64)
set_option maxHeartbeats 8000000 in
set_option maxRecDepth 100000 in
theorem c_X7_isDeed (l : Launch) (D : va_G) (o : Nat) (q1 : Nat) (q2 : Nat) (q3 : Nat) (q4 : Nat) (q5 : Nat) (q6 : Nat) (q7 : Nat) (q8 : Nat) (q9 : Nat) (q10 : Nat) (q11 : Nat) (q12 : Nat) (q13 : Nat) (q14 : Nat) (q15 : Nat) (q16 : Nat) (q17 : Nat) (q18 : Nat) (q19 : Nat) (q20 : Nat) (q21 : Nat) (q22 : Nat) (pe : Nat) (n : Nat) (la : Int32) (ri : Int32) (td : Int32) (ys : Int32) (ty : Nat) (ap : Nat) (wg : Int32) (rd : Nat) (sm : Int32) (bt : Int32) (up : Int64) (lw : Int64) (ii : Int32) (kd : Nat → Int32) (dy : Nat → Int32) (nd : Nat → Int32) (co : Nat → Int32) (od : Nat → Int32) (wo : Nat → Int32) (tp : Nat → Int32) (rk : Nat → Int32) (ry : Nat → Int32) (rn : Nat → Int32) (vs : Nat → Int32) (bs : Nat → Int32) (ch : Nat → Int32) (tr : Nat → Int32) (en : Nat → Int32) (du : Nat → Int32) (ol : Nat → Int32) (ig : Nat → Int32) (ln : Nat → Int32) (sz : Nat → Int32) (it : Nat → Int64) (mo : Nat → Int64) (d : Int64) : ct l yX7_isDeed cX7_isDeed 3 (some .boolean) 1 25 D [.ref o, .long d] (wM D o q1 q2 q3 q4 q5 q6 q7 q8 q9 q10 q11 q12 q13 q14 q15 q16 q17 q18 q19 q20 q21 q22 pe n la ri td ys ty ap wg rd sm bt up lw ii kd dy nd co od wo tp rk ry rn vs bs ch tr en du ol ig ln sz it mo) (wM D o q1 q2 q3 q4 q5 q6 q7 q8 q9 q10 q11 q12 q13 q14 q15 q16 q17 q18 q19 q20 q21 q22 pe n la ri td ys ty ap wg rd sm bt up lw ii kd dy nd co od wo tp rk ry rn vs bs ch tr en du ol ig ln sz it mo) (fun _ => False) (some (Value.int (s_X7_isDeed n d))) := by
  obtain ⟨V, hv⟩ : ∃ V, s_X7_isDeed n d = V := ⟨_, rfl⟩
  rw [hv]
  refine ct_intro (own := RX7) (lv := [(0, .ref o), (1, .long d)]) (by decide) rfl (Nat.le_of_ble_eq_true rfl) rfl ?_
  intro p_ e_ s_ m_ below_ meth_ c_ C
  have hv : s_X7_in d (0 : Int64) (((nI n) - (1 : Int32)).toInt64) = V := hv
  refine r_lln C dX7_isDeed_0 rfl 1 rfl ?_
  refine r_lc C (v := (0 : Int64)) dX7_isDeed_1 (by decide) ?_
  refine r_aln C dX7_isDeed_2 rfl 0 rfl ?_
  refine gf_X7_84 C 0 rfl rfl dX7_isDeed_3 ?_
  refine r_ic C (v := (1 : Int32)) dX7_isDeed_6 (by decide) ?_
  refine r_isub C dX7_isDeed_7 ?_
  refine r_i2l C dX7_isDeed_8 ?_
  refine aft_rd (st' := [.int (s_X7_in d (0 : Int64) (((nI n) - (1 : Int32)).toInt64))]) (run_S (rest := []) C (c_X7_in l D d (0 : Int64) (((nI n) - (1 : Int32)).toInt64) ) ok_X7_in ws_X7_in wm_X7_87 [] rfl ⟨Nat.le_of_ble_eq_true rfl, Nat.le_of_ble_eq_true rfl⟩ rfl rfl (Nat.le_of_ble_eq_true rfl) dX7_isDeed_9) rfl ?_
  exact r_zret rfl C (zb_X7_in _ _ _ ) (congrArg (fun z => some (Value.int z)) hv) rfl dX7_isDeed_12

theorem zb_X7_isDeed (n : Nat) (d : Int64) : narrow .boolean (.int (s_X7_isDeed n d)) = .int (s_X7_isDeed n d) := zb_X7_in _ _ _ 
def s_X7_isOne (pe : Nat) (p : Int32) : Int32 := s_X7_in p.toInt64 (0 : Int64) (((nI pe) - (1 : Int32)).toInt64)
set_option maxHeartbeats 8000000 in
set_option maxRecDepth 100000 in
theorem c_X7_isOne (l : Launch) (D : va_G) (o : Nat) (q1 : Nat) (q2 : Nat) (q3 : Nat) (q4 : Nat) (q5 : Nat) (q6 : Nat) (q7 : Nat) (q8 : Nat) (q9 : Nat) (q10 : Nat) (q11 : Nat) (q12 : Nat) (q13 : Nat) (q14 : Nat) (q15 : Nat) (q16 : Nat) (q17 : Nat) (q18 : Nat) (q19 : Nat) (q20 : Nat) (q21 : Nat) (q22 : Nat) (pe : Nat) (n : Nat) (la : Int32) (ri : Int32) (td : Int32) (ys : Int32) (ty : Nat) (ap : Nat) (wg : Int32) (rd : Nat) (sm : Int32) (bt : Int32) (up : Int64) (lw : Int64) (ii : Int32) (kd : Nat → Int32) (dy : Nat → Int32) (nd : Nat → Int32) (co : Nat → Int32) (od : Nat → Int32) (wo : Nat → Int32) (tp : Nat → Int32) (rk : Nat → Int32) (ry : Nat → Int32) (rn : Nat → Int32) (vs : Nat → Int32) (bs : Nat → Int32) (ch : Nat → Int32) (tr : Nat → Int32) (en : Nat → Int32) (du : Nat → Int32) (ol : Nat → Int32) (ig : Nat → Int32) (ln : Nat → Int32) (sz : Nat → Int32) (it : Nat → Int64) (mo : Nat → Int64) (p : Int32) : ct l yX7_isOne cX7_isOne 2 (some .boolean) 1 25 D [.ref o, .int p] (wM D o q1 q2 q3 q4 q5 q6 q7 q8 q9 q10 q11 q12 q13 q14 q15 q16 q17 q18 q19 q20 q21 q22 pe n la ri td ys ty ap wg rd sm bt up lw ii kd dy nd co od wo tp rk ry rn vs bs ch tr en du ol ig ln sz it mo) (wM D o q1 q2 q3 q4 q5 q6 q7 q8 q9 q10 q11 q12 q13 q14 q15 q16 q17 q18 q19 q20 q21 q22 pe n la ri td ys ty ap wg rd sm bt up lw ii kd dy nd co od wo tp rk ry rn vs bs ch tr en du ol ig ln sz it mo) (fun _ => False) (some (Value.int (s_X7_isOne pe p))) := by
  obtain ⟨V, hv⟩ : ∃ V, s_X7_isOne pe p = V := ⟨_, rfl⟩
  rw [hv]
  refine ct_intro (own := RX7) (lv := [(0, .ref o), (1, .int p)]) (by decide) rfl (Nat.le_of_ble_eq_true rfl) rfl ?_
  intro p_ e_ s_ m_ below_ meth_ c_ C
  have hv : s_X7_in p.toInt64 (0 : Int64) (((nI pe) - (1 : Int32)).toInt64) = V := hv
  refine r_iln C dX7_isOne_0 rfl 1 rfl ?_
  refine r_i2l C dX7_isOne_1 ?_
  refine r_lc C (v := (0 : Int64)) dX7_isOne_2 (by decide) ?_
  refine r_aln C dX7_isOne_3 rfl 0 rfl ?_
  refine gf_X7_77 C 0 rfl rfl dX7_isOne_4 ?_
  refine r_ic C (v := (1 : Int32)) dX7_isOne_7 (by decide) ?_
  refine r_isub C dX7_isOne_8 ?_
  refine r_i2l C dX7_isOne_9 ?_
  refine aft_rd (st' := [.int (s_X7_in p.toInt64 (0 : Int64) (((nI pe) - (1 : Int32)).toInt64))]) (run_S (rest := []) C (c_X7_in l D p.toInt64 (0 : Int64) (((nI pe) - (1 : Int32)).toInt64) ) ok_X7_in ws_X7_in wm_X7_87 [] rfl ⟨Nat.le_of_ble_eq_true rfl, Nat.le_of_ble_eq_true rfl⟩ rfl rfl (Nat.le_of_ble_eq_true rfl) dX7_isOne_10) rfl ?_
  exact r_zret rfl C (zb_X7_in _ _ _ ) (congrArg (fun z => some (Value.int z)) hv) rfl dX7_isOne_13

theorem zb_X7_isOne (pe : Nat) (p : Int32) : narrow .boolean (.int (s_X7_isOne pe p)) = .int (s_X7_isOne pe p) := zb_X7_in _ _ _ 
def s_X7_areDeeds (n : Nat) (set : Int64) : Int32 := s_X7_in set (0 : Int64) ((((1 : Int32) <<< ((nI n) &&& 31)) - (1 : Int32)).toInt64)
set_option maxHeartbeats 8000000 in
set_option maxRecDepth 100000 in
theorem c_X7_areDeeds (l : Launch) (D : va_G) (o : Nat) (q1 : Nat) (q2 : Nat) (q3 : Nat) (q4 : Nat) (q5 : Nat) (q6 : Nat) (q7 : Nat) (q8 : Nat) (q9 : Nat) (q10 : Nat) (q11 : Nat) (q12 : Nat) (q13 : Nat) (q14 : Nat) (q15 : Nat) (q16 : Nat) (q17 : Nat) (q18 : Nat) (q19 : Nat) (q20 : Nat) (q21 : Nat) (q22 : Nat) (pe : Nat) (n : Nat) (la : Int32) (ri : Int32) (td : Int32) (ys : Int32) (ty : Nat) (ap : Nat) (wg : Int32) (rd : Nat) (sm : Int32) (bt : Int32) (up : Int64) (lw : Int64) (ii : Int32) (kd : Nat → Int32) (dy : Nat → Int32) (nd : Nat → Int32) (co : Nat → Int32) (od : Nat → Int32) (wo : Nat → Int32) (tp : Nat → Int32) (rk : Nat → Int32) (ry : Nat → Int32) (rn : Nat → Int32) (vs : Nat → Int32) (bs : Nat → Int32) (ch : Nat → Int32) (tr : Nat → Int32) (en : Nat → Int32) (du : Nat → Int32) (ol : Nat → Int32) (ig : Nat → Int32) (ln : Nat → Int32) (sz : Nat → Int32) (it : Nat → Int64) (mo : Nat → Int64) (set : Int64) (hn : n ≤ 12) : ct l yX7_areDeeds cX7_areDeeds 3 (some .boolean) 1 25 D [.ref o, .long set] (wM D o q1 q2 q3 q4 q5 q6 q7 q8 q9 q10 q11 q12 q13 q14 q15 q16 q17 q18 q19 q20 q21 q22 pe n la ri td ys ty ap wg rd sm bt up lw ii kd dy nd co od wo tp rk ry rn vs bs ch tr en du ol ig ln sz it mo) (wM D o q1 q2 q3 q4 q5 q6 q7 q8 q9 q10 q11 q12 q13 q14 q15 q16 q17 q18 q19 q20 q21 q22 pe n la ri td ys ty ap wg rd sm bt up lw ii kd dy nd co od wo tp rk ry rn vs bs ch tr en du ol ig ln sz it mo) (fun _ => False) (some (Value.int (s_X7_areDeeds n set))) := by
  obtain ⟨V, hv⟩ : ∃ V, s_X7_areDeeds n set = V := ⟨_, rfl⟩
  rw [hv]
  refine ct_intro (own := RX7) (lv := [(0, .ref o), (1, .long set)]) (by decide) rfl (Nat.le_of_ble_eq_true rfl) rfl ?_
  intro p_ e_ s_ m_ below_ meth_ c_ C
  have hv : s_X7_in set (0 : Int64) ((((1 : Int32) <<< ((nI n) &&& 31)) - (1 : Int32)).toInt64) = V := hv
  refine r_lln C dX7_areDeeds_0 rfl 1 rfl ?_
  refine r_lc C (v := (0 : Int64)) dX7_areDeeds_1 (by decide) ?_
  refine r_ic C (v := (1 : Int32)) dX7_areDeeds_2 (by decide) ?_
  refine r_aln C dX7_areDeeds_3 rfl 0 rfl ?_
  refine gf_X7_84 C 0 rfl rfl dX7_areDeeds_4 ?_
  refine r_ishl C dX7_areDeeds_7 ?_
  refine r_ic C (v := (1 : Int32)) dX7_areDeeds_8 (by decide) ?_
  refine r_isub C dX7_areDeeds_9 ?_
  refine r_i2l C dX7_areDeeds_10 ?_
  refine aft_rd (st' := [.int (s_X7_in set (0 : Int64) ((((1 : Int32) <<< ((nI n) &&& 31)) - (1 : Int32)).toInt64))]) (run_S (rest := []) C (c_X7_in l D set (0 : Int64) ((((1 : Int32) <<< ((nI n) &&& 31)) - (1 : Int32)).toInt64) ) ok_X7_in ws_X7_in wm_X7_87 [] rfl ⟨Nat.le_of_ble_eq_true rfl, Nat.le_of_ble_eq_true rfl⟩ rfl rfl (Nat.le_of_ble_eq_true rfl) dX7_areDeeds_11) rfl ?_
  exact r_zret rfl C (zb_X7_in _ _ _ ) (congrArg (fun z => some (Value.int z)) hv) rfl dX7_areDeeds_14

theorem zb_X7_areDeeds (n : Nat) (set : Int64) : narrow .boolean (.int (s_X7_areDeeds n set)) = .int (s_X7_areDeeds n set) := zb_X7_in _ _ _ 
def s_X7_isSheet (s : Int32) : Int32 := s_X7_in s.toInt64 (0 : Int64) (3 : Int64)
set_option maxHeartbeats 8000000 in
set_option maxRecDepth 100000 in
theorem c_X7_isSheet (l : Launch) (D : va_G) (s : Int32) : ct l yX7_isSheet cX7_isSheet 1 (some .boolean) 1 25 D [.int s] (([] : va_W)) (([] : va_W)) (fun _ => False) (some (Value.int (s_X7_isSheet s))) := by
  obtain ⟨V, hv⟩ : ∃ V, s_X7_isSheet s = V := ⟨_, rfl⟩
  rw [hv]
  refine ct_intro (own := RX7) (lv := [(0, .int s)]) (by decide) rfl (Nat.le_of_ble_eq_true rfl) rfl ?_
  intro p_ e_ s_ m_ below_ meth_ c_ C
  have hv : s_X7_in s.toInt64 (0 : Int64) (3 : Int64) = V := hv
  refine r_iln C dX7_isSheet_0 rfl 0 rfl ?_
  refine r_i2l C dX7_isSheet_1 ?_
  refine r_lc C (v := (0 : Int64)) dX7_isSheet_2 (by decide) ?_
  refine r_ldc2 C wc_X7_93 dX7_isSheet_3 ?_
  refine aft_rd (st' := [.int (s_X7_in s.toInt64 (0 : Int64) (3 : Int64))]) (run_S (rest := []) C (c_X7_in l D s.toInt64 (0 : Int64) (3 : Int64) ) ok_X7_in ws_X7_in wm_X7_87 [] rfl ⟨Nat.le_of_ble_eq_true rfl, Nat.le_of_ble_eq_true rfl⟩ rfl rfl (Nat.le_of_ble_eq_true rfl) dX7_isSheet_6) rfl ?_
  exact r_zret rfl C (zb_X7_in _ _ _ ) (congrArg (fun z => some (Value.int z)) hv) rfl dX7_isSheet_9

theorem zb_X7_isSheet (s : Int32) : narrow .boolean (.int (s_X7_isSheet s)) = .int (s_X7_isSheet s) := zb_X7_in _ _ _ 
def s_X7_isLane (lane : Int32) : Int32 := s_X7_in lane.toInt64 (0 : Int64) (3 : Int64)
set_option maxHeartbeats 8000000 in
set_option maxRecDepth 100000 in
theorem c_X7_isLane (l : Launch) (D : va_G) (lane : Int32) : ct l yX7_isLane cX7_isLane 1 (some .boolean) 1 25 D [.int lane] (([] : va_W)) (([] : va_W)) (fun _ => False) (some (Value.int (s_X7_isLane lane))) := by
  obtain ⟨V, hv⟩ : ∃ V, s_X7_isLane lane = V := ⟨_, rfl⟩
  rw [hv]
  refine ct_intro (own := RX7) (lv := [(0, .int lane)]) (by decide) rfl (Nat.le_of_ble_eq_true rfl) rfl ?_
  intro p_ e_ s_ m_ below_ meth_ c_ C
  have hv : s_X7_in lane.toInt64 (0 : Int64) (3 : Int64) = V := hv
  refine r_iln C dX7_isLane_0 rfl 0 rfl ?_
  refine r_i2l C dX7_isLane_1 ?_
  refine r_lc C (v := (0 : Int64)) dX7_isLane_2 (by decide) ?_
  refine r_ldc2 C wc_X7_93 dX7_isLane_3 ?_
  refine aft_rd (st' := [.int (s_X7_in lane.toInt64 (0 : Int64) (3 : Int64))]) (run_S (rest := []) C (c_X7_in l D lane.toInt64 (0 : Int64) (3 : Int64) ) ok_X7_in ws_X7_in wm_X7_87 [] rfl ⟨Nat.le_of_ble_eq_true rfl, Nat.le_of_ble_eq_true rfl⟩ rfl rfl (Nat.le_of_ble_eq_true rfl) dX7_isLane_6) rfl ?_
  exact r_zret rfl C (zb_X7_in _ _ _ ) (congrArg (fun z => some (Value.int z)) hv) rfl dX7_isLane_9

theorem zb_X7_isLane (lane : Int32) : narrow .boolean (.int (s_X7_isLane lane)) = .int (s_X7_isLane lane) := zb_X7_in _ _ _ 
theorem lcmp_lt (x y : Int64) : lg_cmp x y < 0 ↔ x < y := by
  unfold lg_cmp
  by_cases h : x > y
  · rw [if_pos h]; exact ⟨fun z => absurd z (by decide), fun z => absurd (Int64.lt_trans z h) (Int64.lt_irrefl)⟩
  · rw [if_neg h]
    by_cases h2 : x = y
    · rw [if_pos h2]; exact ⟨fun z => absurd z (by decide), fun z => absurd (h2 ▸ z) (Int64.lt_irrefl)⟩
    · rw [if_neg h2]; exact ⟨fun _ => (Int64.lt_or_eq_of_le (Int64.not_lt.mp h)).elim id (fun z => absurd z h2), fun _ => by decide⟩
theorem lcmp_gt (x y : Int64) : 0 < lg_cmp x y ↔ y < x := by
  unfold lg_cmp
  by_cases h : x > y
  · rw [if_pos h]; exact ⟨fun _ => h, fun _ => by decide⟩
  · rw [if_neg h]
    by_cases h2 : x = y
    · rw [if_pos h2]; exact ⟨fun z => absurd z (by decide), fun z => absurd z h⟩
    · rw [if_neg h2]; exact ⟨fun z => absurd z (by decide), fun z => absurd z h⟩
theorem mIn_iff (v lo hi : Int64) : ¬ s_X7_in v lo hi = 0 ↔ lo ≤ v ∧ v ≤ hi := by
  unfold s_X7_in
  by_cases h1 : lg_cmp v lo < (0 : Int32)
  · rw [if_pos h1]; exact ⟨fun z => absurd rfl z, fun z => absurd ((lcmp_lt v lo).mp h1) (Int64.not_lt.mpr z.1)⟩
  · rw [if_neg h1]
    have h1' := Int64.not_lt.mp (fun z => h1 ((lcmp_lt v lo).mpr z))
    by_cases h2 : (0 : Int32) < lg_cmp v hi
    · rw [if_pos h2]; exact ⟨fun z => absurd rfl z, fun z => absurd ((lcmp_gt v hi).mp h2) (Int64.not_lt.mpr z.2)⟩
    · rw [if_neg h2]; exact ⟨fun _ => ⟨h1', Int64.not_lt.mp (fun z => h2 ((lcmp_gt v hi).mpr z))⟩, fun _ => by decide⟩
theorem mIn_nat {x : Int32} {lo hi : Int64} {a b : Nat} (hb : b < 2 ^ 31) (hlo : lo.toInt = a) (hhi : hi.toInt = b) (h : ¬ s_X7_in x.toInt64 lo hi = 0) : x = nI x.toNatClampNeg ∧ a ≤ x.toNatClampNeg ∧ x.toNatClampNeg ≤ b := by
  obtain ⟨h1, h2⟩ := (mIn_iff _ _ _).mp h
  rw [Int64.le_iff_toInt_le, Int32.toInt_toInt64] at h1 h2
  have h0 : ¬ x < 0 := fun z => by
    have z2 := Int32.lt_iff_toInt_lt.mp z
    have e0 : (0 : Int32).toInt = 0 := by decide
    omega
  obtain ⟨j, hj, rfl⟩ := nI_of h0
  rw [nI_toInt hj] at h1 h2
  rw [nI_clamp hj]
  exact ⟨rfl, by omega, by omega⟩
theorem i64_nI {n : Nat} (h : n < 2 ^ 31) : (nI n).toInt64.toInt = n := by rw [Int32.toInt_toInt64, nI_toInt h]
theorem mdeed_nat {n : Nat} {x : Int32} (hn : n ≤ 12) (h : ¬ s_X7_isDeed n x.toInt64 = 0) : x = nI x.toNatClampNeg ∧ x.toNatClampNeg < n := by
  cases n with
  | zero =>
    obtain ⟨h1, h2⟩ := (mIn_iff _ _ _).mp h
    have h3 := Int64.le_trans h1 h2
    exact absurd h3 (by decide)
  | succ k =>
    have e : (nI (k + 1)) - (1 : Int32) = nI k := dm_pred k
    unfold s_X7_isDeed at h
    rw [e] at h
    have r := mIn_nat (a := 0) (b := k) (by omega) (by decide) (i64_nI (by omega)) h
    exact ⟨r.1, by omega⟩
theorem mone_nat {pe : Nat} {x : Int32} (hp : 1 ≤ pe ∧ pe ≤ 4) (h : ¬ s_X7_isOne pe x = 0) : x = nI x.toNatClampNeg ∧ x.toNatClampNeg < pe := by
  cases pe with
  | zero => exact absurd hp.1 (by decide)
  | succ k =>
    have e : (nI (k + 1)) - (1 : Int32) = nI k := dm_pred k
    unfold s_X7_isOne at h
    rw [e] at h
    have r := mIn_nat (a := 0) (b := k) (by omega) (by decide) (i64_nI (by omega)) h
    exact ⟨r.1, by omega⟩
theorem m14_nat {x : Int32} (h : ¬ s_X7_in x.toInt64 1 4 = 0) : x = nI x.toNatClampNeg ∧ 1 ≤ x.toNatClampNeg ∧ x.toNatClampNeg ≤ 4 := mIn_nat (a := 1) (b := 4) (by omega) (by decide) (by decide) h
theorem m03_nat {x : Int32} (h : ¬ s_X7_in x.toInt64 0 3 = 0) : x = nI x.toNatClampNeg ∧ x.toNatClampNeg < 4 := by
  have r := mIn_nat (a := 0) (b := 3) (by omega) (by decide) (by decide) h
  exact ⟨r.1, by omega⟩
theorem m18_nat {x : Int32} (h : ¬ s_X7_in x.toInt64 1 8 = 0) : x = nI x.toNatClampNeg ∧ 1 ≤ x.toNatClampNeg ∧ x.toNatClampNeg ≤ 8 := mIn_nat (a := 1) (b := 8) (by omega) (by decide) (by decide) h
theorem mSheet_nat {x : Int32} (h : ¬ s_X7_isSheet x = 0) : x = nI x.toNatClampNeg ∧ x.toNatClampNeg < 4 := m03_nat h
theorem pw_le {n : Nat} (hn : n ≤ 12) : 2 ^ n ≤ 4096 ∧ 1 ≤ 2 ^ n := by
  have h2 : 2 ^ n ≤ 2 ^ 12 := Nat.pow_le_pow_right (by decide) hn
  have h3 : (2 : Nat) ^ 12 = 4096 := by decide
  exact ⟨by omega, Nat.one_le_two_pow⟩
theorem pos_ne {x : Int32} (h : (0 : Int32) < x) : ¬ x = 0 := fun z => absurd (z ▸ h) (by decide)
theorem and_pred {l : Nat} (h0 : ¬ l = 0) (h : l < 2 ^ 31) : nI l &&& (nI l - (1 : Int32)) = nI (l &&& (l - 1)) := by
  obtain ⟨j, rfl⟩ : ∃ j, l = j + 1 := ⟨l - 1, by omega⟩
  rw [dm_pred, and_nI]
  rfl
def s_X7_people (pe : Nat) (m : Int32) : Int32 × Nat := (if s_X7_in m.toInt64 (1 : Int64) (4 : Int64) = (0 : Int32) then ((-1 : Int32), pe) else (nI pe, m.toNatClampNeg))
set_option maxHeartbeats 8000000 in
set_option maxRecDepth 100000 in
theorem c_X7_people (l : Launch) (D : va_G) (o : Nat) (q1 : Nat) (q2 : Nat) (q3 : Nat) (q4 : Nat) (q5 : Nat) (q6 : Nat) (q7 : Nat) (q8 : Nat) (q9 : Nat) (q10 : Nat) (q11 : Nat) (q12 : Nat) (q13 : Nat) (q14 : Nat) (q15 : Nat) (q16 : Nat) (q17 : Nat) (q18 : Nat) (q19 : Nat) (q20 : Nat) (q21 : Nat) (q22 : Nat) (pe : Nat) (n : Nat) (la : Int32) (ri : Int32) (td : Int32) (ys : Int32) (ty : Nat) (ap : Nat) (wg : Int32) (rd : Nat) (sm : Int32) (bt : Int32) (up : Int64) (lw : Int64) (ii : Int32) (kd : Nat → Int32) (dy : Nat → Int32) (nd : Nat → Int32) (co : Nat → Int32) (od : Nat → Int32) (wo : Nat → Int32) (tp : Nat → Int32) (rk : Nat → Int32) (ry : Nat → Int32) (rn : Nat → Int32) (vs : Nat → Int32) (bs : Nat → Int32) (ch : Nat → Int32) (tr : Nat → Int32) (en : Nat → Int32) (du : Nat → Int32) (ol : Nat → Int32) (ig : Nat → Int32) (ln : Nat → Int32) (sz : Nat → Int32) (it : Nat → Int64) (mo : Nat → Int64) (m : Int32) (h0 : va_D (fun _ => True) (wM D o q1 q2 q3 q4 q5 q6 q7 q8 q9 q10 q11 q12 q13 q14 q15 q16 q17 q18 q19 q20 q21 q22 pe n la ri td ys ty ap wg rd sm bt up lw ii kd dy nd co od wo tp rk ry rn vs bs ch tr en du ol ig ln sz it mo)) : ct l yX7_people cX7_people 3 (some .int) 1 25 D [.ref o, .int m] (wM D o q1 q2 q3 q4 q5 q6 q7 q8 q9 q10 q11 q12 q13 q14 q15 q16 q17 q18 q19 q20 q21 q22 pe n la ri td ys ty ap wg rd sm bt up lw ii kd dy nd co od wo tp rk ry rn vs bs ch tr en du ol ig ln sz it mo) (wM D o q1 q2 q3 q4 q5 q6 q7 q8 q9 q10 q11 q12 q13 q14 q15 q16 q17 q18 q19 q20 q21 q22 (s_X7_people pe m).2 n la ri td ys ty ap wg rd sm bt up lw ii kd dy nd co od wo tp rk ry rn vs bs ch tr en du ol ig ln sz it mo) (Ad (wM D o q1 q2 q3 q4 q5 q6 q7 q8 q9 q10 q11 q12 q13 q14 q15 q16 q17 q18 q19 q20 q21 q22 pe n la ri td ys ty ap wg rd sm bt up lw ii kd dy nd co od wo tp rk ry rn vs bs ch tr en du ol ig ln sz it mo)) (some (Value.int (s_X7_people pe m).1)) := by
  obtain ⟨V, hv⟩ : ∃ V, s_X7_people pe m = V := ⟨_, rfl⟩
  rw [hv]
  refine ct_intro (own := RX7) (lv := [(0, .ref o), (1, .int m)]) (by decide) rfl (Nat.le_of_ble_eq_true rfl) rfl ?_
  intro p_ e_ s_ m_ below_ meth_ c_ C
  have hv : (if s_X7_in m.toInt64 (1 : Int64) (4 : Int64) = (0 : Int32) then ((-1 : Int32), pe) else (nI pe, m.toNatClampNeg)) = V := hv
  refine r_iln C dX7_people_0 rfl 1 rfl ?_
  refine r_i2l C dX7_people_1 ?_
  refine r_lc C (v := (1 : Int64)) dX7_people_2 (by decide) ?_
  refine r_ldc2 C wc_X7_91 dX7_people_3 ?_
  refine aft_rd (st' := [.int (s_X7_in m.toInt64 (1 : Int64) (4 : Int64))]) (run_S (rest := []) C (c_X7_in l D m.toInt64 (1 : Int64) (4 : Int64) ) ok_X7_in ws_X7_in wm_X7_87 [] rfl ⟨Nat.le_of_ble_eq_true rfl, Nat.le_of_ble_eq_true rfl⟩ rfl rfl (Nat.le_of_ble_eq_true rfl) dX7_people_6) rfl ?_
  refine r_ifne C (tgt := 14) dX7_people_9 (by decide) (fun c1 => ?_) (fun c1 => ?_)
  · rw [if_neg c1] at hv
    have e2 := m14_nat c1
    refine r_aln C dX7_people_14 rfl 0 rfl ?_
    refine gf_X7_77 C 0 rfl rfl dX7_people_15 ?_
    refine r_isn C (lv' := [(2, .int (nI pe)), (0, .ref o), (1, .int m)]) dX7_people_18 rfl (by decide) rfl ?_
    refine r_aln C dX7_people_19 rfl 1 rfl ?_
    refine r_iln C dX7_people_20 rfl 2 rfl ?_
    refine r_top e2.1 ?_
    refine pf_X7_77 C (ws2 := wM D o q1 q2 q3 q4 q5 q6 q7 q8 q9 q10 q11 q12 q13 q14 q15 q16 q17 q18 q19 q20 q21 q22 m.toNatClampNeg n la ri td ys ty ap wg rd sm bt up lw ii kd dy nd co od wo tp rk ry rn vs bs ch tr en du ol ig ln sz it mo) h0 rfl 0 rfl (Nat.le_of_ble_eq_true rfl) dX7_people_21 rfl rfl ?_
    refine r_iln C dX7_people_24 rfl 0 rfl ?_
    exact r_iret rfl C (by rw [← hv]) (by rw [← hv]) dX7_people_25
  · rw [if_pos c1] at hv
    refine r_ic C (v := (-1 : Int32)) dX7_people_12 (by decide) ?_
    exact r_iret rfl C (by rw [← hv]) (by rw [← hv]) dX7_people_13

