abbrev wMn12 (D : va_G) (o q1 q2 q3 q4 q5 q6 q7 q8 q9 q10 q11 q12 q13 q14 q15 q16 q17 q18 q19 q20 q21 q22 fa : Nat) (pe : Nat) (n : Nat) (la : Int32) (ri : Int32) (td : Int32) (ys : Int32) (ty : Nat) (ap : Nat) (wg : Int32) (rd : Nat) (sm : Int32) (bt : Int32) (up : Int64) (lw : Int64) (ii : Int32) (ig : Nat → Int32) (ff : Nat → Int32) : va_W := [(o, .inr (4, [.int (nI pe), .int (nI n), .ref q1, .ref q2, .ref q3, .ref q4, .ref q5, .ref q6, .int la, .int ri, .int td, .int ys, .ref q7, .int (nI ty), .int (nI ap), .int wg, .int (nI rd), .ref q8, .ref q9, .ref q10, .ref q11, .int sm, .ref q12, .int bt, .ref q13, .ref q14, .ref q15, .ref q16, .long up, .long lw, .ref q17, .ref q18, .int ii, .ref q19, .ref q20, .ref q21, .ref q22])), (q18, .inl (D.1 10, 114, .inl ig)), (fa, .inl (D.1 10, 12, .inl ff))]
abbrev wMn48 (D : va_G) (o q1 q2 q3 q4 q5 q6 q7 q8 q9 q10 q11 q12 q13 q14 q15 q16 q17 q18 q19 q20 q21 q22 fa : Nat) (pe : Nat) (n : Nat) (la : Int32) (ri : Int32) (td : Int32) (ys : Int32) (ty : Nat) (ap : Nat) (wg : Int32) (rd : Nat) (sm : Int32) (bt : Int32) (up : Int64) (lw : Int64) (ii : Int32) (ig : Nat → Int32) (ff : Nat → Int32) : va_W := [(o, .inr (4, [.int (nI pe), .int (nI n), .ref q1, .ref q2, .ref q3, .ref q4, .ref q5, .ref q6, .int la, .int ri, .int td, .int ys, .ref q7, .int (nI ty), .int (nI ap), .int wg, .int (nI rd), .ref q8, .ref q9, .ref q10, .ref q11, .int sm, .ref q12, .int bt, .ref q13, .ref q14, .ref q15, .ref q16, .long up, .long lw, .ref q17, .ref q18, .int ii, .ref q19, .ref q20, .ref q21, .ref q22])), (q18, .inl (D.1 10, 114, .inl ig)), (fa, .inl (D.1 10, 48, .inl ff))]
theorem isSet_or0 {n : Nat} {x : Int32} (h : isSet n x) : isSet n (x ||| (0 : Int32)) := by
  obtain ⟨j, rfl, hj⟩ := h
  exact ⟨j ||| 0, (or_nI j 0), Nat.or_lt_two_pow hj (Nat.two_pow_pos n)⟩
theorem isSetM_st {n : Nat} (hn : n ≤ 12) (kd nd : Nat → Int32) (right old : Int32) : ∀ (k d : Nat) (a : Int32), d + k = n → isSet n a → isSet n (s_X7_stands_L5 kd nd right old k d a) := by
  intro k
  induction k with
  | zero => intro d a _ h; exact h
  | succ k ih =>
    intro d a hk h
    unfold s_X7_stands_L5
    split
    · split
      · exact ih (d + 1) _ (by omega) (isSet_or0 h)
      · exact ih (d + 1) _ (by omega) (isSet_or hn (by omega) h)
    · exact ih (d + 1) _ (by omega) (isSet_or0 h)
theorem isSetM {n : Nat} (hn : n ≤ 12) (kd nd : Nat → Int32) (right old : Int32) : isSet n (s_X7_stands n kd nd right old) := isSetM_st hn kd nd right old n 0 0 (by omega) (isSet_0 n)
theorem isSetA_st {n : Nat} (hn : n ≤ 12) (f : Nat → Int32) (day : Int32) : ∀ (k d : Nat) (a : Int32), d + k ≤ n → isSet n a → isSet n (s_X7_ahead_L5 f day k d a) := by
  intro k
  induction k with
  | zero => intro d a _ h; exact h
  | succ k ih =>
    intro d a hk h
    unfold s_X7_ahead_L5
    split
    · exact ih (d + 1) _ (by omega) (isSet_or0 h)
    · exact ih (d + 1) _ (by omega) (isSet_or hn (by omega) h)
def s_X7_year (n : Nat) (la : Int32) (ri : Int32) (td : Int32) (ys : Int32) (kd : Nat → Int32) (nd : Nat → Int32) : Int32 × Int32 × Int32 × Int32 × Int32 := (if ys = (9999 : Int32) then ((-3 : Int32), la, ri, td, ys) else (s_X7_size ((s_X7_stands n kd nd (0 : Int32) (s_X7_stands n kd nd ri la)).toNatClampNeg), s_X7_stands n kd nd ri la, (0 : Int32), (11 : Int32), ys + (1 : Int32)))
set_option maxHeartbeats 8000000 in
set_option maxRecDepth 100000 in
theorem c_X7_year (l : Launch) (D : va_G) (o : Nat) (q1 : Nat) (q2 : Nat) (q3 : Nat) (q4 : Nat) (q5 : Nat) (q6 : Nat) (q7 : Nat) (q8 : Nat) (q9 : Nat) (q10 : Nat) (q11 : Nat) (q12 : Nat) (q13 : Nat) (q14 : Nat) (q15 : Nat) (q16 : Nat) (q17 : Nat) (q18 : Nat) (q19 : Nat) (q20 : Nat) (q21 : Nat) (q22 : Nat) (pe : Nat) (n : Nat) (la : Int32) (ri : Int32) (td : Int32) (ys : Int32) (ty : Nat) (ap : Nat) (wg : Int32) (rd : Nat) (sm : Int32) (bt : Int32) (up : Int64) (lw : Int64) (ii : Int32) (kd : Nat → Int32) (dy : Nat → Int32) (nd : Nat → Int32) (co : Nat → Int32) (od : Nat → Int32) (wo : Nat → Int32) (tp : Nat → Int32) (rk : Nat → Int32) (ry : Nat → Int32) (rn : Nat → Int32) (vs : Nat → Int32) (bs : Nat → Int32) (ch : Nat → Int32) (tr : Nat → Int32) (en : Nat → Int32) (du : Nat → Int32) (ol : Nat → Int32) (ig : Nat → Int32) (ln : Nat → Int32) (sz : Nat → Int32) (it : Nat → Int64) (mo : Nat → Int64) (hn : n ≤ 12) (h0 : va_D (fun _ => True) (wM D o q1 q2 q3 q4 q5 q6 q7 q8 q9 q10 q11 q12 q13 q14 q15 q16 q17 q18 q19 q20 q21 q22 pe n la ri td ys ty ap wg rd sm bt up lw ii kd dy nd co od wo tp rk ry rn vs bs ch tr en du ol ig ln sz it mo)) : ct l yX7_year cX7_year 1 (some .int) 2 48 D [.ref o] (wM D o q1 q2 q3 q4 q5 q6 q7 q8 q9 q10 q11 q12 q13 q14 q15 q16 q17 q18 q19 q20 q21 q22 pe n la ri td ys ty ap wg rd sm bt up lw ii kd dy nd co od wo tp rk ry rn vs bs ch tr en du ol ig ln sz it mo) (wM D o q1 q2 q3 q4 q5 q6 q7 q8 q9 q10 q11 q12 q13 q14 q15 q16 q17 q18 q19 q20 q21 q22 pe n (s_X7_year n la ri td ys kd nd).2.1 (s_X7_year n la ri td ys kd nd).2.2.1 (s_X7_year n la ri td ys kd nd).2.2.2.1 (s_X7_year n la ri td ys kd nd).2.2.2.2 ty ap wg rd sm bt up lw ii kd dy nd co od wo tp rk ry rn vs bs ch tr en du ol ig ln sz it mo) (Ad (wM D o q1 q2 q3 q4 q5 q6 q7 q8 q9 q10 q11 q12 q13 q14 q15 q16 q17 q18 q19 q20 q21 q22 pe n la ri td ys ty ap wg rd sm bt up lw ii kd dy nd co od wo tp rk ry rn vs bs ch tr en du ol ig ln sz it mo)) (some (Value.int (s_X7_year n la ri td ys kd nd).1)) := by
  obtain ⟨V, hv⟩ : ∃ V, s_X7_year n la ri td ys kd nd = V := ⟨_, rfl⟩
  rw [hv]
  refine ct_intro (own := RX7) (lv := [(0, .ref o)]) (by decide) rfl (Nat.le_of_ble_eq_true rfl) rfl ?_
  intro p_ e_ s_ m_ below_ meth_ c_ C
  have hv : (if ys = (9999 : Int32) then ((-3 : Int32), la, ri, td, ys) else (s_X7_size ((s_X7_stands n kd nd (0 : Int32) (s_X7_stands n kd nd ri la)).toNatClampNeg), s_X7_stands n kd nd ri la, (0 : Int32), (11 : Int32), ys + (1 : Int32))) = V := hv
  refine r_aln C dX7_year_0 rfl 0 rfl ?_
  refine gf_X7_131 C 0 rfl rfl dX7_year_1 ?_
  refine r_sp C (v := (9999 : Int32)) dX7_year_4 (by decide) ?_
  refine r_icne C (tgt := 13) dX7_year_7 (by decide) (fun c1 => ?_) (fun c1 => ?_)
  · rw [if_neg c1] at hv
    refine r_aln C dX7_year_13 rfl 0 rfl ?_
    refine r_aln C dX7_year_14 rfl 0 rfl ?_
    refine r_aln C dX7_year_15 rfl 0 rfl ?_
    refine gf_X7_113 C 0 rfl rfl dX7_year_16 ?_
    refine r_aln C dX7_year_19 rfl 0 rfl ?_
    refine gf_X7_116 C 0 rfl rfl dX7_year_20 ?_
    refine aft_rd (st' := [.int (s_X7_stands n kd nd ri la), .ref o]) (run_V (rest := [.ref o]) C (c_X7_stands l D o q1 q2 q3 q4 q5 q6 q7 q8 q9 q10 q11 q12 q13 q14 q15 q16 q17 q18 q19 q20 q21 q22 pe n la ri td ys ty ap wg rd sm bt up lw ii kd dy nd co od wo tp rk ry rn vs bs ch tr en du ol ig ln sz it mo ri la (by omega)) ok_X7_stands wn_X7_stands wl_X7_stands wm_X7_119 _ 0 rfl rfl rfl ⟨Nat.le_of_ble_eq_true rfl, Nat.le_of_ble_eq_true rfl⟩ fm_all rfl (Nat.le_of_ble_eq_true rfl) dX7_year_23) rfl ?_
    refine pf_X7_116 C (ws2 := wM D o q1 q2 q3 q4 q5 q6 q7 q8 q9 q10 q11 q12 q13 q14 q15 q16 q17 q18 q19 q20 q21 q22 pe n (s_X7_stands n kd nd ri la) ri td ys ty ap wg rd sm bt up lw ii kd dy nd co od wo tp rk ry rn vs bs ch tr en du ol ig ln sz it mo) h0 rfl 0 rfl (Nat.le_of_ble_eq_true rfl) dX7_year_26 rfl rfl ?_
    refine r_aln C dX7_year_29 rfl 0 rfl ?_
    refine r_ic C (v := (0 : Int32)) dX7_year_30 (by decide) ?_
    refine pf_X7_113 C (ws2 := wM D o q1 q2 q3 q4 q5 q6 q7 q8 q9 q10 q11 q12 q13 q14 q15 q16 q17 q18 q19 q20 q21 q22 pe n (s_X7_stands n kd nd ri la) (0 : Int32) td ys ty ap wg rd sm bt up lw ii kd dy nd co od wo tp rk ry rn vs bs ch tr en du ol ig ln sz it mo) h0 rfl 0 rfl (Nat.le_of_ble_eq_true rfl) dX7_year_31 rfl rfl ?_
    refine r_aln C dX7_year_34 rfl 0 rfl ?_
    refine r_bp C (v := (11 : Int32)) dX7_year_35 (by decide) ?_
    refine pf_X7_81 C (ws2 := wM D o q1 q2 q3 q4 q5 q6 q7 q8 q9 q10 q11 q12 q13 q14 q15 q16 q17 q18 q19 q20 q21 q22 pe n (s_X7_stands n kd nd ri la) (0 : Int32) (11 : Int32) ys ty ap wg rd sm bt up lw ii kd dy nd co od wo tp rk ry rn vs bs ch tr en du ol ig ln sz it mo) h0 rfl 0 rfl (Nat.le_of_ble_eq_true rfl) dX7_year_37 rfl rfl ?_
    refine r_aln C dX7_year_40 rfl 0 rfl ?_
    refine r_dup C dX7_year_41 rfl ?_
    refine gf_X7_131 C 0 rfl rfl dX7_year_42 ?_
    refine r_ic C (v := (1 : Int32)) dX7_year_45 (by decide) ?_
    refine r_iadd C dX7_year_46 ?_
    refine pf_X7_131 C (ws2 := wM D o q1 q2 q3 q4 q5 q6 q7 q8 q9 q10 q11 q12 q13 q14 q15 q16 q17 q18 q19 q20 q21 q22 pe n (s_X7_stands n kd nd ri la) (0 : Int32) (11 : Int32) (ys + (1 : Int32)) ty ap wg rd sm bt up lw ii kd dy nd co od wo tp rk ry rn vs bs ch tr en du ol ig ln sz it mo) h0 rfl 0 rfl (Nat.le_of_ble_eq_true rfl) dX7_year_47 rfl rfl ?_
    refine r_aln C dX7_year_50 rfl 0 rfl ?_
    refine r_ic C (v := (0 : Int32)) dX7_year_51 (by decide) ?_
    refine r_aln C dX7_year_52 rfl 0 rfl ?_
    refine gf_X7_116 C 0 rfl rfl dX7_year_53 ?_
    refine aft_rd (st' := [.int (s_X7_stands n kd nd (0 : Int32) (s_X7_stands n kd nd ri la))]) (run_V (rest := []) C (c_X7_stands l D o q1 q2 q3 q4 q5 q6 q7 q8 q9 q10 q11 q12 q13 q14 q15 q16 q17 q18 q19 q20 q21 q22 pe n (s_X7_stands n kd nd ri la) (0 : Int32) (11 : Int32) (ys + (1 : Int32)) ty ap wg rd sm bt up lw ii kd dy nd co od wo tp rk ry rn vs bs ch tr en du ol ig ln sz it mo (0 : Int32) (s_X7_stands n kd nd ri la) (by omega)) ok_X7_stands wn_X7_stands wl_X7_stands wm_X7_119 _ 0 rfl rfl rfl ⟨Nat.le_of_ble_eq_true rfl, Nat.le_of_ble_eq_true rfl⟩ fm_all rfl (Nat.le_of_ble_eq_true rfl) dX7_year_56) rfl ?_
    refine r_top (nn_nI (isSet_nn hn (isSetM hn _ _ _ _)).1) ?_
    have hb := (isSet_nn hn (isSetM hn kd nd (0 : Int32) (s_X7_stands n kd nd ri la))).2.2
    refine aft_rd (st' := [.int (s_X7_size ((s_X7_stands n kd nd (0 : Int32) (s_X7_stands n kd nd ri la)).toNatClampNeg))]) (run_S (rest := []) C (c_X7_size l D ((s_X7_stands n kd nd (0 : Int32) (s_X7_stands n kd nd ri la)).toNatClampNeg) (by omega)) ok_X7_size ws_X7_size wm_X7_167 [] rfl ⟨Nat.le_of_ble_eq_true rfl, Nat.le_of_ble_eq_true rfl⟩ rfl rfl (Nat.le_of_ble_eq_true rfl) dX7_year_59) rfl ?_
    exact r_iret rfl C (by rw [← hv]) (by rw [← hv]) dX7_year_62
  · rw [if_pos c1] at hv
    refine r_bp C (v := (-3 : Int32)) dX7_year_10 (by decide) ?_
    exact r_iret rfl C (by rw [← hv]) (by rw [← hv]) dX7_year_12

def s_X7_bearer_L7 (wo : Nat → Int32) (d : Nat) : Nat → Nat → Nat → Nat → Nat × Nat
  | 0, _, most_3, least_4 => (most_3, least_4)
  | k1 + 1, d2, most_3, least_4 => (if wo ((4 * d) + most_3) < wo ((4 * d) + d2) then (if wo ((4 * d) + d2) < wo ((4 * d) + least_4) then (s_X7_bearer_L7 wo d k1 (d2 + 1) d2 d2) else (s_X7_bearer_L7 wo d k1 (d2 + 1) d2 least_4)) else (if wo ((4 * d) + d2) < wo ((4 * d) + least_4) then (s_X7_bearer_L7 wo d k1 (d2 + 1) most_3 d2) else (s_X7_bearer_L7 wo d k1 (d2 + 1) most_3 least_4)))
def s_X7_bearer (pe : Nat) (wo : Nat → Int32) (d : Nat) : Int32 := (if (0 : Int32) < wo ((4 * d) + ((s_X7_bearer_L7 wo d (pe - 1) 1 0 0).1)) then nI ((s_X7_bearer_L7 wo d (pe - 1) 1 0 0).1) else nI ((s_X7_bearer_L7 wo d (pe - 1) 1 0 0).2))
set_option maxHeartbeats 8000000 in
set_option maxRecDepth 100000 in
theorem c_X7_bearer (l : Launch) (D : va_G) (o : Nat) (q1 : Nat) (q2 : Nat) (q3 : Nat) (q4 : Nat) (q5 : Nat) (q6 : Nat) (q7 : Nat) (q8 : Nat) (q9 : Nat) (q10 : Nat) (q11 : Nat) (q12 : Nat) (q13 : Nat) (q14 : Nat) (q15 : Nat) (q16 : Nat) (q17 : Nat) (q18 : Nat) (q19 : Nat) (q20 : Nat) (q21 : Nat) (q22 : Nat) (pe : Nat) (n : Nat) (la : Int32) (ri : Int32) (td : Int32) (ys : Int32) (ty : Nat) (ap : Nat) (wg : Int32) (rd : Nat) (sm : Int32) (bt : Int32) (up : Int64) (lw : Int64) (ii : Int32) (kd : Nat → Int32) (dy : Nat → Int32) (nd : Nat → Int32) (co : Nat → Int32) (od : Nat → Int32) (wo : Nat → Int32) (tp : Nat → Int32) (rk : Nat → Int32) (ry : Nat → Int32) (rn : Nat → Int32) (vs : Nat → Int32) (bs : Nat → Int32) (ch : Nat → Int32) (tr : Nat → Int32) (en : Nat → Int32) (du : Nat → Int32) (ol : Nat → Int32) (ig : Nat → Int32) (ln : Nat → Int32) (sz : Nat → Int32) (it : Nat → Int64) (mo : Nat → Int64) (d : Nat) (hd : d < 12) (hp : 1 ≤ pe ∧ pe ≤ 4) : ct l yX7_bearer cX7_bearer 5 (some .int) 0 0 D [.ref o, .int (nI d)] (wM D o q1 q2 q3 q4 q5 q6 q7 q8 q9 q10 q11 q12 q13 q14 q15 q16 q17 q18 q19 q20 q21 q22 pe n la ri td ys ty ap wg rd sm bt up lw ii kd dy nd co od wo tp rk ry rn vs bs ch tr en du ol ig ln sz it mo) (wM D o q1 q2 q3 q4 q5 q6 q7 q8 q9 q10 q11 q12 q13 q14 q15 q16 q17 q18 q19 q20 q21 q22 pe n la ri td ys ty ap wg rd sm bt up lw ii kd dy nd co od wo tp rk ry rn vs bs ch tr en du ol ig ln sz it mo) (fun _ => False) (some (Value.int (s_X7_bearer pe wo d))) := by
  obtain ⟨V, hv⟩ : ∃ V, s_X7_bearer pe wo d = V := ⟨_, rfl⟩
  rw [hv]
  refine ct_intro (own := RX7) (lv := [(0, .ref o), (1, .int (nI d))]) (by decide) rfl (Nat.le_of_ble_eq_true rfl) rfl ?_
  intro p_ e_ s_ m_ below_ meth_ c_ C
  have hv : (if (0 : Int32) < wo ((4 * d) + ((s_X7_bearer_L7 wo d (pe - 1) 1 0 0).1)) then nI ((s_X7_bearer_L7 wo d (pe - 1) 1 0 0).1) else nI ((s_X7_bearer_L7 wo d (pe - 1) 1 0 0).2)) = V := hv
  refine r_ic C (v := (0 : Int32)) dX7_bearer_0 (by decide) ?_
  refine r_isn C (lv' := [(2, .int (0 : Int32)), (0, .ref o), (1, .int (nI d))]) dX7_bearer_1 rfl (by decide) rfl ?_
  refine r_ic C (v := (0 : Int32)) dX7_bearer_2 (by decide) ?_
  refine r_isn C (lv' := [(3, .int (0 : Int32)), (2, .int (0 : Int32)), (0, .ref o), (1, .int (nI d))]) dX7_bearer_3 rfl (by decide) rfl ?_
  refine r_ic C (v := (1 : Int32)) dX7_bearer_4 (by decide) ?_
  refine r_is C (lv' := [(4, .int (1 : Int32)), (3, .int (0 : Int32)), (2, .int (0 : Int32)), (0, .ref o), (1, .int (nI d))]) dX7_bearer_5 (by decide) rfl ?_
  have L12 : ∀ (k1 : Nat) (d2 : Nat) (most_3 : Nat) (least_4 : Nat), (d2 + k1 = pe) → (most_3 < 4) → (least_4 < 4) → (if (0 : Int32) < wo ((4 * d) + ((s_X7_bearer_L7 wo d k1 d2 most_3 least_4).1)) then nI ((s_X7_bearer_L7 wo d k1 d2 most_3 least_4).1) else nI ((s_X7_bearer_L7 wo d k1 d2 most_3 least_4).2)) = V → GM p_ l e_ s_ m_ below_ meth_ c_ D 0 0 5 [.ref o, .int (nI d)] (wM D o q1 q2 q3 q4 q5 q6 q7 q8 q9 q10 q11 q12 q13 q14 q15 q16 q17 q18 q19 q20 q21 q22 pe n la ri td ys ty ap wg rd sm bt up lw ii kd dy nd co od wo tp rk ry rn vs bs ch tr en du ol ig ln sz it mo) (fun _ => False) (some (Value.int V)) (wM D o q1 q2 q3 q4 q5 q6 q7 q8 q9 q10 q11 q12 q13 q14 q15 q16 q17 q18 q19 q20 q21 q22 pe n la ri td ys ty ap wg rd sm bt up lw ii kd dy nd co od wo tp rk ry rn vs bs ch tr en du ol ig ln sz it mo) 7 [(4, .int (nI d2)), (3, .int (nI least_4)), (2, .int (nI most_3)), (0, .ref o), (1, .int (nI d))] [] := by
    intro k1
    induction k1 with
    | zero =>
      intro d2 most_3 least_4 hk hm hl hv
      have hv : (if (0 : Int32) < wo ((4 * d) + most_3) then nI most_3 else nI least_4) = V := hv
      refine r_il C dX7_bearer_7 0 rfl ?_
      refine r_aln C dX7_bearer_9 rfl 3 rfl ?_
      refine gf_X7_77 C 0 rfl rfl dX7_bearer_10 ?_
      refine r_icge C (tgt := 84) dX7_bearer_13 (by decide) (fun c5 => ?_) (fun c5 => ?_)
      · skip
        refine r_aln C dX7_bearer_84 rfl 3 rfl ?_
        refine gf_X7_25 C 0 rfl rfl dX7_bearer_85 ?_
        refine r_ic C (v := (4 : Int32)) dX7_bearer_88 (by decide) ?_
        refine r_iln C dX7_bearer_89 rfl 4 rfl ?_
        refine r_imul C dX7_bearer_90 ?_
        refine r_iln C dX7_bearer_91 rfl 2 rfl ?_
        refine r_iadd C dX7_bearer_92 ?_
        refine r_iald C 6 ((4 * d) + most_3) rfl (nv_add (nv_mul rfl rfl) rfl) (by omega) (by decide) rfl dX7_bearer_93 ?_
        refine r_ifle C (tgt := 101) dX7_bearer_94 (by decide) (fun c6 => ?_) (fun c6 => ?_)
        · rw [if_neg c6] at hv
          refine r_iln C dX7_bearer_101 rfl 1 rfl ?_
          exact r_iret rfl C (congrArg (fun z => some (Value.int z)) hv) rfl dX7_bearer_102
        · rw [if_pos c6] at hv
          refine r_iln C dX7_bearer_97 rfl 2 rfl ?_
          refine r_goto C (tgt := 102) dX7_bearer_98 (by decide) ?_
          exact r_iret rfl C (congrArg (fun z => some (Value.int z)) hv) rfl dX7_bearer_102
      · exact absurd c5 (fun z => absurd ((nv_lt (a := d2) (b := pe) rfl rfl (by omega) (by omega)).mp z) (by omega))
    | succ k1 ih7 =>
      intro d2 most_3 least_4 hk hm hl hv
      have hv : (if (0 : Int32) < wo ((4 * d) + ((if wo ((4 * d) + most_3) < wo ((4 * d) + d2) then (if wo ((4 * d) + d2) < wo ((4 * d) + least_4) then (s_X7_bearer_L7 wo d k1 (d2 + 1) d2 d2) else (s_X7_bearer_L7 wo d k1 (d2 + 1) d2 least_4)) else (if wo ((4 * d) + d2) < wo ((4 * d) + least_4) then (s_X7_bearer_L7 wo d k1 (d2 + 1) most_3 d2) else (s_X7_bearer_L7 wo d k1 (d2 + 1) most_3 least_4))).1)) then nI ((if wo ((4 * d) + most_3) < wo ((4 * d) + d2) then (if wo ((4 * d) + d2) < wo ((4 * d) + least_4) then (s_X7_bearer_L7 wo d k1 (d2 + 1) d2 d2) else (s_X7_bearer_L7 wo d k1 (d2 + 1) d2 least_4)) else (if wo ((4 * d) + d2) < wo ((4 * d) + least_4) then (s_X7_bearer_L7 wo d k1 (d2 + 1) most_3 d2) else (s_X7_bearer_L7 wo d k1 (d2 + 1) most_3 least_4))).1) else nI ((if wo ((4 * d) + most_3) < wo ((4 * d) + d2) then (if wo ((4 * d) + d2) < wo ((4 * d) + least_4) then (s_X7_bearer_L7 wo d k1 (d2 + 1) d2 d2) else (s_X7_bearer_L7 wo d k1 (d2 + 1) d2 least_4)) else (if wo ((4 * d) + d2) < wo ((4 * d) + least_4) then (s_X7_bearer_L7 wo d k1 (d2 + 1) most_3 d2) else (s_X7_bearer_L7 wo d k1 (d2 + 1) most_3 least_4))).2)) = V := hv
      refine r_il C dX7_bearer_7 0 rfl ?_
      refine r_aln C dX7_bearer_9 rfl 3 rfl ?_
      refine gf_X7_77 C 0 rfl rfl dX7_bearer_10 ?_
      refine r_icge C (tgt := 84) dX7_bearer_13 (by decide) (fun c8 => ?_) (fun c8 => ?_)
      · exact absurd ((nv_lt (a := d2) (b := pe) rfl rfl (by omega) (by omega)).mpr (by omega)) c8
      · skip
        refine r_aln C dX7_bearer_16 rfl 3 rfl ?_
        refine gf_X7_25 C 0 rfl rfl dX7_bearer_17 ?_
        refine r_ic C (v := (4 : Int32)) dX7_bearer_20 (by decide) ?_
        refine r_iln C dX7_bearer_21 rfl 4 rfl ?_
        refine r_imul C dX7_bearer_22 ?_
        refine r_il C dX7_bearer_23 0 rfl ?_
        refine r_iadd C dX7_bearer_25 ?_
        refine r_iald C 6 ((4 * d) + d2) rfl (nv_add (nv_mul rfl rfl) rfl) (by omega) (by decide) rfl dX7_bearer_26 ?_
        refine r_aln C dX7_bearer_27 rfl 3 rfl ?_
        refine gf_X7_25 C 0 rfl rfl dX7_bearer_28 ?_
        refine r_ic C (v := (4 : Int32)) dX7_bearer_31 (by decide) ?_
        refine r_iln C dX7_bearer_32 rfl 4 rfl ?_
        refine r_imul C dX7_bearer_33 ?_
        refine r_iln C dX7_bearer_34 rfl 2 rfl ?_
        refine r_iadd C dX7_bearer_35 ?_
        refine r_iald C 6 ((4 * d) + most_3) rfl (nv_add (nv_mul rfl rfl) rfl) (by omega) (by decide) rfl dX7_bearer_36 ?_
        refine r_icle C (tgt := 45) dX7_bearer_37 (by decide) (fun c9 => ?_) (fun c9 => ?_)
        · rw [if_neg c9] at hv
          refine r_iln C dX7_bearer_45 rfl 2 rfl ?_
          refine r_isn C (lv' := [(2, .int (nI most_3)), (4, .int (nI d2)), (3, .int (nI least_4)), (0, .ref o), (1, .int (nI d))]) dX7_bearer_46 rfl (by decide) rfl ?_
          refine r_aln C dX7_bearer_47 rfl 3 rfl ?_
          refine gf_X7_25 C 0 rfl rfl dX7_bearer_48 ?_
          refine r_ic C (v := (4 : Int32)) dX7_bearer_51 (by decide) ?_
          refine r_iln C dX7_bearer_52 rfl 4 rfl ?_
          refine r_imul C dX7_bearer_53 ?_
          refine r_il C dX7_bearer_54 1 rfl ?_
          refine r_iadd C dX7_bearer_56 ?_
          refine r_iald C 6 ((4 * d) + d2) rfl (nv_add (nv_mul rfl rfl) rfl) (by omega) (by decide) rfl dX7_bearer_57 ?_
          refine r_aln C dX7_bearer_58 rfl 3 rfl ?_
          refine gf_X7_25 C 0 rfl rfl dX7_bearer_59 ?_
          refine r_ic C (v := (4 : Int32)) dX7_bearer_62 (by decide) ?_
          refine r_iln C dX7_bearer_63 rfl 4 rfl ?_
          refine r_imul C dX7_bearer_64 ?_
          refine r_iln C dX7_bearer_65 rfl 2 rfl ?_
          refine r_iadd C dX7_bearer_66 ?_
          refine r_iald C 6 ((4 * d) + least_4) rfl (nv_add (nv_mul rfl rfl) rfl) (by omega) (by decide) rfl dX7_bearer_67 ?_
          refine r_icge C (tgt := 76) dX7_bearer_68 (by decide) (fun c10 => ?_) (fun c10 => ?_)
          · rw [if_neg c10] at hv
            refine r_iln C dX7_bearer_76 rfl 2 rfl ?_
            refine r_isn C (lv' := [(3, .int (nI least_4)), (2, .int (nI most_3)), (4, .int (nI d2)), (0, .ref o), (1, .int (nI d))]) dX7_bearer_77 rfl (by decide) rfl ?_
            refine r_inc C (v := nI (d2 + 1)) (lv' := [(4, .int (nI (d2 + 1))), (3, .int (nI least_4)), (2, .int (nI most_3)), (0, .ref o), (1, .int (nI d))]) dX7_bearer_78 2 rfl (inc_nI d2) (by decide) rfl ?_
            refine r_goto C (tgt := 7) dX7_bearer_81 (by decide) ?_
            exact ih7 (d2 + 1) most_3 least_4 (by omega) (by omega) (by omega) hv
          · rw [if_pos c10] at hv
            refine r_il C dX7_bearer_71 1 rfl ?_
            refine r_goto C (tgt := 77) dX7_bearer_73 (by decide) ?_
            refine r_isn C (lv' := [(3, .int (nI d2)), (2, .int (nI most_3)), (4, .int (nI d2)), (0, .ref o), (1, .int (nI d))]) dX7_bearer_77 rfl (by decide) rfl ?_
            refine r_inc C (v := nI (d2 + 1)) (lv' := [(4, .int (nI (d2 + 1))), (3, .int (nI d2)), (2, .int (nI most_3)), (0, .ref o), (1, .int (nI d))]) dX7_bearer_78 2 rfl (inc_nI d2) (by decide) rfl ?_
            refine r_goto C (tgt := 7) dX7_bearer_81 (by decide) ?_
            exact ih7 (d2 + 1) most_3 d2 (by omega) (by omega) (by omega) hv
        · rw [if_pos c9] at hv
          refine r_il C dX7_bearer_40 0 rfl ?_
          refine r_goto C (tgt := 46) dX7_bearer_42 (by decide) ?_
          refine r_isn C (lv' := [(2, .int (nI d2)), (4, .int (nI d2)), (3, .int (nI least_4)), (0, .ref o), (1, .int (nI d))]) dX7_bearer_46 rfl (by decide) rfl ?_
          refine r_aln C dX7_bearer_47 rfl 3 rfl ?_
          refine gf_X7_25 C 0 rfl rfl dX7_bearer_48 ?_
          refine r_ic C (v := (4 : Int32)) dX7_bearer_51 (by decide) ?_
          refine r_iln C dX7_bearer_52 rfl 4 rfl ?_
          refine r_imul C dX7_bearer_53 ?_
          refine r_il C dX7_bearer_54 1 rfl ?_
          refine r_iadd C dX7_bearer_56 ?_
          refine r_iald C 6 ((4 * d) + d2) rfl (nv_add (nv_mul rfl rfl) rfl) (by omega) (by decide) rfl dX7_bearer_57 ?_
          refine r_aln C dX7_bearer_58 rfl 3 rfl ?_
          refine gf_X7_25 C 0 rfl rfl dX7_bearer_59 ?_
          refine r_ic C (v := (4 : Int32)) dX7_bearer_62 (by decide) ?_
          refine r_iln C dX7_bearer_63 rfl 4 rfl ?_
          refine r_imul C dX7_bearer_64 ?_
          refine r_iln C dX7_bearer_65 rfl 2 rfl ?_
          refine r_iadd C dX7_bearer_66 ?_
          refine r_iald C 6 ((4 * d) + least_4) rfl (nv_add (nv_mul rfl rfl) rfl) (by omega) (by decide) rfl dX7_bearer_67 ?_
          refine r_icge C (tgt := 76) dX7_bearer_68 (by decide) (fun c11 => ?_) (fun c11 => ?_)
          · rw [if_neg c11] at hv
            refine r_iln C dX7_bearer_76 rfl 2 rfl ?_
            refine r_isn C (lv' := [(3, .int (nI least_4)), (2, .int (nI d2)), (4, .int (nI d2)), (0, .ref o), (1, .int (nI d))]) dX7_bearer_77 rfl (by decide) rfl ?_
            refine r_inc C (v := nI (d2 + 1)) (lv' := [(4, .int (nI (d2 + 1))), (3, .int (nI least_4)), (2, .int (nI d2)), (0, .ref o), (1, .int (nI d))]) dX7_bearer_78 2 rfl (inc_nI d2) (by decide) rfl ?_
            refine r_goto C (tgt := 7) dX7_bearer_81 (by decide) ?_
            exact ih7 (d2 + 1) d2 least_4 (by omega) (by omega) (by omega) hv
          · rw [if_pos c11] at hv
            refine r_il C dX7_bearer_71 1 rfl ?_
            refine r_goto C (tgt := 77) dX7_bearer_73 (by decide) ?_
            refine r_isn C (lv' := [(3, .int (nI d2)), (2, .int (nI d2)), (4, .int (nI d2)), (0, .ref o), (1, .int (nI d))]) dX7_bearer_77 rfl (by decide) rfl ?_
            refine r_inc C (v := nI (d2 + 1)) (lv' := [(4, .int (nI (d2 + 1))), (3, .int (nI d2)), (2, .int (nI d2)), (0, .ref o), (1, .int (nI d))]) dX7_bearer_78 2 rfl (inc_nI d2) (by decide) rfl ?_
            refine r_goto C (tgt := 7) dX7_bearer_81 (by decide) ?_
            exact ih7 (d2 + 1) d2 d2 (by omega) (by omega) (by omega) hv
  refine r_lve (lv2 := [(4, .int (nI 1)), (3, .int (0 : Int32)), (2, .int (0 : Int32)), (0, .ref o), (1, .int (nI d))]) (congrArg (fun (z : Int32) => ([(4, .int z), (3, .int (0 : Int32)), (2, .int (0 : Int32)), (0, .ref o), (1, .int (nI d))] : List (Nat × Value))) rfl) ?_
  refine r_lve (lv2 := [(4, .int (nI 1)), (3, .int (nI 0)), (2, .int (0 : Int32)), (0, .ref o), (1, .int (nI d))]) (congrArg (fun (z : Int32) => ([(4, .int (nI 1)), (3, .int z), (2, .int (0 : Int32)), (0, .ref o), (1, .int (nI d))] : List (Nat × Value))) rfl) ?_
  refine r_lve (lv2 := [(4, .int (nI 1)), (3, .int (nI 0)), (2, .int (nI 0)), (0, .ref o), (1, .int (nI d))]) (congrArg (fun (z : Int32) => ([(4, .int (nI 1)), (3, .int (nI 0)), (2, .int z), (0, .ref o), (1, .int (nI d))] : List (Nat × Value))) rfl) ?_
  exact L12 (pe - 1) 1 0 0 (by omega) (by omega) (by omega) hv

def s_X7_bears (pe : Nat) (n : Nat) (wo : Nat → Int32) (deed : Int32) : Int32 := (if s_X7_isDeed n deed.toInt64 = (0 : Int32) then (-1 : Int32) else s_X7_bearer pe wo deed.toNatClampNeg)
set_option maxHeartbeats 8000000 in
set_option maxRecDepth 100000 in
theorem c_X7_bears (l : Launch) (D : va_G) (o : Nat) (q1 : Nat) (q2 : Nat) (q3 : Nat) (q4 : Nat) (q5 : Nat) (q6 : Nat) (q7 : Nat) (q8 : Nat) (q9 : Nat) (q10 : Nat) (q11 : Nat) (q12 : Nat) (q13 : Nat) (q14 : Nat) (q15 : Nat) (q16 : Nat) (q17 : Nat) (q18 : Nat) (q19 : Nat) (q20 : Nat) (q21 : Nat) (q22 : Nat) (pe : Nat) (n : Nat) (la : Int32) (ri : Int32) (td : Int32) (ys : Int32) (ty : Nat) (ap : Nat) (wg : Int32) (rd : Nat) (sm : Int32) (bt : Int32) (up : Int64) (lw : Int64) (ii : Int32) (kd : Nat → Int32) (dy : Nat → Int32) (nd : Nat → Int32) (co : Nat → Int32) (od : Nat → Int32) (wo : Nat → Int32) (tp : Nat → Int32) (rk : Nat → Int32) (ry : Nat → Int32) (rn : Nat → Int32) (vs : Nat → Int32) (bs : Nat → Int32) (ch : Nat → Int32) (tr : Nat → Int32) (en : Nat → Int32) (du : Nat → Int32) (ol : Nat → Int32) (ig : Nat → Int32) (ln : Nat → Int32) (sz : Nat → Int32) (it : Nat → Int64) (mo : Nat → Int64) (deed : Int32) (hn : n ≤ 12) (hp : 1 ≤ pe ∧ pe ≤ 4) : ct l yX7_bears cX7_bears 2 (some .int) 2 47 D [.ref o, .int deed] (wM D o q1 q2 q3 q4 q5 q6 q7 q8 q9 q10 q11 q12 q13 q14 q15 q16 q17 q18 q19 q20 q21 q22 pe n la ri td ys ty ap wg rd sm bt up lw ii kd dy nd co od wo tp rk ry rn vs bs ch tr en du ol ig ln sz it mo) (wM D o q1 q2 q3 q4 q5 q6 q7 q8 q9 q10 q11 q12 q13 q14 q15 q16 q17 q18 q19 q20 q21 q22 pe n la ri td ys ty ap wg rd sm bt up lw ii kd dy nd co od wo tp rk ry rn vs bs ch tr en du ol ig ln sz it mo) (fun _ => False) (some (Value.int (s_X7_bears pe n wo deed))) := by
  obtain ⟨V, hv⟩ : ∃ V, s_X7_bears pe n wo deed = V := ⟨_, rfl⟩
  rw [hv]
  refine ct_intro (own := RX7) (lv := [(0, .ref o), (1, .int deed)]) (by decide) rfl (Nat.le_of_ble_eq_true rfl) rfl ?_
  intro p_ e_ s_ m_ below_ meth_ c_ C
  have hv : (if s_X7_isDeed n deed.toInt64 = (0 : Int32) then (-1 : Int32) else s_X7_bearer pe wo deed.toNatClampNeg) = V := hv
  refine r_aln C dX7_bears_0 rfl 0 rfl ?_
  refine r_iln C dX7_bears_1 rfl 1 rfl ?_
  refine r_i2l C dX7_bears_2 ?_
  refine aft_rd (st' := [.int (s_X7_isDeed n deed.toInt64)]) (run_V (rest := []) C (c_X7_isDeed l D o q1 q2 q3 q4 q5 q6 q7 q8 q9 q10 q11 q12 q13 q14 q15 q16 q17 q18 q19 q20 q21 q22 pe n la ri td ys ty ap wg rd sm bt up lw ii kd dy nd co od wo tp rk ry rn vs bs ch tr en du ol ig ln sz it mo deed.toInt64 ) ok_X7_isDeed wn_X7_isDeed wl_X7_isDeed wm_X7_109 _ 0 rfl rfl rfl ⟨Nat.le_of_ble_eq_true rfl, Nat.le_of_ble_eq_true rfl⟩ fm_all rfl (Nat.le_of_ble_eq_true rfl) dX7_bears_3) rfl ?_
  refine r_ifeq C (tgt := 17) dX7_bears_6 (by decide) (fun c1 => ?_) (fun c1 => ?_)
  · rw [if_pos c1] at hv
    refine r_ic C (v := (-1 : Int32)) dX7_bears_17 (by decide) ?_
    exact r_iret rfl C (congrArg (fun z => some (Value.int z)) hv) rfl dX7_bears_18
  · rw [if_neg c1] at hv
    have e2 := mdeed_nat hn c1
    refine r_aln C dX7_bears_9 rfl 0 rfl ?_
    refine r_iln C dX7_bears_10 rfl 1 rfl ?_
    refine r_stk (st2 := [.int (nI deed.toNatClampNeg), .ref o]) (congrArg (fun (z : Int32) => ([.int z, .ref o] : List Value)) e2.1) ?_
    refine aft_rd (st' := [.int (s_X7_bearer pe wo deed.toNatClampNeg)]) (run_V (rest := []) C (c_X7_bearer l D o q1 q2 q3 q4 q5 q6 q7 q8 q9 q10 q11 q12 q13 q14 q15 q16 q17 q18 q19 q20 q21 q22 pe n la ri td ys ty ap wg rd sm bt up lw ii kd dy nd co od wo tp rk ry rn vs bs ch tr en du ol ig ln sz it mo deed.toNatClampNeg (by omega) (by omega)) ok_X7_bearer wn_X7_bearer wl_X7_bearer wm_X7_170 _ 0 rfl rfl rfl ⟨Nat.le_of_ble_eq_true rfl, Nat.le_of_ble_eq_true rfl⟩ fm_all rfl (Nat.le_of_ble_eq_true rfl) dX7_bears_11) rfl ?_
    refine r_goto C (tgt := 18) dX7_bears_14 (by decide) ?_
    exact r_iret rfl C (congrArg (fun z => some (Value.int z)) hv) rfl dX7_bears_18

theorem mbear_L {wo : Nat → Int32} {d pe : Nat} (hp : pe ≤ 4) : ∀ (k e most least : Nat), e + k = pe → most < 4 → least < 4 → (s_X7_bearer_L7 wo d k e most least).1 < 4 ∧ (s_X7_bearer_L7 wo d k e most least).2 < 4 := by
  intro k
  induction k with
  | zero => intro e most least _ h1 h2; exact ⟨h1, h2⟩
  | succ k ih =>
    intro e most least hk h1 h2
    unfold s_X7_bearer_L7
    (repeat' split) <;> exact ih _ _ _ (by omega) (by omega) (by omega)
theorem mbear {pe : Nat} {wo : Nat → Int32} {d : Nat} (hp : 1 ≤ pe ∧ pe ≤ 4) : s_X7_bearer pe wo d = nI (s_X7_bearer pe wo d).toNatClampNeg ∧ (s_X7_bearer pe wo d).toNatClampNeg < 4 := by
  have h := mbear_L (wo := wo) (d := d) (pe := pe) hp.2 (pe - 1) 1 0 0 (by omega) (by omega) (by omega)
  unfold s_X7_bearer
  split
  · rw [nI_clamp (by omega)]; exact ⟨rfl, h.1⟩
  · rw [nI_clamp (by omega)]; exact ⟨rfl, h.2⟩
