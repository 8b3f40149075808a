theorem nn1 {m : Int32} (h : ¬ m < (0 : Int32)) : m = nI m.toNatClampNeg ∧ m.toNatClampNeg < 2 ^ 31 := by
  obtain ⟨j, hj, rfl⟩ := nI_of h
  rw [nI_clamp hj]
  exact ⟨rfl, hj⟩
theorem sh1x {x : Int32} {d : Nat} (h : x = nI d) (hd : d < 31) : (1 : Int32) <<< (x &&& 31) = nI (2 ^ d) := by rw [h]; exact sh1 d hd
def s_X7_why (ln : Nat → Int32) (sz : Nat → Int32) (sheet : Nat) (lane : Int32) (i : Int32) (m : Int32) : Int32 := (if ln sheet < (0 : Int32) then (-11 : Int32) else (if ln sheet = lane then (if i < (0 : Int32) then (-13 : Int32) else (if (0 : Int32) < lg_cmp (i.toInt64 + m.toInt64) ((sz sheet).toInt64) then (-13 : Int32) else (0 : Int32))) else (-12 : Int32)))
set_option maxHeartbeats 8000000 in
set_option maxRecDepth 100000 in
theorem c_X7_why (l : Launch) (D : va_G) (o : Nat) (q1 : Nat) (q2 : Nat) (q3 : Nat) (q4 : Nat) (q5 : Nat) (q6 : Nat) (q7 : Nat) (q8 : Nat) (q9 : Nat) (q10 : Nat) (q11 : Nat) (q12 : Nat) (q13 : Nat) (q14 : Nat) (q15 : Nat) (q16 : Nat) (q17 : Nat) (q18 : Nat) (q19 : Nat) (q20 : Nat) (q21 : Nat) (q22 : Nat) (pe : Nat) (n : Nat) (la : Int32) (ri : Int32) (td : Int32) (ys : Int32) (ty : Nat) (ap : Nat) (wg : Int32) (rd : Nat) (sm : Int32) (bt : Int32) (up : Int64) (lw : Int64) (ii : Int32) (kd : Nat → Int32) (dy : Nat → Int32) (nd : Nat → Int32) (co : Nat → Int32) (od : Nat → Int32) (wo : Nat → Int32) (tp : Nat → Int32) (rk : Nat → Int32) (ry : Nat → Int32) (rn : Nat → Int32) (vs : Nat → Int32) (bs : Nat → Int32) (ch : Nat → Int32) (tr : Nat → Int32) (en : Nat → Int32) (du : Nat → Int32) (ol : Nat → Int32) (ig : Nat → Int32) (ln : Nat → Int32) (sz : Nat → Int32) (it : Nat → Int64) (mo : Nat → Int64) (sheet : Nat) (lane : Int32) (i : Int32) (m : Int32) (hs : sheet < 4) : ct l yX7_why cX7_why 5 (some .int) 0 0 D [.ref o, .int (nI sheet), .int lane, .int i, .int m] (wM D o q1 q2 q3 q4 q5 q6 q7 q8 q9 q10 q11 q12 q13 q14 q15 q16 q17 q18 q19 q20 q21 q22 pe n la ri td ys ty ap wg rd sm bt up lw ii kd dy nd co od wo tp rk ry rn vs bs ch tr en du ol ig ln sz it mo) (wM D o q1 q2 q3 q4 q5 q6 q7 q8 q9 q10 q11 q12 q13 q14 q15 q16 q17 q18 q19 q20 q21 q22 pe n la ri td ys ty ap wg rd sm bt up lw ii kd dy nd co od wo tp rk ry rn vs bs ch tr en du ol ig ln sz it mo) (fun _ => False) (some (Value.int (s_X7_why ln sz sheet lane i m))) := by
  obtain ⟨V, hv⟩ : ∃ V, s_X7_why ln sz sheet lane i m = V := ⟨_, rfl⟩
  rw [hv]
  refine ct_intro (own := RX7) (lv := [(0, .ref o), (1, .int (nI sheet)), (2, .int lane), (3, .int i), (4, .int m)]) (by decide) rfl (Nat.le_of_ble_eq_true rfl) rfl ?_
  intro p_ e_ s_ m_ below_ meth_ c_ C
  have hv : (if ln sheet < (0 : Int32) then (-11 : Int32) else (if ln sheet = lane then (if i < (0 : Int32) then (-13 : Int32) else (if (0 : Int32) < lg_cmp (i.toInt64 + m.toInt64) ((sz sheet).toInt64) then (-13 : Int32) else (0 : Int32))) else (-12 : Int32))) = V := hv
  refine r_aln C dX7_why_0 rfl 0 rfl ?_
  refine gf_X7_64 C 0 rfl rfl dX7_why_1 ?_
  refine r_iln C dX7_why_4 rfl 1 rfl ?_
  refine r_iald C 19 sheet rfl rfl (by omega) (by decide) rfl dX7_why_5 ?_
  refine r_ifge C (tgt := 12) dX7_why_6 (by decide) (fun c1 => ?_) (fun c1 => ?_)
  · rw [if_neg c1] at hv
    refine r_aln C dX7_why_12 rfl 0 rfl ?_
    refine gf_X7_64 C 0 rfl rfl dX7_why_13 ?_
    refine r_iln C dX7_why_16 rfl 1 rfl ?_
    refine r_iald C 19 sheet rfl rfl (by omega) (by decide) rfl dX7_why_17 ?_
    refine r_iln C dX7_why_18 rfl 2 rfl ?_
    refine r_iceq C (tgt := 25) dX7_why_19 (by decide) (fun c2 => ?_) (fun c2 => ?_)
    · rw [if_pos c2] at hv
      refine r_iln C dX7_why_25 rfl 3 rfl ?_
      refine r_iflt C (tgt := 46) dX7_why_26 (by decide) (fun c3 => ?_) (fun c3 => ?_)
      · rw [if_pos c3] at hv
        refine r_bp C (v := (-13 : Int32)) dX7_why_46 (by decide) ?_
        refine r_goto C (tgt := 52) dX7_why_48 (by decide) ?_
        exact r_iret rfl C (congrArg (fun z => some (Value.int z)) hv) rfl dX7_why_52
      · rw [if_neg c3] at hv
        refine r_iln C dX7_why_29 rfl 3 rfl ?_
        refine r_i2l C dX7_why_30 ?_
        refine r_il C dX7_why_31 4 rfl ?_
        refine r_i2l C dX7_why_33 ?_
        refine r_ladd C dX7_why_34 ?_
        refine r_aln C dX7_why_35 rfl 0 rfl ?_
        refine gf_X7_67 C 0 rfl rfl dX7_why_36 ?_
        refine r_iln C dX7_why_39 rfl 1 rfl ?_
        refine r_iald C 20 sheet rfl rfl (by omega) (by decide) rfl dX7_why_40 ?_
        refine r_i2l C dX7_why_41 ?_
        refine r_lcmp C dX7_why_42 ?_
        refine r_ifle C (tgt := 51) dX7_why_43 (by decide) (fun c4 => ?_) (fun c4 => ?_)
        · rw [if_neg c4] at hv
          refine r_ic C (v := (0 : Int32)) dX7_why_51 (by decide) ?_
          exact r_iret rfl C (congrArg (fun z => some (Value.int z)) hv) rfl dX7_why_52
        · rw [if_pos c4] at hv
          refine r_bp C (v := (-13 : Int32)) dX7_why_46 (by decide) ?_
          refine r_goto C (tgt := 52) dX7_why_48 (by decide) ?_
          exact r_iret rfl C (congrArg (fun z => some (Value.int z)) hv) rfl dX7_why_52
    · rw [if_neg c2] at hv
      refine r_bp C (v := (-12 : Int32)) dX7_why_22 (by decide) ?_
      exact r_iret rfl C (congrArg (fun z => some (Value.int z)) hv) rfl dX7_why_24
  · rw [if_pos c1] at hv
    refine r_bp C (v := (-11 : Int32)) dX7_why_9 (by decide) ?_
    exact r_iret rfl C (congrArg (fun z => some (Value.int z)) hv) rfl dX7_why_11

theorem mwhy_i {ln sz : Nat → Int32} {s : Nat} {lane i m : Int32} {mn : Nat} (hm : m = nI mn) (hmn : mn < 2 ^ 31) (hz : ∀ j, j < 4 → ∃ z : Nat, z ≤ 16 ∧ sz j = nI z) (hs : s < 4) (h : ¬ s_X7_why ln sz s lane i m < 0) : i = nI i.toNatClampNeg ∧ i.toNatClampNeg + mn ≤ 16 := by
  obtain ⟨z, hz1, hz2⟩ := hz s hs
  unfold s_X7_why at h
  rw [hz2] at h
  by_cases h1 : ln s < (0 : Int32)
  · rw [if_pos h1] at h; exact absurd (by decide) h
  by_cases h2 : ln s = lane
  · rw [if_neg h1, if_pos h2] at h
    by_cases h3 : i < (0 : Int32)
    · rw [if_pos h3] at h; exact absurd (by decide) h
    by_cases h4 : (0 : Int32) < lg_cmp (i.toInt64 + m.toInt64) (nI z).toInt64
    · rw [if_neg h3, if_pos h4] at h; exact absurd (by decide) h
    obtain ⟨a, ha, rfl⟩ := nI_of h3
    have h5 : ¬ (nI z).toInt64 < (nI a).toInt64 + m.toInt64 := fun q => h4 ((lcmp_gt _ _).mpr q)
    rw [hm, nI_l (by omega), nI_l ha, nI_l hmn, lN_add] at h5
    have h6 : ¬ z < a + mn := fun q => h5 ((pk_lLT (by omega) (by omega)).mpr q)
    rw [nI_clamp ha]
    exact ⟨rfl, by omega⟩
  · rw [if_neg h1, if_neg h2] at h; exact absurd (by decide) h
def s_X7_judged_L49 (n : Nat) (la : Int32) (kd : Nat → Int32) (dy : Nat → Int32) (nd : Nat → Int32) (it : Nat → Int64) (sheet : Int32) (i : Int32) (K : Int32) : Nat → Nat → Int32
  | 0, _ => K
  | k6 + 1, d7 => (if lg_cmp (it (((16 * sheet.toNatClampNeg) + i.toNatClampNeg) + d7)) (-1 : Int64) = (0 : Int32) then (s_X7_judged_L49 n la kd dy nd it sheet i K k6 (d7 + 1)) else (if s_X7_isDeed n (it (((16 * sheet.toNatClampNeg) + i.toNatClampNeg) + d7)) = (0 : Int32) then nI d7 else (if ((s_X7_ofDay n dy ((11 : Int32) - (nI d7))) &&& (s_X7_stands n kd nd (0 : Int32) la)) &&& ((1 : Int32) <<< (((it (((16 * sheet.toNatClampNeg) + i.toNatClampNeg) + d7)).toInt32) &&& 31)) = (0 : Int32) then nI d7 else (s_X7_judged_L49 n la kd dy nd it sheet i K k6 (d7 + 1)))))
def s_X7_judged (n : Nat) (la : Int32) (kd : Nat → Int32) (dy : Nat → Int32) (nd : Nat → Int32) (ln : Nat → Int32) (sz : Nat → Int32) (it : Nat → Int64) (sheet : Int32) (lane : Int32) (i : Int32) : Int32 := (if s_X7_isSheet sheet = (0 : Int32) then (-1 : Int32) else (if s_X7_isLane lane = (0 : Int32) then (-1 : Int32) else (if s_X7_why ln sz sheet.toNatClampNeg lane i (12 : Int32) < (0 : Int32) then s_X7_why ln sz sheet.toNatClampNeg lane i (12 : Int32) else (s_X7_judged_L49 n la kd dy nd it sheet i (-4 : Int32) 12 0))))
set_option maxHeartbeats 8000000 in
set_option maxRecDepth 100000 in
theorem c_X7_judged (l : Launch) (D : va_G) (o : Nat) (q1 : Nat) (q2 : Nat) (q3 : Nat) (q4 : Nat) (q5 : Nat) (q6 : Nat) (q7 : Nat) (q8 : Nat) (q9 : Nat) (q10 : Nat) (q11 : Nat) (q12 : Nat) (q13 : Nat) (q14 : Nat) (q15 : Nat) (q16 : Nat) (q17 : Nat) (q18 : Nat) (q19 : Nat) (q20 : Nat) (q21 : Nat) (q22 : Nat) (pe : Nat) (n : Nat) (la : Int32) (ri : Int32) (td : Int32) (ys : Int32) (ty : Nat) (ap : Nat) (wg : Int32) (rd : Nat) (sm : Int32) (bt : Int32) (up : Int64) (lw : Int64) (ii : Int32) (kd : Nat → Int32) (dy : Nat → Int32) (nd : Nat → Int32) (co : Nat → Int32) (od : Nat → Int32) (wo : Nat → Int32) (tp : Nat → Int32) (rk : Nat → Int32) (ry : Nat → Int32) (rn : Nat → Int32) (vs : Nat → Int32) (bs : Nat → Int32) (ch : Nat → Int32) (tr : Nat → Int32) (en : Nat → Int32) (du : Nat → Int32) (ol : Nat → Int32) (ig : Nat → Int32) (ln : Nat → Int32) (sz : Nat → Int32) (it : Nat → Int64) (mo : Nat → Int64) (sheet : Int32) (lane : Int32) (i : Int32) (hn : n ≤ 12) (hz : ∀ j, j < 4 → ∃ z : Nat, z ≤ 16 ∧ sz j = nI z) : ct l yX7_judged cX7_judged 10 (some .int) 2 48 D [.ref o, .int sheet, .int lane, .int i] (wM D o q1 q2 q3 q4 q5 q6 q7 q8 q9 q10 q11 q12 q13 q14 q15 q16 q17 q18 q19 q20 q21 q22 pe n la ri td ys ty ap wg rd sm bt up lw ii kd dy nd co od wo tp rk ry rn vs bs ch tr en du ol ig ln sz it mo) (wM D o q1 q2 q3 q4 q5 q6 q7 q8 q9 q10 q11 q12 q13 q14 q15 q16 q17 q18 q19 q20 q21 q22 pe n la ri td ys ty ap wg rd sm bt up lw ii kd dy nd co od wo tp rk ry rn vs bs ch tr en du ol ig ln sz it mo) (fun _ => False) (some (Value.int (s_X7_judged n la kd dy nd ln sz it sheet lane i))) := by
  obtain ⟨V, hv⟩ : ∃ V, s_X7_judged n la kd dy nd ln sz it sheet lane i = V := ⟨_, rfl⟩
  rw [hv]
  refine ct_intro (own := RX7) (lv := [(0, .ref o), (1, .int sheet), (2, .int lane), (3, .int i)]) (by decide) rfl (Nat.le_of_ble_eq_true rfl) rfl ?_
  intro p_ e_ s_ m_ below_ meth_ c_ C
  have hv : (if s_X7_isSheet sheet = (0 : Int32) then (-1 : Int32) else (if s_X7_isLane lane = (0 : Int32) then (-1 : Int32) else (if s_X7_why ln sz sheet.toNatClampNeg lane i (12 : Int32) < (0 : Int32) then s_X7_why ln sz sheet.toNatClampNeg lane i (12 : Int32) else (s_X7_judged_L49 n la kd dy nd it sheet i (-4 : Int32) 12 0)))) = V := hv
  refine r_iln C dX7_judged_0 rfl 1 rfl ?_
  refine aft_rd (st' := [.int (s_X7_isSheet sheet)]) (run_S (rest := []) C (c_X7_isSheet l D sheet ) ok_X7_isSheet ws_X7_isSheet wm_X7_228 [] rfl ⟨Nat.le_of_ble_eq_true rfl, Nat.le_of_ble_eq_true rfl⟩ rfl rfl (Nat.le_of_ble_eq_true rfl) dX7_judged_1) rfl ?_
  refine r_ifeq C (tgt := 14) dX7_judged_4 (by decide) (fun c1 => ?_) (fun c1 => ?_)
  · rw [if_pos c1] at hv
    refine r_ic C (v := (-1 : Int32)) dX7_judged_14 (by decide) ?_
    exact r_iret rfl C (congrArg (fun z => some (Value.int z)) hv) rfl dX7_judged_15
  · rw [if_neg c1] at hv
    have e2 := mSheet_nat c1
    refine r_iln C dX7_judged_7 rfl 2 rfl ?_
    refine aft_rd (st' := [.int (s_X7_isLane lane)]) (run_S (rest := []) C (c_X7_isLane l D lane ) ok_X7_isLane ws_X7_isLane wm_X7_231 [] rfl ⟨Nat.le_of_ble_eq_true rfl, Nat.le_of_ble_eq_true rfl⟩ rfl rfl (Nat.le_of_ble_eq_true rfl) dX7_judged_8) rfl ?_
    refine r_ifne C (tgt := 16) dX7_judged_11 (by decide) (fun c3 => ?_) (fun c3 => ?_)
    · rw [if_neg c3] at hv
      refine r_aln C dX7_judged_16 rfl 0 rfl ?_
      refine r_iln C dX7_judged_17 rfl 1 rfl ?_
      refine r_iln C dX7_judged_18 rfl 2 rfl ?_
      refine r_iln C dX7_judged_19 rfl 3 rfl ?_
      refine r_bp C (v := (12 : Int32)) dX7_judged_20 (by decide) ?_
      refine r_stk (st2 := [.int (12 : Int32), .int i, .int lane, .int (nI sheet.toNatClampNeg), .ref o]) (congrArg (fun (z : Int32) => ([.int (12 : Int32), .int i, .int lane, .int z, .ref o] : List Value)) e2.1) ?_
      refine aft_rd (st' := [.int (s_X7_why ln sz sheet.toNatClampNeg lane i (12 : Int32))]) (run_V (rest := []) C (c_X7_why l D o q1 q2 q3 q4 q5 q6 q7 q8 q9 q10 q11 q12 q13 q14 q15 q16 q17 q18 q19 q20 q21 q22 pe n la ri td ys ty ap wg rd sm bt up lw ii kd dy nd co od wo tp rk ry rn vs bs ch tr en du ol ig ln sz it mo sheet.toNatClampNeg lane i (12 : Int32) (by omega)) ok_X7_why wn_X7_why wl_X7_why wm_X7_234 _ 0 rfl rfl rfl ⟨Nat.le_of_ble_eq_true rfl, Nat.le_of_ble_eq_true rfl⟩ fm_all rfl (Nat.le_of_ble_eq_true rfl) dX7_judged_22) rfl ?_
      refine r_is C (lv' := [(4, .int (s_X7_why ln sz sheet.toNatClampNeg lane i (12 : Int32))), (0, .ref o), (1, .int sheet), (2, .int lane), (3, .int i)]) dX7_judged_25 (by decide) rfl ?_
      refine r_il C dX7_judged_27 0 rfl ?_
      refine r_ifge C (tgt := 35) dX7_judged_29 (by decide) (fun c4 => ?_) (fun c4 => ?_)
      · rw [if_neg c4] at hv
        have e5 := mwhy_i (mn := 12) rfl (by omega) hz (by omega) c4
        refine r_aln C dX7_judged_35 rfl 1 rfl ?_
        refine r_ic C (v := (0 : Int32)) dX7_judged_36 (by decide) ?_
        refine r_aln C dX7_judged_37 rfl 1 rfl ?_
        refine gf_X7_116 C 0 rfl rfl dX7_judged_38 ?_
        refine aft_rd (st' := [.int (s_X7_stands n kd nd (0 : Int32) la)]) (run_V (rest := []) C (c_X7_stands l D o q1 q2 q3 q4 q5 q6 q7 q8 q9 q10 q11 q12 q13 q14 q15 q16 q17 q18 q19 q20 q21 q22 pe n la ri td ys ty ap wg rd sm bt up lw ii kd dy nd co od wo tp rk ry rn vs bs ch tr en du ol ig ln sz it mo (0 : Int32) la (by omega)) ok_X7_stands wn_X7_stands wl_X7_stands wm_X7_119 _ 0 rfl rfl rfl ⟨Nat.le_of_ble_eq_true rfl, Nat.le_of_ble_eq_true rfl⟩ fm_all rfl (Nat.le_of_ble_eq_true rfl) dX7_judged_41) rfl ?_
        refine r_is C (lv' := [(5, .int (s_X7_stands n kd nd (0 : Int32) la)), (4, .int (s_X7_why ln sz sheet.toNatClampNeg lane i (12 : Int32))), (0, .ref o), (1, .int sheet), (2, .int lane), (3, .int i)]) dX7_judged_44 (by decide) rfl ?_
        refine r_ic C (v := (0 : Int32)) dX7_judged_46 (by decide) ?_
        refine r_is C (lv' := [(6, .int (0 : Int32)), (5, .int (s_X7_stands n kd nd (0 : Int32) la)), (4, .int (s_X7_why ln sz sheet.toNatClampNeg lane i (12 : Int32))), (0, .ref o), (1, .int sheet), (2, .int lane), (3, .int i)]) dX7_judged_47 (by decide) rfl ?_
        have L18 : ∀ (k6 : Nat) (d7 : Nat), (d7 + k6 = 12) → (s_X7_judged_L49 n la kd dy nd it sheet i (-4 : Int32) k6 d7) = V → GM p_ l e_ s_ m_ below_ meth_ c_ D 2 48 10 [.ref o, .int sheet, .int lane, .int i] (wM D o q1 q2 q3 q4 q5 q6 q7 q8 q9 q10 q11 q12 q13 q14 q15 q16 q17 q18 q19 q20 q21 q22 pe n la ri td ys ty ap wg rd sm bt up lw ii kd dy nd co od wo tp rk ry rn vs bs ch tr en du ol ig ln sz it mo) (fun _ => False) (some (Value.int V)) (wM D o q1 q2 q3 q4 q5 q6 q7 q8 q9 q10 q11 q12 q13 q14 q15 q16 q17 q18 q19 q20 q21 q22 pe n la ri td ys ty ap wg rd sm bt up lw ii kd dy nd co od wo tp rk ry rn vs bs ch tr en du ol ig ln sz it mo) 49 [(6, .int (nI d7)), (5, .int (s_X7_stands n kd nd (0 : Int32) la)), (4, .int (s_X7_why ln sz sheet.toNatClampNeg lane i (12 : Int32))), (0, .ref o), (1, .int sheet), (2, .int lane), (3, .int i)] [] := by
          intro k6
          induction k6 with
          | zero =>
            intro d7 hk hv
            have hv : (-4 : Int32) = V := hv
            refine r_il C dX7_judged_49 0 rfl ?_
            refine r_bp C (v := (12 : Int32)) dX7_judged_51 (by decide) ?_
            refine r_icge C (tgt := 132) dX7_judged_53 (by decide) (fun c8 => ?_) (fun c8 => ?_)
            · skip
              refine r_bp C (v := (-4 : Int32)) dX7_judged_132 (by decide) ?_
              exact r_iret rfl C (congrArg (fun z => some (Value.int z)) hv) rfl dX7_judged_134
            · exact absurd c8 (fun z => absurd ((nv_lt (a := d7) (b := 12) rfl rfl (by omega) (by omega)).mp z) (by omega))
          | succ k6 ih9 =>
            intro d7 hk hv
            have hv : (if lg_cmp (it (((16 * sheet.toNatClampNeg) + i.toNatClampNeg) + d7)) (-1 : Int64) = (0 : Int32) then (s_X7_judged_L49 n la kd dy nd it sheet i (-4 : Int32) k6 (d7 + 1)) else (if s_X7_isDeed n (it (((16 * sheet.toNatClampNeg) + i.toNatClampNeg) + d7)) = (0 : Int32) then nI d7 else (if ((s_X7_ofDay n dy ((11 : Int32) - (nI d7))) &&& (s_X7_stands n kd nd (0 : Int32) la)) &&& ((1 : Int32) <<< (((it (((16 * sheet.toNatClampNeg) + i.toNatClampNeg) + d7)).toInt32) &&& 31)) = (0 : Int32) then nI d7 else (s_X7_judged_L49 n la kd dy nd it sheet i (-4 : Int32) k6 (d7 + 1))))) = V := hv
            refine r_il C dX7_judged_49 0 rfl ?_
            refine r_bp C (v := (12 : Int32)) dX7_judged_51 (by decide) ?_
            refine r_icge C (tgt := 132) dX7_judged_53 (by decide) (fun c10 => ?_) (fun c10 => ?_)
            · exact absurd ((nv_lt (a := d7) (b := 12) rfl rfl (by omega) (by omega)).mpr (by omega)) c10
            · skip
              refine r_aln C dX7_judged_56 rfl 3 rfl ?_
              refine gf_X7_70 C 0 rfl rfl dX7_judged_57 ?_
              refine r_bp C (v := (16 : Int32)) dX7_judged_60 (by decide) ?_
              refine r_iln C dX7_judged_62 rfl 4 rfl ?_
              refine r_imul C dX7_judged_63 ?_
              refine r_iln C dX7_judged_64 rfl 6 rfl ?_
              refine r_iadd C dX7_judged_65 ?_
              refine r_il C dX7_judged_66 0 rfl ?_
              refine r_iadd C dX7_judged_68 ?_
              refine r_lald C 21 (((16 * sheet.toNatClampNeg) + i.toNatClampNeg) + d7) rfl (nv_add (nv_add (nv_mul rfl e2.1) e5.1) rfl) (by omega) (by decide) rfl dX7_judged_69 ?_
              refine r_ls C (lv' := [(7, .long (it (((16 * sheet.toNatClampNeg) + i.toNatClampNeg) + d7))), (6, .int (nI d7)), (5, .int (s_X7_stands n kd nd (0 : Int32) la)), (4, .int (s_X7_why ln sz sheet.toNatClampNeg lane i (12 : Int32))), (0, .ref o), (1, .int sheet), (2, .int lane), (3, .int i)]) dX7_judged_70 (by decide) rfl ?_
              refine r_ll C dX7_judged_72 0 rfl ?_
              refine r_ldc2 C wc_X7_238 dX7_judged_74 ?_
              refine r_lcmp C dX7_judged_77 ?_
              refine r_ifeq C (tgt := 111) dX7_judged_78 (by decide) (fun c11 => ?_) (fun c11 => ?_)
              · rw [if_pos c11] at hv
                refine r_ic C (v := (1 : Int32)) dX7_judged_111 (by decide) ?_
                refine r_goto C (tgt := 116) dX7_judged_112 (by decide) ?_
                refine r_is C (lv' := [(9, .int (1 : Int32)), (7, .long (it (((16 * sheet.toNatClampNeg) + i.toNatClampNeg) + d7))), (6, .int (nI d7)), (5, .int (s_X7_stands n kd nd (0 : Int32) la)), (4, .int (s_X7_why ln sz sheet.toNatClampNeg lane i (12 : Int32))), (0, .ref o), (1, .int sheet), (2, .int lane), (3, .int i)]) dX7_judged_116 (by decide) rfl ?_
                refine r_il C dX7_judged_118 0 rfl ?_
                refine r_ifne C (tgt := 126) dX7_judged_120 (by decide) (fun c12 => ?_) (fun c12 => ?_)
                · skip
                  refine r_inc C (v := nI (d7 + 1)) (lv' := [(6, .int (nI (d7 + 1))), (9, .int (1 : Int32)), (7, .long (it (((16 * sheet.toNatClampNeg) + i.toNatClampNeg) + d7))), (5, .int (s_X7_stands n kd nd (0 : Int32) la)), (4, .int (s_X7_why ln sz sheet.toNatClampNeg lane i (12 : Int32))), (0, .ref o), (1, .int sheet), (2, .int lane), (3, .int i)]) dX7_judged_126 2 rfl (inc_nI d7) (by decide) rfl ?_
                  refine r_goto C (tgt := 49) dX7_judged_129 (by decide) ?_
                  refine r_lv [0, 3, 4, 5, 6, 7, 8] rfl ?_
                  exact ih9 (d7 + 1) (by omega) hv
                · exact absurd c12 (by decide)
              · rw [if_neg c11] at hv
                refine r_aln C dX7_judged_81 rfl 4 rfl ?_
                refine r_ll C dX7_judged_82 0 rfl ?_
                refine aft_rd (st' := [.int (s_X7_isDeed n (it (((16 * sheet.toNatClampNeg) + i.toNatClampNeg) + d7)))]) (run_V (rest := []) C (c_X7_isDeed l D o q1 q2 q3 q4 q5 q6 q7 q8 q9 q10 q11 q12 q13 q14 q15 q16 q17 q18 q19 q20 q21 q22 pe n la ri td ys ty ap wg rd sm bt up lw ii kd dy nd co od wo tp rk ry rn vs bs ch tr en du ol ig ln sz it mo (it (((16 * sheet.toNatClampNeg) + i.toNatClampNeg) + d7)) ) ok_X7_isDeed wn_X7_isDeed wl_X7_isDeed wm_X7_109 _ 0 rfl rfl rfl ⟨Nat.le_of_ble_eq_true rfl, Nat.le_of_ble_eq_true rfl⟩ fm_all rfl (Nat.le_of_ble_eq_true rfl) dX7_judged_84) rfl ?_
                refine r_ifeq C (tgt := 115) dX7_judged_87 (by decide) (fun c13 => ?_) (fun c13 => ?_)
                · rw [if_pos c13] at hv
                  refine r_ic C (v := (0 : Int32)) dX7_judged_115 (by decide) ?_
                  refine r_is C (lv' := [(9, .int (0 : Int32)), (7, .long (it (((16 * sheet.toNatClampNeg) + i.toNatClampNeg) + d7))), (6, .int (nI d7)), (5, .int (s_X7_stands n kd nd (0 : Int32) la)), (4, .int (s_X7_why ln sz sheet.toNatClampNeg lane i (12 : Int32))), (0, .ref o), (1, .int sheet), (2, .int lane), (3, .int i)]) dX7_judged_116 (by decide) rfl ?_
                  refine r_il C dX7_judged_118 0 rfl ?_
                  refine r_ifne C (tgt := 126) dX7_judged_120 (by decide) (fun c14 => ?_) (fun c14 => ?_)
                  · exact absurd (by decide) c14
                  · skip
                    refine r_il C dX7_judged_123 2 rfl ?_
                    exact r_iret rfl C (congrArg (fun z => some (Value.int z)) hv) rfl dX7_judged_125
                · rw [if_neg c13] at hv
                  refine r_aln C dX7_judged_90 rfl 4 rfl ?_
                  refine r_bp C (v := (11 : Int32)) dX7_judged_91 (by decide) ?_
                  refine r_il C dX7_judged_93 1 rfl ?_
                  refine r_isub C dX7_judged_95 ?_
                  refine aft_rd (st' := [.int (s_X7_ofDay n dy ((11 : Int32) - (nI d7)))]) (run_V (rest := []) C (c_X7_ofDay l D o q1 q2 q3 q4 q5 q6 q7 q8 q9 q10 q11 q12 q13 q14 q15 q16 q17 q18 q19 q20 q21 q22 pe n la ri td ys ty ap wg rd sm bt up lw ii kd dy nd co od wo tp rk ry rn vs bs ch tr en du ol ig ln sz it mo ((11 : Int32) - (nI d7)) (by omega)) ok_X7_ofDay wn_X7_ofDay wl_X7_ofDay wm_X7_162 _ 0 rfl rfl rfl ⟨Nat.le_of_ble_eq_true rfl, Nat.le_of_ble_eq_true rfl⟩ fm_all rfl (Nat.le_of_ble_eq_true rfl) dX7_judged_96) rfl ?_
                  refine r_il C dX7_judged_99 2 rfl ?_
                  refine r_iand C dX7_judged_101 ?_
                  refine r_ic C (v := (1 : Int32)) dX7_judged_102 (by decide) ?_
                  refine r_ll C dX7_judged_103 0 rfl ?_
                  refine r_l2i C dX7_judged_105 ?_
                  refine r_ishl C dX7_judged_106 ?_
                  refine r_iand C dX7_judged_107 ?_
                  refine r_ifeq C (tgt := 115) dX7_judged_108 (by decide) (fun c15 => ?_) (fun c15 => ?_)
                  · rw [if_pos c15] at hv
                    refine r_ic C (v := (0 : Int32)) dX7_judged_115 (by decide) ?_
                    refine r_is C (lv' := [(9, .int (0 : Int32)), (7, .long (it (((16 * sheet.toNatClampNeg) + i.toNatClampNeg) + d7))), (6, .int (nI d7)), (5, .int (s_X7_stands n kd nd (0 : Int32) la)), (4, .int (s_X7_why ln sz sheet.toNatClampNeg lane i (12 : Int32))), (0, .ref o), (1, .int sheet), (2, .int lane), (3, .int i)]) dX7_judged_116 (by decide) rfl ?_
                    refine r_il C dX7_judged_118 0 rfl ?_
                    refine r_ifne C (tgt := 126) dX7_judged_120 (by decide) (fun c16 => ?_) (fun c16 => ?_)
                    · exact absurd (by decide) c16
                    · skip
                      refine r_il C dX7_judged_123 2 rfl ?_
                      exact r_iret rfl C (congrArg (fun z => some (Value.int z)) hv) rfl dX7_judged_125
                  · rw [if_neg c15] at hv
                    refine r_ic C (v := (1 : Int32)) dX7_judged_111 (by decide) ?_
                    refine r_goto C (tgt := 116) dX7_judged_112 (by decide) ?_
                    refine r_is C (lv' := [(9, .int (1 : Int32)), (7, .long (it (((16 * sheet.toNatClampNeg) + i.toNatClampNeg) + d7))), (6, .int (nI d7)), (5, .int (s_X7_stands n kd nd (0 : Int32) la)), (4, .int (s_X7_why ln sz sheet.toNatClampNeg lane i (12 : Int32))), (0, .ref o), (1, .int sheet), (2, .int lane), (3, .int i)]) dX7_judged_116 (by decide) rfl ?_
                    refine r_il C dX7_judged_118 0 rfl ?_
                    refine r_ifne C (tgt := 126) dX7_judged_120 (by decide) (fun c17 => ?_) (fun c17 => ?_)
                    · skip
                      refine r_inc C (v := nI (d7 + 1)) (lv' := [(6, .int (nI (d7 + 1))), (9, .int (1 : Int32)), (7, .long (it (((16 * sheet.toNatClampNeg) + i.toNatClampNeg) + d7))), (5, .int (s_X7_stands n kd nd (0 : Int32) la)), (4, .int (s_X7_why ln sz sheet.toNatClampNeg lane i (12 : Int32))), (0, .ref o), (1, .int sheet), (2, .int lane), (3, .int i)]) dX7_judged_126 2 rfl (inc_nI d7) (by decide) rfl ?_
                      refine r_goto C (tgt := 49) dX7_judged_129 (by decide) ?_
                      refine r_lv [0, 3, 4, 5, 6, 7, 8] rfl ?_
                      exact ih9 (d7 + 1) (by omega) hv
                    · exact absurd c17 (by decide)
        refine r_lve (lv2 := [(6, .int (nI 0)), (5, .int (s_X7_stands n kd nd (0 : Int32) la)), (4, .int (s_X7_why ln sz sheet.toNatClampNeg lane i (12 : Int32))), (0, .ref o), (1, .int sheet), (2, .int lane), (3, .int i)]) (congrArg (fun (z : Int32) => ([(6, .int z), (5, .int (s_X7_stands n kd nd (0 : Int32) la)), (4, .int (s_X7_why ln sz sheet.toNatClampNeg lane i (12 : Int32))), (0, .ref o), (1, .int sheet), (2, .int lane), (3, .int i)] : List (Nat × Value))) rfl) ?_
        exact L18 12 0 (by omega) hv
      · rw [if_pos c4] at hv
        refine r_il C dX7_judged_32 0 rfl ?_
        exact r_iret rfl C (congrArg (fun z => some (Value.int z)) hv) rfl dX7_judged_34
    · rw [if_pos c3] at hv
      refine r_ic C (v := (-1 : Int32)) dX7_judged_14 (by decide) ?_
      exact r_iret rfl C (congrArg (fun z => some (Value.int z)) hv) rfl dX7_judged_15

