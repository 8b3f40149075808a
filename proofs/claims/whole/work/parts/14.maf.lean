def s_X7_count (pe : Nat) (n : Nat) (la : Int32) (ri : Int32) (td : Int32) (ys : Int32) (kd : Nat → Int32) (nd : Nat → Int32) (what : Int32) : Int32 := (if what = (0 : Int32) then nI pe else (if what = (1 : Int32) then nI n else (if what = (2 : Int32) then td + (1 : Int32) else (if what = (3 : Int32) then ys else (if what = (4 : Int32) then s_X7_stands n kd nd ri la else (if what = (5 : Int32) then ri else (if what = (6 : Int32) then la else (-1 : Int32))))))))
set_option maxHeartbeats 8000000 in
set_option maxRecDepth 100000 in
theorem c_X7_count (l : Launch) (D : va_G) (o : Nat) (q1 : Nat) (q2 : Nat) (q3 : Nat) (q4 : Nat) (q5 : Nat) (q6 : Nat) (q7 : Nat) (q8 : Nat) (q9 : Nat) (q10 : Nat) (q11 : Nat) (q12 : Nat) (q13 : Nat) (q14 : Nat) (q15 : Nat) (q16 : Nat) (q17 : Nat) (q18 : Nat) (q19 : Nat) (q20 : Nat) (q21 : Nat) (q22 : Nat) (pe : Nat) (n : Nat) (la : Int32) (ri : Int32) (td : Int32) (ys : Int32) (ty : Nat) (ap : Nat) (wg : Int32) (rd : Nat) (sm : Int32) (bt : Int32) (up : Int64) (lw : Int64) (ii : Int32) (kd : Nat → Int32) (dy : Nat → Int32) (nd : Nat → Int32) (co : Nat → Int32) (od : Nat → Int32) (wo : Nat → Int32) (tp : Nat → Int32) (rk : Nat → Int32) (ry : Nat → Int32) (rn : Nat → Int32) (vs : Nat → Int32) (bs : Nat → Int32) (ch : Nat → Int32) (tr : Nat → Int32) (en : Nat → Int32) (du : Nat → Int32) (ol : Nat → Int32) (ig : Nat → Int32) (ln : Nat → Int32) (sz : Nat → Int32) (it : Nat → Int64) (mo : Nat → Int64) (what : Int32) (hn : n ≤ 12) : ct l yX7_count cX7_count 2 (some .int) 2 48 D [.ref o, .int what] (wM D o q1 q2 q3 q4 q5 q6 q7 q8 q9 q10 q11 q12 q13 q14 q15 q16 q17 q18 q19 q20 q21 q22 pe n la ri td ys ty ap wg rd sm bt up lw ii kd dy nd co od wo tp rk ry rn vs bs ch tr en du ol ig ln sz it mo) (wM D o q1 q2 q3 q4 q5 q6 q7 q8 q9 q10 q11 q12 q13 q14 q15 q16 q17 q18 q19 q20 q21 q22 pe n la ri td ys ty ap wg rd sm bt up lw ii kd dy nd co od wo tp rk ry rn vs bs ch tr en du ol ig ln sz it mo) (fun _ => False) (some (Value.int (s_X7_count pe n la ri td ys kd nd what))) := by
  obtain ⟨V, hv⟩ : ∃ V, s_X7_count pe n la ri td ys kd nd what = V := ⟨_, rfl⟩
  rw [hv]
  refine ct_intro (own := RX7) (lv := [(0, .ref o), (1, .int what)]) (by decide) rfl (Nat.le_of_ble_eq_true rfl) rfl ?_
  intro p_ e_ s_ m_ below_ meth_ c_ C
  have hv : (if what = (0 : Int32) then nI pe else (if what = (1 : Int32) then nI n else (if what = (2 : Int32) then td + (1 : Int32) else (if what = (3 : Int32) then ys else (if what = (4 : Int32) then s_X7_stands n kd nd ri la else (if what = (5 : Int32) then ri else (if what = (6 : Int32) then la else (-1 : Int32)))))))) = V := hv
  refine r_iln C dX7_count_0 rfl 1 rfl ?_
  by_cases c1 : what = (0 : Int32)
  · rw [if_pos c1] at hv
    refine r_tabIn C (tgt := 44) dX7_count_1 (by rw [c1]; decide) (by rw [c1]; decide) (by rw [c1]; rfl) (by decide) ?_
    refine r_aln C dX7_count_44 rfl 0 rfl ?_
    refine gf_X7_77 C 0 rfl rfl dX7_count_45 ?_
    exact r_iret rfl C (congrArg (fun z => some (Value.int z)) hv) rfl dX7_count_48
  · rw [if_neg c1] at hv
    by_cases c2 : what = (1 : Int32)
    · rw [if_pos c2] at hv
      refine r_tabIn C (tgt := 49) dX7_count_1 (by rw [c2]; decide) (by rw [c2]; decide) (by rw [c2]; rfl) (by decide) ?_
      refine r_aln C dX7_count_49 rfl 0 rfl ?_
      refine gf_X7_84 C 0 rfl rfl dX7_count_50 ?_
      exact r_iret rfl C (congrArg (fun z => some (Value.int z)) hv) rfl dX7_count_53
    · rw [if_neg c2] at hv
      by_cases c3 : what = (2 : Int32)
      · rw [if_pos c3] at hv
        refine r_tabIn C (tgt := 54) dX7_count_1 (by rw [c3]; decide) (by rw [c3]; decide) (by rw [c3]; rfl) (by decide) ?_
        refine r_aln C dX7_count_54 rfl 0 rfl ?_
        refine gf_X7_81 C 0 rfl rfl dX7_count_55 ?_
        refine r_ic C (v := (1 : Int32)) dX7_count_58 (by decide) ?_
        refine r_iadd C dX7_count_59 ?_
        exact r_iret rfl C (congrArg (fun z => some (Value.int z)) hv) rfl dX7_count_60
      · rw [if_neg c3] at hv
        by_cases c4 : what = (3 : Int32)
        · rw [if_pos c4] at hv
          refine r_tabIn C (tgt := 61) dX7_count_1 (by rw [c4]; decide) (by rw [c4]; decide) (by rw [c4]; rfl) (by decide) ?_
          refine r_aln C dX7_count_61 rfl 0 rfl ?_
          refine gf_X7_131 C 0 rfl rfl dX7_count_62 ?_
          exact r_iret rfl C (congrArg (fun z => some (Value.int z)) hv) rfl dX7_count_65
        · rw [if_neg c4] at hv
          by_cases c5 : what = (4 : Int32)
          · rw [if_pos c5] at hv
            refine r_tabIn C (tgt := 66) dX7_count_1 (by rw [c5]; decide) (by rw [c5]; decide) (by rw [c5]; rfl) (by decide) ?_
            refine r_aln C dX7_count_66 rfl 0 rfl ?_
            refine r_aln C dX7_count_67 rfl 0 rfl ?_
            refine gf_X7_113 C 0 rfl rfl dX7_count_68 ?_
            refine r_aln C dX7_count_71 rfl 0 rfl ?_
            refine gf_X7_116 C 0 rfl rfl dX7_count_72 ?_
            refine aft_rd (st' := [.int (s_X7_stands n kd nd ri la)]) (run_V (rest := []) C (c_X7_stands l D o q1 q2 q3 q4 q5 q6 q7 q8 q9 q10 q11 q12 q13 q14 q15 q16 q17 q18 q19 q20 q21 q22 pe n la ri td ys ty ap wg rd sm bt up lw ii kd dy nd co od wo tp rk ry rn vs bs ch tr en du ol ig ln sz it mo ri la (by omega)) ok_X7_stands wn_X7_stands wl_X7_stands wm_X7_119 _ 0 rfl rfl rfl ⟨Nat.le_of_ble_eq_true rfl, Nat.le_of_ble_eq_true rfl⟩ fm_all rfl (Nat.le_of_ble_eq_true rfl) dX7_count_75) rfl ?_
            exact r_iret rfl C (congrArg (fun z => some (Value.int z)) hv) rfl dX7_count_78
          · rw [if_neg c5] at hv
            by_cases c6 : what = (5 : Int32)
            · rw [if_pos c6] at hv
              refine r_tabIn C (tgt := 79) dX7_count_1 (by rw [c6]; decide) (by rw [c6]; decide) (by rw [c6]; rfl) (by decide) ?_
              refine r_aln C dX7_count_79 rfl 0 rfl ?_
              refine gf_X7_113 C 0 rfl rfl dX7_count_80 ?_
              exact r_iret rfl C (congrArg (fun z => some (Value.int z)) hv) rfl dX7_count_83
            · rw [if_neg c6] at hv
              by_cases c7 : what = (6 : Int32)
              · rw [if_pos c7] at hv
                refine r_tabIn C (tgt := 84) dX7_count_1 (by rw [c7]; decide) (by rw [c7]; decide) (by rw [c7]; rfl) (by decide) ?_
                refine r_aln C dX7_count_84 rfl 0 rfl ?_
                refine gf_X7_116 C 0 rfl rfl dX7_count_85 ?_
                exact r_iret rfl C (congrArg (fun z => some (Value.int z)) hv) rfl dX7_count_88
              · rw [if_neg c7] at hv
                have nc1 : what.toInt ≠ 0 := fun z => c1 (i32_eq _ _ 0 (by decide) z)
                have nc2 : what.toInt ≠ 1 := fun z => c2 (i32_eq _ _ 1 (by decide) z)
                have nc3 : what.toInt ≠ 2 := fun z => c3 (i32_eq _ _ 2 (by decide) z)
                have nc4 : what.toInt ≠ 3 := fun z => c4 (i32_eq _ _ 3 (by decide) z)
                have nc5 : what.toInt ≠ 4 := fun z => c5 (i32_eq _ _ 4 (by decide) z)
                have nc6 : what.toInt ≠ 5 := fun z => c6 (i32_eq _ _ 5 (by decide) z)
                have nc7 : what.toInt ≠ 6 := fun z => c7 (i32_eq _ _ 6 (by decide) z)
                refine r_tabOut C (tgt := 89) dX7_count_1 (by omega) (by decide) ?_
                refine r_ic C (v := (-1 : Int32)) dX7_count_89 (by decide) ?_
                exact r_iret rfl C (congrArg (fun z => some (Value.int z)) hv) rfl dX7_count_90

def s_X7_type (ty : Nat) (tp : Nat → Int32) (letter : Int32) : Int32 × Nat × (Nat → Int32) := (if s_X7_in letter.toInt64 (32 : Int64) (126 : Int64) = (0 : Int32) then ((-1 : Int32), ty, tp) else (if nI ty = (80 : Int32) then ((-3 : Int32), ty, tp) else (nI (ty + 1), ty + 1, upd tp ty letter)))
set_option maxHeartbeats 8000000 in
set_option maxRecDepth 100000 in
theorem c_X7_type (l : Launch) (D : va_G) (o : Nat) (q1 : Nat) (q2 : Nat) (q3 : Nat) (q4 : Nat) (q5 : Nat) (q6 : Nat) (q7 : Nat) (q8 : Nat) (q9 : Nat) (q10 : Nat) (q11 : Nat) (q12 : Nat) (q13 : Nat) (q14 : Nat) (q15 : Nat) (q16 : Nat) (q17 : Nat) (q18 : Nat) (q19 : Nat) (q20 : Nat) (q21 : Nat) (q22 : Nat) (pe : Nat) (n : Nat) (la : Int32) (ri : Int32) (td : Int32) (ys : Int32) (ty : Nat) (ap : Nat) (wg : Int32) (rd : Nat) (sm : Int32) (bt : Int32) (up : Int64) (lw : Int64) (ii : Int32) (kd : Nat → Int32) (dy : Nat → Int32) (nd : Nat → Int32) (co : Nat → Int32) (od : Nat → Int32) (wo : Nat → Int32) (tp : Nat → Int32) (rk : Nat → Int32) (ry : Nat → Int32) (rn : Nat → Int32) (vs : Nat → Int32) (bs : Nat → Int32) (ch : Nat → Int32) (tr : Nat → Int32) (en : Nat → Int32) (du : Nat → Int32) (ol : Nat → Int32) (ig : Nat → Int32) (ln : Nat → Int32) (sz : Nat → Int32) (it : Nat → Int64) (mo : Nat → Int64) (letter : Int32) (hty : ty ≤ 80) (h0 : va_D (fun _ => True) (wM D o q1 q2 q3 q4 q5 q6 q7 q8 q9 q10 q11 q12 q13 q14 q15 q16 q17 q18 q19 q20 q21 q22 pe n la ri td ys ty ap wg rd sm bt up lw ii kd dy nd co od wo tp rk ry rn vs bs ch tr en du ol ig ln sz it mo)) : ct l yX7_type cX7_type 2 (some .int) 1 25 D [.ref o, .int letter] (wM D o q1 q2 q3 q4 q5 q6 q7 q8 q9 q10 q11 q12 q13 q14 q15 q16 q17 q18 q19 q20 q21 q22 pe n la ri td ys ty ap wg rd sm bt up lw ii kd dy nd co od wo tp rk ry rn vs bs ch tr en du ol ig ln sz it mo) (wM D o q1 q2 q3 q4 q5 q6 q7 q8 q9 q10 q11 q12 q13 q14 q15 q16 q17 q18 q19 q20 q21 q22 pe n la ri td ys (s_X7_type ty tp letter).2.1 ap wg rd sm bt up lw ii kd dy nd co od wo (s_X7_type ty tp letter).2.2 rk ry rn vs bs ch tr en du ol ig ln sz it mo) (Ad (wM D o q1 q2 q3 q4 q5 q6 q7 q8 q9 q10 q11 q12 q13 q14 q15 q16 q17 q18 q19 q20 q21 q22 pe n la ri td ys ty ap wg rd sm bt up lw ii kd dy nd co od wo tp rk ry rn vs bs ch tr en du ol ig ln sz it mo)) (some (Value.int (s_X7_type ty tp letter).1)) := by
  obtain ⟨V, hv⟩ : ∃ V, s_X7_type ty tp letter = V := ⟨_, rfl⟩
  rw [hv]
  refine ct_intro (own := RX7) (lv := [(0, .ref o), (1, .int letter)]) (by decide) rfl (Nat.le_of_ble_eq_true rfl) rfl ?_
  intro p_ e_ s_ m_ below_ meth_ c_ C
  have hv : (if s_X7_in letter.toInt64 (32 : Int64) (126 : Int64) = (0 : Int32) then ((-1 : Int32), ty, tp) else (if nI ty = (80 : Int32) then ((-3 : Int32), ty, tp) else (nI (ty + 1), ty + 1, upd tp ty letter))) = V := hv
  refine r_iln C dX7_type_0 rfl 1 rfl ?_
  refine r_i2l C dX7_type_1 ?_
  refine r_ldc2 C wc_X7_134 dX7_type_2 ?_
  refine r_ldc2 C wc_X7_136 dX7_type_5 ?_
  refine aft_rd (st' := [.int (s_X7_in letter.toInt64 (32 : Int64) (126 : Int64))]) (run_S (rest := []) C (c_X7_in l D letter.toInt64 (32 : Int64) (126 : Int64) ) ok_X7_in ws_X7_in wm_X7_87 [] rfl ⟨Nat.le_of_ble_eq_true rfl, Nat.le_of_ble_eq_true rfl⟩ rfl rfl (Nat.le_of_ble_eq_true rfl) dX7_type_8) rfl ?_
  refine r_ifne C (tgt := 16) dX7_type_11 (by decide) (fun c1 => ?_) (fun c1 => ?_)
  · rw [if_neg c1] at hv
    refine r_aln C dX7_type_16 rfl 0 rfl ?_
    refine gf_X7_138 C 0 rfl rfl dX7_type_17 ?_
    refine r_bp C (v := (80 : Int32)) dX7_type_20 (by decide) ?_
    refine r_icne C (tgt := 28) dX7_type_22 (by decide) (fun c2 => ?_) (fun c2 => ?_)
    · rw [if_neg c2] at hv
      have fc2 : ¬ (ty = 80) := fun z => c2 ((nv_eq (a := ty) (b := 80) rfl rfl (by omega) (by omega)).mpr z)
      refine r_aln C dX7_type_28 rfl 0 rfl ?_
      refine gf_X7_28 C 0 rfl rfl dX7_type_29 ?_
      refine r_aln C dX7_type_32 rfl 0 rfl ?_
      refine gf_X7_138 C 0 rfl rfl dX7_type_33 ?_
      refine r_iln C dX7_type_36 rfl 1 rfl ?_
      refine r_iast C (ws2 := wM D o q1 q2 q3 q4 q5 q6 q7 q8 q9 q10 q11 q12 q13 q14 q15 q16 q17 q18 q19 q20 q21 q22 pe n la ri td ys ty ap wg rd sm bt up lw ii kd dy nd co od wo (upd tp ty letter) rk ry rn vs bs ch tr en du ol ig ln sz it mo) h0 rfl 7 ty rfl rfl (by omega) (by decide) dX7_type_37 rfl rfl ?_
      refine r_aln C dX7_type_38 rfl 0 rfl ?_
      refine r_dup C dX7_type_39 rfl ?_
      refine gf_X7_138 C 0 rfl rfl dX7_type_40 ?_
      refine r_ic C (v := (1 : Int32)) dX7_type_43 (by decide) ?_
      refine r_iadd C dX7_type_44 ?_
      refine r_top (nv_add rfl rfl) ?_
      refine pf_X7_138 C (ws2 := wM D o q1 q2 q3 q4 q5 q6 q7 q8 q9 q10 q11 q12 q13 q14 q15 q16 q17 q18 q19 q20 q21 q22 pe n la ri td ys (ty + 1) ap wg rd sm bt up lw ii kd dy nd co od wo (upd tp ty letter) rk ry rn vs bs ch tr en du ol ig ln sz it mo) h0 rfl 0 rfl (Nat.le_of_ble_eq_true rfl) dX7_type_45 rfl rfl ?_
      refine r_aln C dX7_type_48 rfl 0 rfl ?_
      refine gf_X7_138 C 0 rfl rfl dX7_type_49 ?_
      exact r_iret rfl C (by rw [← hv]) (by rw [← hv]) dX7_type_52
    · rw [if_pos c2] at hv
      have fc2 : ty = 80 := (nv_eq (a := ty) (b := 80) rfl rfl (by omega) (by omega)).mp c2
      refine r_bp C (v := (-3 : Int32)) dX7_type_25 (by decide) ?_
      exact r_iret rfl C (by rw [← hv]) (by rw [← hv]) dX7_type_27
  · rw [if_pos c1] at hv
    refine r_ic C (v := (-1 : Int32)) dX7_type_14 (by decide) ?_
    exact r_iret rfl C (by rw [← hv]) (by rw [← hv]) dX7_type_15

def s_X7_ofDay_L4 (dy : Nat → Int32) (when0 : Int32) : Nat → Nat → Int32 → Int32
  | 0, _, set_3 => set_3
  | k1 + 1, d2, set_3 => (if dy d2 = when0 then (s_X7_ofDay_L4 dy when0 k1 (d2 + 1) (set_3 ||| ((1 : Int32) <<< ((nI d2) &&& 31)))) else (s_X7_ofDay_L4 dy when0 k1 (d2 + 1) (set_3 ||| (0 : Int32))))
def s_X7_ofDay (n : Nat) (dy : Nat → Int32) (when0 : Int32) : Int32 := (s_X7_ofDay_L4 dy when0 n 0 (0 : Int32))
set_option maxHeartbeats 8000000 in
set_option maxRecDepth 100000 in
theorem c_X7_ofDay (l : Launch) (D : va_G) (o : Nat) (q1 : Nat) (q2 : Nat) (q3 : Nat) (q4 : Nat) (q5 : Nat) (q6 : Nat) (q7 : Nat) (q8 : Nat) (q9 : Nat) (q10 : Nat) (q11 : Nat) (q12 : Nat) (q13 : Nat) (q14 : Nat) (q15 : Nat) (q16 : Nat) (q17 : Nat) (q18 : Nat) (q19 : Nat) (q20 : Nat) (q21 : Nat) (q22 : Nat) (pe : Nat) (n : Nat) (la : Int32) (ri : Int32) (td : Int32) (ys : Int32) (ty : Nat) (ap : Nat) (wg : Int32) (rd : Nat) (sm : Int32) (bt : Int32) (up : Int64) (lw : Int64) (ii : Int32) (kd : Nat → Int32) (dy : Nat → Int32) (nd : Nat → Int32) (co : Nat → Int32) (od : Nat → Int32) (wo : Nat → Int32) (tp : Nat → Int32) (rk : Nat → Int32) (ry : Nat → Int32) (rn : Nat → Int32) (vs : Nat → Int32) (bs : Nat → Int32) (ch : Nat → Int32) (tr : Nat → Int32) (en : Nat → Int32) (du : Nat → Int32) (ol : Nat → Int32) (ig : Nat → Int32) (ln : Nat → Int32) (sz : Nat → Int32) (it : Nat → Int64) (mo : Nat → Int64) (when0 : Int32) (hn : n ≤ 12) : ct l yX7_ofDay cX7_ofDay 4 (some .int) 0 0 D [.ref o, .int when0] (wM D o q1 q2 q3 q4 q5 q6 q7 q8 q9 q10 q11 q12 q13 q14 q15 q16 q17 q18 q19 q20 q21 q22 pe n la ri td ys ty ap wg rd sm bt up lw ii kd dy nd co od wo tp rk ry rn vs bs ch tr en du ol ig ln sz it mo) (wM D o q1 q2 q3 q4 q5 q6 q7 q8 q9 q10 q11 q12 q13 q14 q15 q16 q17 q18 q19 q20 q21 q22 pe n la ri td ys ty ap wg rd sm bt up lw ii kd dy nd co od wo tp rk ry rn vs bs ch tr en du ol ig ln sz it mo) (fun _ => False) (some (Value.int (s_X7_ofDay n dy when0))) := by
  obtain ⟨V, hv⟩ : ∃ V, s_X7_ofDay n dy when0 = V := ⟨_, rfl⟩
  rw [hv]
  refine ct_intro (own := RX7) (lv := [(0, .ref o), (1, .int when0)]) (by decide) rfl (Nat.le_of_ble_eq_true rfl) rfl ?_
  intro p_ e_ s_ m_ below_ meth_ c_ C
  have hv : (s_X7_ofDay_L4 dy when0 n 0 (0 : Int32)) = V := hv
  refine r_ic C (v := (0 : Int32)) dX7_ofDay_0 (by decide) ?_
  refine r_isn C (lv' := [(2, .int (0 : Int32)), (0, .ref o), (1, .int when0)]) dX7_ofDay_1 rfl (by decide) rfl ?_
  refine r_ic C (v := (0 : Int32)) dX7_ofDay_2 (by decide) ?_
  refine r_isn C (lv' := [(3, .int (0 : Int32)), (2, .int (0 : Int32)), (0, .ref o), (1, .int when0)]) dX7_ofDay_3 rfl (by decide) rfl ?_
  have L8 : ∀ (k1 : Nat) (d2 : Nat) (set_3 : Int32), (d2 + k1 = n) → (s_X7_ofDay_L4 dy when0 k1 d2 set_3) = V → GM p_ l e_ s_ m_ below_ meth_ c_ D 0 0 4 [.ref o, .int when0] (wM D o q1 q2 q3 q4 q5 q6 q7 q8 q9 q10 q11 q12 q13 q14 q15 q16 q17 q18 q19 q20 q21 q22 pe n la ri td ys ty ap wg rd sm bt up lw ii kd dy nd co od wo tp rk ry rn vs bs ch tr en du ol ig ln sz it mo) (fun _ => False) (some (Value.int V)) (wM D o q1 q2 q3 q4 q5 q6 q7 q8 q9 q10 q11 q12 q13 q14 q15 q16 q17 q18 q19 q20 q21 q22 pe n la ri td ys ty ap wg rd sm bt up lw ii kd dy nd co od wo tp rk ry rn vs bs ch tr en du ol ig ln sz it mo) 4 [(3, .int (nI d2)), (2, .int set_3), (0, .ref o), (1, .int when0)] [] := by
    intro k1
    induction k1 with
    | zero =>
      intro d2 set_3 hk hv
      have hv : set_3 = V := hv
      refine r_iln C dX7_ofDay_4 rfl 0 rfl ?_
      refine r_aln C dX7_ofDay_5 rfl 2 rfl ?_
      refine gf_X7_84 C 0 rfl rfl dX7_ofDay_6 ?_
      refine r_icge C (tgt := 38) dX7_ofDay_9 (by decide) (fun c4 => ?_) (fun c4 => ?_)
      · skip
        refine r_iln C dX7_ofDay_38 rfl 1 rfl ?_
        exact r_iret rfl C (congrArg (fun z => some (Value.int z)) hv) rfl dX7_ofDay_39
      · exact absurd c4 (fun z => absurd ((nv_lt (a := d2) (b := n) rfl rfl (by omega) (by omega)).mp z) (by omega))
    | succ k1 ih5 =>
      intro d2 set_3 hk hv
      have hv : (if dy d2 = when0 then (s_X7_ofDay_L4 dy when0 k1 (d2 + 1) (set_3 ||| ((1 : Int32) <<< ((nI d2) &&& 31)))) else (s_X7_ofDay_L4 dy when0 k1 (d2 + 1) (set_3 ||| (0 : Int32)))) = V := hv
      refine r_iln C dX7_ofDay_4 rfl 0 rfl ?_
      refine r_aln C dX7_ofDay_5 rfl 2 rfl ?_
      refine gf_X7_84 C 0 rfl rfl dX7_ofDay_6 ?_
      refine r_icge C (tgt := 38) dX7_ofDay_9 (by decide) (fun c6 => ?_) (fun c6 => ?_)
      · exact absurd ((nv_lt (a := d2) (b := n) rfl rfl (by omega) (by omega)).mpr (by omega)) c6
      · skip
        refine r_iln C dX7_ofDay_12 rfl 1 rfl ?_
        refine r_aln C dX7_ofDay_13 rfl 2 rfl ?_
        refine gf_X7_13 C 0 rfl rfl dX7_ofDay_14 ?_
        refine r_iln C dX7_ofDay_17 rfl 0 rfl ?_
        refine r_iald C 2 d2 rfl rfl (by omega) (by decide) rfl dX7_ofDay_18 ?_
        refine r_iln C dX7_ofDay_19 rfl 3 rfl ?_
        refine r_icne C (tgt := 29) dX7_ofDay_20 (by decide) (fun c7 => ?_) (fun c7 => ?_)
        · rw [if_neg c7] at hv
          refine r_ic C (v := (0 : Int32)) dX7_ofDay_29 (by decide) ?_
          refine r_ior C dX7_ofDay_30 ?_
          refine r_isn C (lv' := [(2, .int (set_3 ||| (0 : Int32))), (3, .int (nI d2)), (0, .ref o), (1, .int when0)]) dX7_ofDay_31 rfl (by decide) rfl ?_
          refine r_inc C (v := nI (d2 + 1)) (lv' := [(3, .int (nI (d2 + 1))), (2, .int (set_3 ||| (0 : Int32))), (0, .ref o), (1, .int when0)]) dX7_ofDay_32 1 rfl (inc_nI d2) (by decide) rfl ?_
          refine r_goto C (tgt := 4) dX7_ofDay_35 (by decide) ?_
          exact ih5 (d2 + 1) (set_3 ||| (0 : Int32)) (by omega) hv
        · rw [if_pos c7] at hv
          refine r_ic C (v := (1 : Int32)) dX7_ofDay_23 (by decide) ?_
          refine r_iln C dX7_ofDay_24 rfl 0 rfl ?_
          refine r_ishl C dX7_ofDay_25 ?_
          refine r_goto C (tgt := 30) dX7_ofDay_26 (by decide) ?_
          refine r_ior C dX7_ofDay_30 ?_
          refine r_isn C (lv' := [(2, .int (set_3 ||| ((1 : Int32) <<< ((nI d2) &&& 31)))), (3, .int (nI d2)), (0, .ref o), (1, .int when0)]) dX7_ofDay_31 rfl (by decide) rfl ?_
          refine r_inc C (v := nI (d2 + 1)) (lv' := [(3, .int (nI (d2 + 1))), (2, .int (set_3 ||| ((1 : Int32) <<< ((nI d2) &&& 31)))), (0, .ref o), (1, .int when0)]) dX7_ofDay_32 1 rfl (inc_nI d2) (by decide) rfl ?_
          refine r_goto C (tgt := 4) dX7_ofDay_35 (by decide) ?_
          exact ih5 (d2 + 1) (set_3 ||| ((1 : Int32) <<< ((nI d2) &&& 31))) (by omega) hv
  refine r_lve (lv2 := [(3, .int (nI 0)), (2, .int (0 : Int32)), (0, .ref o), (1, .int when0)]) (congrArg (fun (z : Int32) => ([(3, .int z), (2, .int (0 : Int32)), (0, .ref o), (1, .int when0)] : List (Nat × Value))) rfl) ?_
  exact L8 n 0 (0 : Int32) (by omega) hv

