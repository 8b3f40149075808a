def s_X7_copy_L138 (sb : Int32) (j : Int32) (mo_16 : Nat → Int64) : Nat → Nat → (Nat → Int64) → (Nat → Int64)
  | 0, _, it_20 => it_20
  | k18 + 1, d19, it_20 => (s_X7_copy_L138 sb j mo_16 k18 (d19 + 1) (vp_updL it_20 (((16 * sb.toNatClampNeg) + j.toNatClampNeg) + d19) (mo_16 d19)))
def s_X7_copy_L101 (it : Nat → Int64) (sa : Int32) (i : Int32) : Nat → Nat → (Nat → Int64) → (Nat → Int64)
  | 0, _, mo_16 => mo_16
  | k14 + 1, d15, mo_16 => (s_X7_copy_L101 it sa i k14 (d15 + 1) (vp_updL mo_16 d15 (it (((16 * sa.toNatClampNeg) + i.toNatClampNeg) + d15))))
def s_X7_copy (ln : Nat → Int32) (sz : Nat → Int32) (it : Nat → Int64) (mo : Nat → Int64) (sa : Int32) (i : Int32) (sb : Int32) (j : Int32) (m : Int32) : Int32 × (Nat → Int64) × (Nat → Int64) := (if s_X7_isSheet sa = (0 : Int32) then ((-1 : Int32), it, mo) else (if s_X7_isSheet sb = (0 : Int32) then ((-1 : Int32), it, mo) else (if ln sa.toNatClampNeg < (0 : Int32) then ((-11 : Int32), it, mo) else (if ln sb.toNatClampNeg < (0 : Int32) then ((-11 : Int32), it, mo) else (if ln sa.toNatClampNeg = ln sb.toNatClampNeg then (if m < (0 : Int32) then ((-13 : Int32), it, mo) else (if s_X7_why ln sz sa.toNatClampNeg (ln sa.toNatClampNeg) i m < (0 : Int32) then ((-13 : Int32), it, mo) else (if s_X7_why ln sz sb.toNatClampNeg (ln sb.toNatClampNeg) j m < (0 : Int32) then ((-13 : Int32), it, mo) else (m, (s_X7_copy_L138 sb j (s_X7_copy_L101 it sa i m.toNatClampNeg 0 mo) m.toNatClampNeg 0 it), (s_X7_copy_L101 it sa i m.toNatClampNeg 0 mo))))) else ((-12 : Int32), it, mo))))))
set_option maxHeartbeats 8000000 in
set_option maxRecDepth 100000 in
theorem c_X7_copy (l : Launch) (D : va_G) (o : Nat) (q1 : Nat) (q2 : Nat) (q3 : Nat) (q4 : Nat) (q5 : Nat) (q6 : Nat) (q7 : Nat) (q8 : Nat) (q9 : Nat) (q10 : Nat) (q11 : Nat) (q12 : Nat) (q13 : Nat) (q14 : Nat) (q15 : Nat) (q16 : Nat) (q17 : Nat) (q18 : Nat) (q19 : Nat) (q20 : Nat) (q21 : Nat) (q22 : Nat) (pe : Nat) (n : Nat) (la : Int32) (ri : Int32) (td : Int32) (ys : Int32) (ty : Nat) (ap : Nat) (wg : Int32) (rd : Nat) (sm : Int32) (bt : Int32) (up : Int64) (lw : Int64) (ii : Int32) (kd : Nat → Int32) (dy : Nat → Int32) (nd : Nat → Int32) (co : Nat → Int32) (od : Nat → Int32) (wo : Nat → Int32) (tp : Nat → Int32) (rk : Nat → Int32) (ry : Nat → Int32) (rn : Nat → Int32) (vs : Nat → Int32) (bs : Nat → Int32) (ch : Nat → Int32) (tr : Nat → Int32) (en : Nat → Int32) (du : Nat → Int32) (ol : Nat → Int32) (ig : Nat → Int32) (ln : Nat → Int32) (sz : Nat → Int32) (it : Nat → Int64) (mo : Nat → Int64) (sa : Int32) (i : Int32) (sb : Int32) (j : Int32) (m : Int32) (hz : ∀ j, j < 4 → ∃ z : Nat, z ≤ 16 ∧ sz j = nI z) (h0 : va_D (fun _ => True) (wM D o q1 q2 q3 q4 q5 q6 q7 q8 q9 q10 q11 q12 q13 q14 q15 q16 q17 q18 q19 q20 q21 q22 pe n la ri td ys ty ap wg rd sm bt up lw ii kd dy nd co od wo tp rk ry rn vs bs ch tr en du ol ig ln sz it mo)) : ct l yX7_copy cX7_copy 7 (some .int) 2 45 D [.ref o, .int sa, .int i, .int sb, .int j, .int m] (wM D o q1 q2 q3 q4 q5 q6 q7 q8 q9 q10 q11 q12 q13 q14 q15 q16 q17 q18 q19 q20 q21 q22 pe n la ri td ys ty ap wg rd sm bt up lw ii kd dy nd co od wo tp rk ry rn vs bs ch tr en du ol ig ln sz it mo) (wM D o q1 q2 q3 q4 q5 q6 q7 q8 q9 q10 q11 q12 q13 q14 q15 q16 q17 q18 q19 q20 q21 q22 pe n la ri td ys ty ap wg rd sm bt up lw ii kd dy nd co od wo tp rk ry rn vs bs ch tr en du ol ig ln sz (s_X7_copy ln sz it mo sa i sb j m).2.1 (s_X7_copy ln sz it mo sa i sb j m).2.2) (Ad (wM D o q1 q2 q3 q4 q5 q6 q7 q8 q9 q10 q11 q12 q13 q14 q15 q16 q17 q18 q19 q20 q21 q22 pe n la ri td ys ty ap wg rd sm bt up lw ii kd dy nd co od wo tp rk ry rn vs bs ch tr en du ol ig ln sz it mo)) (some (Value.int (s_X7_copy ln sz it mo sa i sb j m).1)) := by
  obtain ⟨V, hv⟩ : ∃ V, s_X7_copy ln sz it mo sa i sb j m = V := ⟨_, rfl⟩
  rw [hv]
  refine ct_intro (own := RX7) (lv := [(0, .ref o), (1, .int sa), (2, .int i), (3, .int sb), (4, .int j), (5, .int m)]) (by decide) rfl (Nat.le_of_ble_eq_true rfl) rfl ?_
  intro p_ e_ s_ m_ below_ meth_ c_ C
  have hv : (if s_X7_isSheet sa = (0 : Int32) then ((-1 : Int32), it, mo) else (if s_X7_isSheet sb = (0 : Int32) then ((-1 : Int32), it, mo) else (if ln sa.toNatClampNeg < (0 : Int32) then ((-11 : Int32), it, mo) else (if ln sb.toNatClampNeg < (0 : Int32) then ((-11 : Int32), it, mo) else (if ln sa.toNatClampNeg = ln sb.toNatClampNeg then (if m < (0 : Int32) then ((-13 : Int32), it, mo) else (if s_X7_why ln sz sa.toNatClampNeg (ln sa.toNatClampNeg) i m < (0 : Int32) then ((-13 : Int32), it, mo) else (if s_X7_why ln sz sb.toNatClampNeg (ln sb.toNatClampNeg) j m < (0 : Int32) then ((-13 : Int32), it, mo) else (m, (s_X7_copy_L138 sb j (s_X7_copy_L101 it sa i m.toNatClampNeg 0 mo) m.toNatClampNeg 0 it), (s_X7_copy_L101 it sa i m.toNatClampNeg 0 mo))))) else ((-12 : Int32), it, mo)))))) = V := hv
  refine r_iln C dX7_copy_0 rfl 1 rfl ?_
  refine aft_rd (st' := [.int (s_X7_isSheet sa)]) (run_S (rest := []) C (c_X7_isSheet l D sa ) ok_X7_isSheet ws_X7_isSheet wm_X7_228 [] rfl ⟨Nat.le_of_ble_eq_true rfl, Nat.le_of_ble_eq_true rfl⟩ rfl rfl (Nat.le_of_ble_eq_true rfl) dX7_copy_1) rfl ?_
  refine r_ifeq C (tgt := 14) dX7_copy_4 (by decide) (fun c1 => ?_) (fun c1 => ?_)
  · rw [if_pos c1] at hv
    refine r_ic C (v := (-1 : Int32)) dX7_copy_14 (by decide) ?_
    exact r_iret rfl C (by rw [← hv]) (by rw [← hv]) dX7_copy_15
  · rw [if_neg c1] at hv
    have e2 := mSheet_nat c1
    refine r_iln C dX7_copy_7 rfl 3 rfl ?_
    refine aft_rd (st' := [.int (s_X7_isSheet sb)]) (run_S (rest := []) C (c_X7_isSheet l D sb ) ok_X7_isSheet ws_X7_isSheet wm_X7_228 [] rfl ⟨Nat.le_of_ble_eq_true rfl, Nat.le_of_ble_eq_true rfl⟩ rfl rfl (Nat.le_of_ble_eq_true rfl) dX7_copy_8) rfl ?_
    refine r_ifne C (tgt := 16) dX7_copy_11 (by decide) (fun c3 => ?_) (fun c3 => ?_)
    · rw [if_neg c3] at hv
      have e4 := mSheet_nat c3
      refine r_aln C dX7_copy_16 rfl 0 rfl ?_
      refine gf_X7_64 C 0 rfl rfl dX7_copy_17 ?_
      refine r_iln C dX7_copy_20 rfl 1 rfl ?_
      refine r_iald C 19 sa.toNatClampNeg rfl e2.1 (by omega) (by decide) rfl dX7_copy_21 ?_
      refine r_iflt C (tgt := 34) dX7_copy_22 (by decide) (fun c5 => ?_) (fun c5 => ?_)
      · rw [if_pos c5] at hv
        refine r_bp C (v := (-11 : Int32)) dX7_copy_34 (by decide) ?_
        exact r_iret rfl C (by rw [← hv]) (by rw [← hv]) dX7_copy_36
      · rw [if_neg c5] at hv
        refine r_aln C dX7_copy_25 rfl 0 rfl ?_
        refine gf_X7_64 C 0 rfl rfl dX7_copy_26 ?_
        refine r_iln C dX7_copy_29 rfl 3 rfl ?_
        refine r_iald C 19 sb.toNatClampNeg rfl e4.1 (by omega) (by decide) rfl dX7_copy_30 ?_
        refine r_ifge C (tgt := 37) dX7_copy_31 (by decide) (fun c6 => ?_) (fun c6 => ?_)
        · rw [if_neg c6] at hv
          refine r_aln C dX7_copy_37 rfl 0 rfl ?_
          refine gf_X7_64 C 0 rfl rfl dX7_copy_38 ?_
          refine r_iln C dX7_copy_41 rfl 1 rfl ?_
          refine r_iald C 19 sa.toNatClampNeg rfl e2.1 (by omega) (by decide) rfl dX7_copy_42 ?_
          refine r_aln C dX7_copy_43 rfl 0 rfl ?_
          refine gf_X7_64 C 0 rfl rfl dX7_copy_44 ?_
          refine r_iln C dX7_copy_47 rfl 3 rfl ?_
          refine r_iald C 19 sb.toNatClampNeg rfl e4.1 (by omega) (by decide) rfl dX7_copy_48 ?_
          refine r_iceq C (tgt := 55) dX7_copy_49 (by decide) (fun c7 => ?_) (fun c7 => ?_)
          · rw [if_pos c7] at hv
            refine r_il C dX7_copy_55 5 rfl ?_
            refine r_iflt C (tgt := 95) dX7_copy_57 (by decide) (fun c8 => ?_) (fun c8 => ?_)
            · rw [if_pos c8] at hv
              refine r_bp C (v := (-13 : Int32)) dX7_copy_95 (by decide) ?_
              exact r_iret rfl C (by rw [← hv]) (by rw [← hv]) dX7_copy_97
            · rw [if_neg c8] at hv
              have e9 := nn1 c8
              refine r_aln C dX7_copy_60 rfl 0 rfl ?_
              refine r_iln C dX7_copy_61 rfl 1 rfl ?_
              refine r_aln C dX7_copy_62 rfl 0 rfl ?_
              refine gf_X7_64 C 0 rfl rfl dX7_copy_63 ?_
              refine r_iln C dX7_copy_66 rfl 1 rfl ?_
              refine r_iald C 19 sa.toNatClampNeg rfl e2.1 (by omega) (by decide) rfl dX7_copy_67 ?_
              refine r_iln C dX7_copy_68 rfl 2 rfl ?_
              refine r_il C dX7_copy_69 5 rfl ?_
              refine r_stk (st2 := [.int m, .int i, .int (ln sa.toNatClampNeg), .int (nI sa.toNatClampNeg), .ref o]) (congrArg (fun (z : Int32) => ([.int m, .int i, .int (ln sa.toNatClampNeg), .int z, .ref o] : List Value)) e2.1) ?_
              refine aft_rd (st' := [.int (s_X7_why ln sz sa.toNatClampNeg (ln sa.toNatClampNeg) i m)]) (run_V (rest := []) C (c_X7_why l D o q1 q2 q3 q4 q5 q6 q7 q8 q9 q10 q11 q12 q13 q14 q15 q16 q17 q18 q19 q20 q21 q22 pe n la ri td ys ty ap wg rd sm bt up lw ii kd dy nd co od wo tp rk ry rn vs bs ch tr en du ol ig ln sz it mo sa.toNatClampNeg (ln sa.toNatClampNeg) i m (by omega)) ok_X7_why wn_X7_why wl_X7_why wm_X7_234 _ 0 rfl rfl rfl ⟨Nat.le_of_ble_eq_true rfl, Nat.le_of_ble_eq_true rfl⟩ fm_all rfl (Nat.le_of_ble_eq_true rfl) dX7_copy_71) rfl ?_
              refine r_iflt C (tgt := 95) dX7_copy_74 (by decide) (fun c10 => ?_) (fun c10 => ?_)
              · rw [if_pos c10] at hv
                refine r_bp C (v := (-13 : Int32)) dX7_copy_95 (by decide) ?_
                exact r_iret rfl C (by rw [← hv]) (by rw [← hv]) dX7_copy_97
              · rw [if_neg c10] at hv
                have e11 := mwhy_i (mn := m.toNatClampNeg) (nn1 (by assumption)).1 (by omega) hz (by omega) c10
                refine r_aln C dX7_copy_77 rfl 0 rfl ?_
                refine r_iln C dX7_copy_78 rfl 3 rfl ?_
                refine r_aln C dX7_copy_79 rfl 0 rfl ?_
                refine gf_X7_64 C 0 rfl rfl dX7_copy_80 ?_
                refine r_iln C dX7_copy_83 rfl 3 rfl ?_
                refine r_iald C 19 sb.toNatClampNeg rfl e4.1 (by omega) (by decide) rfl dX7_copy_84 ?_
                refine r_il C dX7_copy_85 4 rfl ?_
                refine r_il C dX7_copy_87 5 rfl ?_
                refine r_stk (st2 := [.int m, .int j, .int (ln sb.toNatClampNeg), .int (nI sb.toNatClampNeg), .ref o]) (congrArg (fun (z : Int32) => ([.int m, .int j, .int (ln sb.toNatClampNeg), .int z, .ref o] : List Value)) e4.1) ?_
                refine aft_rd (st' := [.int (s_X7_why ln sz sb.toNatClampNeg (ln sb.toNatClampNeg) j m)]) (run_V (rest := []) C (c_X7_why l D o q1 q2 q3 q4 q5 q6 q7 q8 q9 q10 q11 q12 q13 q14 q15 q16 q17 q18 q19 q20 q21 q22 pe n la ri td ys ty ap wg rd sm bt up lw ii kd dy nd co od wo tp rk ry rn vs bs ch tr en du ol ig ln sz it mo sb.toNatClampNeg (ln sb.toNatClampNeg) j m (by omega)) ok_X7_why wn_X7_why wl_X7_why wm_X7_234 _ 0 rfl rfl rfl ⟨Nat.le_of_ble_eq_true rfl, Nat.le_of_ble_eq_true rfl⟩ fm_all rfl (Nat.le_of_ble_eq_true rfl) dX7_copy_89) rfl ?_
                refine r_ifge C (tgt := 98) dX7_copy_92 (by decide) (fun c12 => ?_) (fun c12 => ?_)
                · rw [if_neg c12] at hv
                  have e13 := mwhy_i (mn := m.toNatClampNeg) (nn1 (by assumption)).1 (by omega) hz (by omega) c12
                  refine r_ic C (v := (0 : Int32)) dX7_copy_98 (by decide) ?_
                  refine r_is C (lv' := [(6, .int (0 : Int32)), (0, .ref o), (1, .int sa), (2, .int i), (3, .int sb), (4, .int j), (5, .int m)]) dX7_copy_99 (by decide) rfl ?_
                  have L27 : ∀ (k14 : Nat) (d15 : Nat) (mo_16 : Nat → Int64), (d15 + k14 = m.toNatClampNeg) → (m, (s_X7_copy_L138 sb j (s_X7_copy_L101 it sa i k14 d15 mo_16) m.toNatClampNeg 0 it), (s_X7_copy_L101 it sa i k14 d15 mo_16)) = V → GM p_ l e_ s_ m_ below_ meth_ c_ D 2 45 7 [.ref o, .int sa, .int i, .int sb, .int j, .int m] (wM D o q1 q2 q3 q4 q5 q6 q7 q8 q9 q10 q11 q12 q13 q14 q15 q16 q17 q18 q19 q20 q21 q22 pe n la ri td ys ty ap wg rd sm bt up lw ii kd dy nd co od wo tp rk ry rn vs bs ch tr en du ol ig ln sz V.2.1 V.2.2) (Ad (wM D o q1 q2 q3 q4 q5 q6 q7 q8 q9 q10 q11 q12 q13 q14 q15 q16 q17 q18 q19 q20 q21 q22 pe n la ri td ys ty ap wg rd sm bt up lw ii kd dy nd co od wo tp rk ry rn vs bs ch tr en du ol ig ln sz it mo)) (some (Value.int V.1)) (wM D o q1 q2 q3 q4 q5 q6 q7 q8 q9 q10 q11 q12 q13 q14 q15 q16 q17 q18 q19 q20 q21 q22 pe n la ri td ys ty ap wg rd sm bt up lw ii kd dy nd co od wo tp rk ry rn vs bs ch tr en du ol ig ln sz it mo_16) 101 [(6, .int (nI d15)), (0, .ref o), (1, .int sa), (2, .int i), (3, .int sb), (4, .int j), (5, .int m)] [] := by
                    intro k14
                    induction k14 with
                    | zero =>
                      intro d15 mo_16 hk hv
                      have hv : (m, (s_X7_copy_L138 sb j mo_16 m.toNatClampNeg 0 it), mo_16) = V := hv
                      refine r_il C dX7_copy_101 0 rfl ?_
                      refine r_il C dX7_copy_103 6 rfl ?_
                      refine r_icge C (tgt := 135) dX7_copy_105 (by decide) (fun c17 => ?_) (fun c17 => ?_)
                      · skip
                        refine r_ic C (v := (0 : Int32)) dX7_copy_135 (by decide) ?_
                        refine r_is C (lv' := [(6, .int (0 : Int32)), (0, .ref o), (1, .int sa), (2, .int i), (3, .int sb), (4, .int j), (5, .int m)]) dX7_copy_136 (by decide) rfl ?_
                        have L24 : ∀ (k18 : Nat) (d19 : Nat) (it_20 : Nat → Int64), (d19 + k18 = m.toNatClampNeg) → (m, (s_X7_copy_L138 sb j mo_16 k18 d19 it_20), mo_16) = V → GM p_ l e_ s_ m_ below_ meth_ c_ D 2 45 7 [.ref o, .int sa, .int i, .int sb, .int j, .int m] (wM D o q1 q2 q3 q4 q5 q6 q7 q8 q9 q10 q11 q12 q13 q14 q15 q16 q17 q18 q19 q20 q21 q22 pe n la ri td ys ty ap wg rd sm bt up lw ii kd dy nd co od wo tp rk ry rn vs bs ch tr en du ol ig ln sz V.2.1 V.2.2) (Ad (wM D o q1 q2 q3 q4 q5 q6 q7 q8 q9 q10 q11 q12 q13 q14 q15 q16 q17 q18 q19 q20 q21 q22 pe n la ri td ys ty ap wg rd sm bt up lw ii kd dy nd co od wo tp rk ry rn vs bs ch tr en du ol ig ln sz it mo)) (some (Value.int V.1)) (wM D o q1 q2 q3 q4 q5 q6 q7 q8 q9 q10 q11 q12 q13 q14 q15 q16 q17 q18 q19 q20 q21 q22 pe n la ri td ys ty ap wg rd sm bt up lw ii kd dy nd co od wo tp rk ry rn vs bs ch tr en du ol ig ln sz it_20 mo_16) 138 [(6, .int (nI d19)), (0, .ref o), (1, .int sa), (2, .int i), (3, .int sb), (4, .int j), (5, .int m)] [] := by
                          intro k18
                          induction k18 with
                          | zero =>
                            intro d19 it_20 hk hv
                            have hv : (m, it_20, mo_16) = V := hv
                            refine r_il C dX7_copy_138 0 rfl ?_
                            refine r_il C dX7_copy_140 6 rfl ?_
                            refine r_icge C (tgt := 173) dX7_copy_142 (by decide) (fun c21 => ?_) (fun c21 => ?_)
                            · skip
                              refine r_il C dX7_copy_173 6 rfl ?_
                              exact r_iret rfl C (by rw [← hv]) (by rw [← hv]) dX7_copy_175
                            · exact absurd c21 (fun z => absurd ((nv_lt (a := d19) (b := m.toNatClampNeg) rfl e9.1 (by omega) (by omega)).mp z) (by omega))
                          | succ k18 ih22 =>
                            intro d19 it_20 hk hv
                            have hv : (m, (s_X7_copy_L138 sb j mo_16 k18 (d19 + 1) (vp_updL it_20 (((16 * sb.toNatClampNeg) + j.toNatClampNeg) + d19) (mo_16 d19))), mo_16) = V := hv
                            refine r_il C dX7_copy_138 0 rfl ?_
                            refine r_il C dX7_copy_140 6 rfl ?_
                            refine r_icge C (tgt := 173) dX7_copy_142 (by decide) (fun c23 => ?_) (fun c23 => ?_)
                            · exact absurd ((nv_lt (a := d19) (b := m.toNatClampNeg) rfl e9.1 (by omega) (by omega)).mpr (by omega)) c23
                            · skip
                              refine r_aln C dX7_copy_145 rfl 1 rfl ?_
                              refine gf_X7_70 C 0 rfl rfl dX7_copy_146 ?_
                              refine r_bp C (v := (16 : Int32)) dX7_copy_149 (by decide) ?_
                              refine r_iln C dX7_copy_151 rfl 4 rfl ?_
                              refine r_imul C dX7_copy_152 ?_
                              refine r_il C dX7_copy_153 5 rfl ?_
                              refine r_iadd C dX7_copy_155 ?_
                              refine r_il C dX7_copy_156 0 rfl ?_
                              refine r_iadd C dX7_copy_158 ?_
                              refine r_aln C dX7_copy_159 rfl 1 rfl ?_
                              refine gf_X7_74 C 0 rfl rfl dX7_copy_160 ?_
                              refine r_il C dX7_copy_163 0 rfl ?_
                              refine r_lald C 22 d19 rfl rfl (by omega) (by decide) rfl dX7_copy_165 ?_
                              refine r_last C (ws2 := wM D o q1 q2 q3 q4 q5 q6 q7 q8 q9 q10 q11 q12 q13 q14 q15 q16 q17 q18 q19 q20 q21 q22 pe n la ri td ys ty ap wg rd sm bt up lw ii kd dy nd co od wo tp rk ry rn vs bs ch tr en du ol ig ln sz (vp_updL it_20 (((16 * sb.toNatClampNeg) + j.toNatClampNeg) + d19) (mo_16 d19)) mo_16) h0 rfl 21 (((16 * sb.toNatClampNeg) + j.toNatClampNeg) + d19) rfl (nv_add (nv_add (nv_mul rfl e4.1) e13.1) rfl) (by omega) (by decide) dX7_copy_166 rfl rfl ?_
                              refine r_inc C (v := nI (d19 + 1)) (lv' := [(6, .int (nI (d19 + 1))), (0, .ref o), (1, .int sa), (2, .int i), (3, .int sb), (4, .int j), (5, .int m)]) dX7_copy_167 0 rfl (inc_nI d19) (by decide) rfl ?_
                              refine r_goto C (tgt := 138) dX7_copy_170 (by decide) ?_
                              exact ih22 (d19 + 1) (vp_updL it_20 (((16 * sb.toNatClampNeg) + j.toNatClampNeg) + d19) (mo_16 d19)) (by omega) hv
                        refine r_lve (lv2 := [(6, .int (nI 0)), (0, .ref o), (1, .int sa), (2, .int i), (3, .int sb), (4, .int j), (5, .int m)]) (congrArg (fun (z : Int32) => ([(6, .int z), (0, .ref o), (1, .int sa), (2, .int i), (3, .int sb), (4, .int j), (5, .int m)] : List (Nat × Value))) rfl) ?_
                        exact L24 m.toNatClampNeg 0 it (by omega) hv
                      · exact absurd c17 (fun z => absurd ((nv_lt (a := d15) (b := m.toNatClampNeg) rfl e9.1 (by omega) (by omega)).mp z) (by omega))
                    | succ k14 ih25 =>
                      intro d15 mo_16 hk hv
                      have hv : (m, (s_X7_copy_L138 sb j (s_X7_copy_L101 it sa i k14 (d15 + 1) (vp_updL mo_16 d15 (it (((16 * sa.toNatClampNeg) + i.toNatClampNeg) + d15)))) m.toNatClampNeg 0 it), (s_X7_copy_L101 it sa i k14 (d15 + 1) (vp_updL mo_16 d15 (it (((16 * sa.toNatClampNeg) + i.toNatClampNeg) + d15))))) = V := hv
                      refine r_il C dX7_copy_101 0 rfl ?_
                      refine r_il C dX7_copy_103 6 rfl ?_
                      refine r_icge C (tgt := 135) dX7_copy_105 (by decide) (fun c26 => ?_) (fun c26 => ?_)
                      · exact absurd ((nv_lt (a := d15) (b := m.toNatClampNeg) rfl e9.1 (by omega) (by omega)).mpr (by omega)) c26
                      · skip
                        refine r_aln C dX7_copy_108 rfl 1 rfl ?_
                        refine gf_X7_74 C 0 rfl rfl dX7_copy_109 ?_
                        refine r_il C dX7_copy_112 0 rfl ?_
                        refine r_aln C dX7_copy_114 rfl 1 rfl ?_
                        refine gf_X7_70 C 0 rfl rfl dX7_copy_115 ?_
                        refine r_bp C (v := (16 : Int32)) dX7_copy_118 (by decide) ?_
                        refine r_iln C dX7_copy_120 rfl 2 rfl ?_
                        refine r_imul C dX7_copy_121 ?_
                        refine r_iln C dX7_copy_122 rfl 3 rfl ?_
                        refine r_iadd C dX7_copy_123 ?_
                        refine r_il C dX7_copy_124 0 rfl ?_
                        refine r_iadd C dX7_copy_126 ?_
                        refine r_lald C 21 (((16 * sa.toNatClampNeg) + i.toNatClampNeg) + d15) rfl (nv_add (nv_add (nv_mul rfl e2.1) e11.1) rfl) (by omega) (by decide) rfl dX7_copy_127 ?_
                        refine r_last C (ws2 := wM D o q1 q2 q3 q4 q5 q6 q7 q8 q9 q10 q11 q12 q13 q14 q15 q16 q17 q18 q19 q20 q21 q22 pe n la ri td ys ty ap wg rd sm bt up lw ii kd dy nd co od wo tp rk ry rn vs bs ch tr en du ol ig ln sz it (vp_updL mo_16 d15 (it (((16 * sa.toNatClampNeg) + i.toNatClampNeg) + d15)))) h0 rfl 22 d15 rfl rfl (by omega) (by decide) dX7_copy_128 rfl rfl ?_
                        refine r_inc C (v := nI (d15 + 1)) (lv' := [(6, .int (nI (d15 + 1))), (0, .ref o), (1, .int sa), (2, .int i), (3, .int sb), (4, .int j), (5, .int m)]) dX7_copy_129 0 rfl (inc_nI d15) (by decide) rfl ?_
                        refine r_goto C (tgt := 101) dX7_copy_132 (by decide) ?_
                        exact ih25 (d15 + 1) (vp_updL mo_16 d15 (it (((16 * sa.toNatClampNeg) + i.toNatClampNeg) + d15))) (by omega) hv
                  refine r_lve (lv2 := [(6, .int (nI 0)), (0, .ref o), (1, .int sa), (2, .int i), (3, .int sb), (4, .int j), (5, .int m)]) (congrArg (fun (z : Int32) => ([(6, .int z), (0, .ref o), (1, .int sa), (2, .int i), (3, .int sb), (4, .int j), (5, .int m)] : List (Nat × Value))) rfl) ?_
                  exact L27 m.toNatClampNeg 0 mo (by omega) hv
                · rw [if_pos c12] at hv
                  refine r_bp C (v := (-13 : Int32)) dX7_copy_95 (by decide) ?_
                  exact r_iret rfl C (by rw [← hv]) (by rw [← hv]) dX7_copy_97
          · rw [if_neg c7] at hv
            refine r_bp C (v := (-12 : Int32)) dX7_copy_52 (by decide) ?_
            exact r_iret rfl C (by rw [← hv]) (by rw [← hv]) dX7_copy_54
        · rw [if_pos c6] at hv
          refine r_bp C (v := (-11 : Int32)) dX7_copy_34 (by decide) ?_
          exact r_iret rfl C (by rw [← hv]) (by rw [← hv]) dX7_copy_36
    · rw [if_pos c3] at hv
      refine r_ic C (v := (-1 : Int32)) dX7_copy_14 (by decide) ?_
      exact r_iret rfl C (by rw [← hv]) (by rw [← hv]) dX7_copy_15

