def s_X7_owes_L141 (pe : Nat) (co : Nat → Int32) (wo : Nat → Int32) (d6 : Nat) (many_13 : Int32) : Nat → Nat → (Nat → Int32) → Int32 → (Nat → Int32) × Int32
  | 0, _, du_19, rest_20 => (du_19, rest_20)
  | k17 + 1, d18, du_19, rest_20 => (if nI d18 = nI ((s_X7_bearer pe wo d6).toNatClampNeg) then (s_X7_owes_L141 pe co wo d6 many_13 k17 (d18 + 1) du_19 rest_20) else (if wo ((4 * d6) + d18) < (0 : Int32) then (s_X7_owes_L141 pe co wo d6 many_13 k17 (d18 + 1) (upd du_19 d18 ((du_19 d18) + (((co d6) / many_13) + rest_20))) (0 : Int32)) else (s_X7_owes_L141 pe co wo d6 many_13 k17 (d18 + 1) du_19 rest_20)))
def s_X7_owes_L41 (pe : Nat) (wo : Nat → Int32) (d6 : Nat) : Nat → Nat → Int32 → Int32
  | 0, _, many_13 => many_13
  | k11 + 1, d12, many_13 => (if nI d12 = nI ((s_X7_bearer pe wo d6).toNatClampNeg) then (s_X7_owes_L41 pe wo d6 k11 (d12 + 1) (many_13 + (0 : Int32))) else (if wo ((4 * d6) + d12) < (0 : Int32) then (s_X7_owes_L41 pe wo d6 k11 (d12 + 1) (many_13 + (1 : Int32))) else (s_X7_owes_L41 pe wo d6 k11 (d12 + 1) (many_13 + (0 : Int32)))))
def s_X7_owes_L22 (pe : Nat) (ri : Int32) (co : Nat → Int32) (wo : Nat → Int32) : Nat → Nat → (Nat → Int32) → (Nat → Int32)
  | 0, _, du_7 => du_7
  | k5 + 1, d6, du_7 => (if (ri >>> ((nI d6) &&& 31)) &&& (1 : Int32) = (1 : Int32) then (if (0 : Int32) < (s_X7_owes_L41 pe wo d6 pe 0 (0 : Int32)) then (s_X7_owes_L22 pe ri co wo k5 (d6 + 1) ((s_X7_owes_L141 pe co wo d6 (s_X7_owes_L41 pe wo d6 pe 0 (0 : Int32)) pe 0 (upd du_7 ((s_X7_bearer pe wo d6).toNatClampNeg) ((du_7 ((s_X7_bearer pe wo d6).toNatClampNeg)) - (co d6))) ((co d6) - (((co d6) / (s_X7_owes_L41 pe wo d6 pe 0 (0 : Int32))) * (s_X7_owes_L41 pe wo d6 pe 0 (0 : Int32))))).1)) else (s_X7_owes_L22 pe ri co wo k5 (d6 + 1) du_7)) else (s_X7_owes_L22 pe ri co wo k5 (d6 + 1) du_7))
def s_X7_owes_L2  : Nat → Nat → (Nat → Int32) → (Nat → Int32)
  | 0, _, du_3 => du_3
  | k1 + 1, d2, du_3 => (s_X7_owes_L2  k1 (d2 + 1) (upd du_3 d2 (0 : Int32)))
def s_X7_owes (pe : Nat) (n : Nat) (ri : Int32) (co : Nat → Int32) (wo : Nat → Int32) (du : Nat → Int32) : (Nat → Int32) := (s_X7_owes_L22 pe ri co wo n 0 (s_X7_owes_L2  4 0 du))
set_option maxHeartbeats 8000000 in
set_option maxRecDepth 100000 in
theorem c_X7_owes (l : Launch) (D : va_G) (o : Nat) (q1 : Nat) (q2 : Nat) (q3 : Nat) (q4 : Nat) (q5 : Nat) (q6 : Nat) (q7 : Nat) (q8 : Nat) (q9 : Nat) (q10 : Nat) (q11 : Nat) (q12 : Nat) (q13 : Nat) (q14 : Nat) (q15 : Nat) (q16 : Nat) (q17 : Nat) (q18 : Nat) (q19 : Nat) (q20 : Nat) (q21 : Nat) (q22 : Nat) (pe : Nat) (n : Nat) (la : Int32) (ri : Int32) (td : Int32) (ys : Int32) (ty : Nat) (ap : Nat) (wg : Int32) (rd : Nat) (sm : Int32) (bt : Int32) (up : Int64) (lw : Int64) (ii : Int32) (kd : Nat → Int32) (dy : Nat → Int32) (nd : Nat → Int32) (co : Nat → Int32) (od : Nat → Int32) (wo : Nat → Int32) (tp : Nat → Int32) (rk : Nat → Int32) (ry : Nat → Int32) (rn : Nat → Int32) (vs : Nat → Int32) (bs : Nat → Int32) (ch : Nat → Int32) (tr : Nat → Int32) (en : Nat → Int32) (du : Nat → Int32) (ol : Nat → Int32) (ig : Nat → Int32) (ln : Nat → Int32) (sz : Nat → Int32) (it : Nat → Int64) (mo : Nat → Int64) (hn : n ≤ 12) (hp : 1 ≤ pe ∧ pe ≤ 4) (h0 : va_D (fun _ => True) (wM D o q1 q2 q3 q4 q5 q6 q7 q8 q9 q10 q11 q12 q13 q14 q15 q16 q17 q18 q19 q20 q21 q22 pe n la ri td ys ty ap wg rd sm bt up lw ii kd dy nd co od wo tp rk ry rn vs bs ch tr en du ol ig ln sz it mo)) : ct l yX7_owes cX7_owes 7 none 1 24 D [.ref o] (wM D o q1 q2 q3 q4 q5 q6 q7 q8 q9 q10 q11 q12 q13 q14 q15 q16 q17 q18 q19 q20 q21 q22 pe n la ri td ys ty ap wg rd sm bt up lw ii kd dy nd co od wo tp rk ry rn vs bs ch tr en du ol ig ln sz it mo) (wM D o q1 q2 q3 q4 q5 q6 q7 q8 q9 q10 q11 q12 q13 q14 q15 q16 q17 q18 q19 q20 q21 q22 pe n la ri td ys ty ap wg rd sm bt up lw ii kd dy nd co od wo tp rk ry rn vs bs ch tr en (s_X7_owes pe n ri co wo du) ol ig ln sz it mo) (Ad (wM D o q1 q2 q3 q4 q5 q6 q7 q8 q9 q10 q11 q12 q13 q14 q15 q16 q17 q18 q19 q20 q21 q22 pe n la ri td ys ty ap wg rd sm bt up lw ii kd dy nd co od wo tp rk ry rn vs bs ch tr en du ol ig ln sz it mo)) (none) := by
  obtain ⟨V, hv⟩ : ∃ V, s_X7_owes pe n ri co wo du = V := ⟨_, rfl⟩
  rw [hv]
  refine ct_intro (own := RX7) (lv := [(0, .ref o)]) (by decide) rfl (Nat.le_of_ble_eq_true rfl) rfl ?_
  intro p_ e_ s_ m_ below_ meth_ c_ C
  have hv : (s_X7_owes_L22 pe ri co wo n 0 (s_X7_owes_L2  4 0 du)) = V := hv
  refine r_ic C (v := (0 : Int32)) dX7_owes_0 (by decide) ?_
  refine r_isn C (lv' := [(1, .int (0 : Int32)), (0, .ref o)]) dX7_owes_1 rfl (by decide) rfl ?_
  have L35 : ∀ (k1 : Nat) (d2 : Nat) (du_3 : Nat → Int32), (d2 + k1 = 4) → (s_X7_owes_L22 pe ri co wo n 0 (s_X7_owes_L2  k1 d2 du_3)) = V → GM p_ l e_ s_ m_ below_ meth_ c_ D 1 24 7 [.ref o] (wM D o q1 q2 q3 q4 q5 q6 q7 q8 q9 q10 q11 q12 q13 q14 q15 q16 q17 q18 q19 q20 q21 q22 pe n la ri td ys ty ap wg rd sm bt up lw ii kd dy nd co od wo tp rk ry rn vs bs ch tr en V ol ig ln sz it mo) (Ad (wM D o q1 q2 q3 q4 q5 q6 q7 q8 q9 q10 q11 q12 q13 q14 q15 q16 q17 q18 q19 q20 q21 q22 pe n la ri td ys ty ap wg rd sm bt up lw ii kd dy nd co od wo tp rk ry rn vs bs ch tr en du ol ig ln sz it mo)) (none) (wM D o q1 q2 q3 q4 q5 q6 q7 q8 q9 q10 q11 q12 q13 q14 q15 q16 q17 q18 q19 q20 q21 q22 pe n la ri td ys ty ap wg rd sm bt up lw ii kd dy nd co od wo tp rk ry rn vs bs ch tr en du_3 ol ig ln sz it mo) 2 [(1, .int (nI d2)), (0, .ref o)] [] := by
    intro k1
    induction k1 with
    | zero =>
      intro d2 du_3 hk hv
      have hv : (s_X7_owes_L22 pe ri co wo n 0 du_3) = V := hv
      refine r_iln C dX7_owes_2 rfl 0 rfl ?_
      refine r_ic C (v := (4 : Int32)) dX7_owes_3 (by decide) ?_
      refine r_icge C (tgt := 20) dX7_owes_4 (by decide) (fun c4 => ?_) (fun c4 => ?_)
      · skip
        refine r_ic C (v := (0 : Int32)) dX7_owes_20 (by decide) ?_
        refine r_isn C (lv' := [(1, .int (0 : Int32)), (0, .ref o)]) dX7_owes_21 rfl (by decide) rfl ?_
        have L32 : ∀ (k5 : Nat) (d6 : Nat) (du_7 : Nat → Int32), (d6 + k5 = n) → (s_X7_owes_L22 pe ri co wo k5 d6 du_7) = V → GM p_ l e_ s_ m_ below_ meth_ c_ D 1 24 7 [.ref o] (wM D o q1 q2 q3 q4 q5 q6 q7 q8 q9 q10 q11 q12 q13 q14 q15 q16 q17 q18 q19 q20 q21 q22 pe n la ri td ys ty ap wg rd sm bt up lw ii kd dy nd co od wo tp rk ry rn vs bs ch tr en V ol ig ln sz it mo) (Ad (wM D o q1 q2 q3 q4 q5 q6 q7 q8 q9 q10 q11 q12 q13 q14 q15 q16 q17 q18 q19 q20 q21 q22 pe n la ri td ys ty ap wg rd sm bt up lw ii kd dy nd co od wo tp rk ry rn vs bs ch tr en du ol ig ln sz it mo)) (none) (wM D o q1 q2 q3 q4 q5 q6 q7 q8 q9 q10 q11 q12 q13 q14 q15 q16 q17 q18 q19 q20 q21 q22 pe n la ri td ys ty ap wg rd sm bt up lw ii kd dy nd co od wo tp rk ry rn vs bs ch tr en du_7 ol ig ln sz it mo) 22 [(1, .int (nI d6)), (0, .ref o)] [] := by
          intro k5
          induction k5 with
          | zero =>
            intro d6 du_7 hk hv
            have hv : du_7 = V := hv
            refine r_iln C dX7_owes_22 rfl 0 rfl ?_
            refine r_aln C dX7_owes_23 rfl 1 rfl ?_
            refine gf_X7_84 C 0 rfl rfl dX7_owes_24 ?_
            refine r_icge C (tgt := 200) dX7_owes_27 (by decide) (fun c8 => ?_) (fun c8 => ?_)
            · skip
              exact r_vret rfl C (by rw [← hv]) dX7_owes_200
            · exact absurd c8 (fun z => absurd ((nv_lt (a := d6) (b := n) rfl rfl (by omega) (by omega)).mp z) (by omega))
          | succ k5 ih9 =>
            intro d6 du_7 hk hv
            have hv : (if (ri >>> ((nI d6) &&& 31)) &&& (1 : Int32) = (1 : Int32) then (if (0 : Int32) < (s_X7_owes_L41 pe wo d6 pe 0 (0 : Int32)) then (s_X7_owes_L22 pe ri co wo k5 (d6 + 1) ((s_X7_owes_L141 pe co wo d6 (s_X7_owes_L41 pe wo d6 pe 0 (0 : Int32)) pe 0 (upd du_7 ((s_X7_bearer pe wo d6).toNatClampNeg) ((du_7 ((s_X7_bearer pe wo d6).toNatClampNeg)) - (co d6))) ((co d6) - (((co d6) / (s_X7_owes_L41 pe wo d6 pe 0 (0 : Int32))) * (s_X7_owes_L41 pe wo d6 pe 0 (0 : Int32))))).1)) else (s_X7_owes_L22 pe ri co wo k5 (d6 + 1) du_7)) else (s_X7_owes_L22 pe ri co wo k5 (d6 + 1) du_7)) = V := hv
            refine r_iln C dX7_owes_22 rfl 0 rfl ?_
            refine r_aln C dX7_owes_23 rfl 1 rfl ?_
            refine gf_X7_84 C 0 rfl rfl dX7_owes_24 ?_
            refine r_icge C (tgt := 200) dX7_owes_27 (by decide) (fun c10 => ?_) (fun c10 => ?_)
            · exact absurd ((nv_lt (a := d6) (b := n) rfl rfl (by omega) (by omega)).mpr (by omega)) c10
            · skip
              refine r_aln C dX7_owes_30 rfl 1 rfl ?_
              refine r_iln C dX7_owes_31 rfl 0 rfl ?_
              refine aft_rd (st' := [.int (s_X7_bearer pe wo d6)]) (run_V (rest := []) C (c_X7_bearer l D o q1 q2 q3 q4 q5 q6 q7 q8 q9 q10 q11 q12 q13 q14 q15 q16 q17 q18 q19 q20 q21 q22 pe n la ri td ys ty ap wg rd sm bt up lw ii kd dy nd co od wo tp rk ry rn vs bs ch tr en du_7 ol ig ln sz it mo d6 (by omega) (by omega)) ok_X7_bearer wn_X7_bearer wl_X7_bearer wm_X7_170 _ 0 rfl rfl rfl ⟨Nat.le_of_ble_eq_true rfl, Nat.le_of_ble_eq_true rfl⟩ fm_all rfl (Nat.le_of_ble_eq_true rfl) dX7_owes_32) rfl ?_
              refine r_top (mbear hp).1 ?_
              have hbr := (mbear (wo := wo) (d := d6) hp).2
              refine r_isn C (lv' := [(2, .int (nI ((s_X7_bearer pe wo d6).toNatClampNeg))), (1, .int (nI d6)), (0, .ref o)]) dX7_owes_35 rfl (by decide) rfl ?_
              refine r_ic C (v := (0 : Int32)) dX7_owes_36 (by decide) ?_
              refine r_isn C (lv' := [(3, .int (0 : Int32)), (2, .int (nI ((s_X7_bearer pe wo d6).toNatClampNeg))), (1, .int (nI d6)), (0, .ref o)]) dX7_owes_37 rfl (by decide) rfl ?_
              refine r_ic C (v := (0 : Int32)) dX7_owes_38 (by decide) ?_
              refine r_is C (lv' := [(4, .int (0 : Int32)), (3, .int (0 : Int32)), (2, .int (nI ((s_X7_bearer pe wo d6).toNatClampNeg))), (1, .int (nI d6)), (0, .ref o)]) dX7_owes_39 (by decide) rfl ?_
              have L31 : ∀ (k11 : Nat) (d12 : Nat) (many_13 : Int32), (d12 + k11 = pe) → (if (ri >>> ((nI d6) &&& 31)) &&& (1 : Int32) = (1 : Int32) then (if (0 : Int32) < (s_X7_owes_L41 pe wo d6 k11 d12 many_13) then (s_X7_owes_L22 pe ri co wo k5 (d6 + 1) ((s_X7_owes_L141 pe co wo d6 (s_X7_owes_L41 pe wo d6 k11 d12 many_13) pe 0 (upd du_7 ((s_X7_bearer pe wo d6).toNatClampNeg) ((du_7 ((s_X7_bearer pe wo d6).toNatClampNeg)) - (co d6))) ((co d6) - (((co d6) / (s_X7_owes_L41 pe wo d6 k11 d12 many_13)) * (s_X7_owes_L41 pe wo d6 k11 d12 many_13)))).1)) else (s_X7_owes_L22 pe ri co wo k5 (d6 + 1) du_7)) else (s_X7_owes_L22 pe ri co wo k5 (d6 + 1) du_7)) = V → GM p_ l e_ s_ m_ below_ meth_ c_ D 1 24 7 [.ref o] (wM D o q1 q2 q3 q4 q5 q6 q7 q8 q9 q10 q11 q12 q13 q14 q15 q16 q17 q18 q19 q20 q21 q22 pe n la ri td ys ty ap wg rd sm bt up lw ii kd dy nd co od wo tp rk ry rn vs bs ch tr en V ol ig ln sz it mo) (Ad (wM D o q1 q2 q3 q4 q5 q6 q7 q8 q9 q10 q11 q12 q13 q14 q15 q16 q17 q18 q19 q20 q21 q22 pe n la ri td ys ty ap wg rd sm bt up lw ii kd dy nd co od wo tp rk ry rn vs bs ch tr en du ol ig ln sz it mo)) (none) (wM D o q1 q2 q3 q4 q5 q6 q7 q8 q9 q10 q11 q12 q13 q14 q15 q16 q17 q18 q19 q20 q21 q22 pe n la ri td ys ty ap wg rd sm bt up lw ii kd dy nd co od wo tp rk ry rn vs bs ch tr en du_7 ol ig ln sz it mo) 41 [(4, .int (nI d12)), (3, .int many_13), (2, .int (nI ((s_X7_bearer pe wo d6).toNatClampNeg))), (1, .int (nI d6)), (0, .ref o)] [] := by
                intro k11
                induction k11 with
                | zero =>
                  intro d12 many_13 hk hv
                  have hv : (if (ri >>> ((nI d6) &&& 31)) &&& (1 : Int32) = (1 : Int32) then (if (0 : Int32) < many_13 then (s_X7_owes_L22 pe ri co wo k5 (d6 + 1) ((s_X7_owes_L141 pe co wo d6 many_13 pe 0 (upd du_7 ((s_X7_bearer pe wo d6).toNatClampNeg) ((du_7 ((s_X7_bearer pe wo d6).toNatClampNeg)) - (co d6))) ((co d6) - (((co d6) / many_13) * many_13))).1)) else (s_X7_owes_L22 pe ri co wo k5 (d6 + 1) du_7)) else (s_X7_owes_L22 pe ri co wo k5 (d6 + 1) du_7)) = V := hv
                  refine r_il C dX7_owes_41 0 rfl ?_
                  refine r_aln C dX7_owes_43 rfl 4 rfl ?_
                  refine gf_X7_77 C 0 rfl rfl dX7_owes_44 ?_
                  refine r_icge C (tgt := 84) dX7_owes_47 (by decide) (fun c14 => ?_) (fun c14 => ?_)
                  · skip
                    refine r_aln C dX7_owes_84 rfl 4 rfl ?_
                    refine gf_X7_113 C 0 rfl rfl dX7_owes_85 ?_
                    refine r_iln C dX7_owes_88 rfl 3 rfl ?_
                    refine r_ishr C dX7_owes_89 ?_
                    refine r_ic C (v := (1 : Int32)) dX7_owes_90 (by decide) ?_
                    refine r_iand C dX7_owes_91 ?_
                    refine r_ic C (v := (1 : Int32)) dX7_owes_92 (by decide) ?_
                    refine r_icne C (tgt := 194) dX7_owes_93 (by decide) (fun c15 => ?_) (fun c15 => ?_)
                    · rw [if_neg c15] at hv
                      refine r_inc C (v := nI (d6 + 1)) (lv' := [(1, .int (nI (d6 + 1))), (4, .int (nI d12)), (3, .int many_13), (2, .int (nI ((s_X7_bearer pe wo d6).toNatClampNeg))), (0, .ref o)]) dX7_owes_194 3 rfl (inc_nI d6) (by decide) rfl ?_
                      refine r_goto C (tgt := 22) dX7_owes_197 (by decide) ?_
                      refine r_lv [0, 4] rfl ?_
                      exact ih9 (d6 + 1) du_7 (by omega) hv
                    · rw [if_pos c15] at hv
                      refine r_iln C dX7_owes_96 rfl 1 rfl ?_
                      refine r_ifle C (tgt := 194) dX7_owes_97 (by decide) (fun c16 => ?_) (fun c16 => ?_)
                      · rw [if_neg c16] at hv
                        refine r_inc C (v := nI (d6 + 1)) (lv' := [(1, .int (nI (d6 + 1))), (4, .int (nI d12)), (3, .int many_13), (2, .int (nI ((s_X7_bearer pe wo d6).toNatClampNeg))), (0, .ref o)]) dX7_owes_194 3 rfl (inc_nI d6) (by decide) rfl ?_
                        refine r_goto C (tgt := 22) dX7_owes_197 (by decide) ?_
                        refine r_lv [0, 4] rfl ?_
                        exact ih9 (d6 + 1) du_7 (by omega) hv
                      · rw [if_pos c16] at hv
                        refine r_aln C dX7_owes_100 rfl 4 rfl ?_
                        refine gf_X7_19 C 0 rfl rfl dX7_owes_101 ?_
                        refine r_iln C dX7_owes_104 rfl 3 rfl ?_
                        refine r_iald C 4 d6 rfl rfl (by omega) (by decide) rfl dX7_owes_105 ?_
                        refine r_iln C dX7_owes_106 rfl 1 rfl ?_
                        refine r_idiv C dX7_owes_107 (pos_ne c16) ?_
                        refine r_is C (lv' := [(4, .int ((co d6) / many_13)), (3, .int many_13), (2, .int (nI ((s_X7_bearer pe wo d6).toNatClampNeg))), (1, .int (nI d6)), (0, .ref o)]) dX7_owes_108 (by decide) rfl ?_
                        refine r_aln C dX7_owes_110 rfl 4 rfl ?_
                        refine gf_X7_19 C 0 rfl rfl dX7_owes_111 ?_
                        refine r_iln C dX7_owes_114 rfl 3 rfl ?_
                        refine r_iald C 4 d6 rfl rfl (by omega) (by decide) rfl dX7_owes_115 ?_
                        refine r_il C dX7_owes_116 0 rfl ?_
                        refine r_iln C dX7_owes_118 rfl 1 rfl ?_
                        refine r_imul C dX7_owes_119 ?_
                        refine r_isub C dX7_owes_120 ?_
                        refine r_is C (lv' := [(5, .int ((co d6) - (((co d6) / many_13) * many_13))), (4, .int ((co d6) / many_13)), (3, .int many_13), (2, .int (nI ((s_X7_bearer pe wo d6).toNatClampNeg))), (1, .int (nI d6)), (0, .ref o)]) dX7_owes_121 (by decide) rfl ?_
                        refine r_aln C dX7_owes_123 rfl 5 rfl ?_
                        refine gf_X7_55 C 0 rfl rfl dX7_owes_124 ?_
                        refine r_iln C dX7_owes_127 rfl 3 rfl ?_
                        refine r_dup211 C dX7_owes_128 rfl rfl ?_
                        refine r_iald C 16 ((s_X7_bearer pe wo d6).toNatClampNeg) rfl rfl (by omega) (by decide) rfl dX7_owes_129 ?_
                        refine r_aln C dX7_owes_130 rfl 5 rfl ?_
                        refine gf_X7_19 C 0 rfl rfl dX7_owes_131 ?_
                        refine r_iln C dX7_owes_134 rfl 4 rfl ?_
                        refine r_iald C 4 d6 rfl rfl (by omega) (by decide) rfl dX7_owes_135 ?_
                        refine r_isub C dX7_owes_136 ?_
                        refine r_iast C (ws2 := wM D o q1 q2 q3 q4 q5 q6 q7 q8 q9 q10 q11 q12 q13 q14 q15 q16 q17 q18 q19 q20 q21 q22 pe n la ri td ys ty ap wg rd sm bt up lw ii kd dy nd co od wo tp rk ry rn vs bs ch tr en (upd du_7 ((s_X7_bearer pe wo d6).toNatClampNeg) ((du_7 ((s_X7_bearer pe wo d6).toNatClampNeg)) - (co d6))) ol ig ln sz it mo) h0 rfl 16 ((s_X7_bearer pe wo d6).toNatClampNeg) rfl rfl (by omega) (by decide) dX7_owes_137 rfl rfl ?_
                        refine r_ic C (v := (0 : Int32)) dX7_owes_138 (by decide) ?_
                        refine r_is C (lv' := [(6, .int (0 : Int32)), (5, .int ((co d6) - (((co d6) / many_13) * many_13))), (4, .int ((co d6) / many_13)), (3, .int many_13), (2, .int (nI ((s_X7_bearer pe wo d6).toNatClampNeg))), (1, .int (nI d6)), (0, .ref o)]) dX7_owes_139 (by decide) rfl ?_
                        have L26 : ∀ (k17 : Nat) (d18 : Nat) (du_19 : Nat → Int32) (rest_20 : Int32), (d18 + k17 = pe) → (s_X7_owes_L22 pe ri co wo k5 (d6 + 1) ((s_X7_owes_L141 pe co wo d6 many_13 k17 d18 du_19 rest_20).1)) = V → GM p_ l e_ s_ m_ below_ meth_ c_ D 1 24 7 [.ref o] (wM D o q1 q2 q3 q4 q5 q6 q7 q8 q9 q10 q11 q12 q13 q14 q15 q16 q17 q18 q19 q20 q21 q22 pe n la ri td ys ty ap wg rd sm bt up lw ii kd dy nd co od wo tp rk ry rn vs bs ch tr en V ol ig ln sz it mo) (Ad (wM D o q1 q2 q3 q4 q5 q6 q7 q8 q9 q10 q11 q12 q13 q14 q15 q16 q17 q18 q19 q20 q21 q22 pe n la ri td ys ty ap wg rd sm bt up lw ii kd dy nd co od wo tp rk ry rn vs bs ch tr en du ol ig ln sz it mo)) (none) (wM D o q1 q2 q3 q4 q5 q6 q7 q8 q9 q10 q11 q12 q13 q14 q15 q16 q17 q18 q19 q20 q21 q22 pe n la ri td ys ty ap wg rd sm bt up lw ii kd dy nd co od wo tp rk ry rn vs bs ch tr en du_19 ol ig ln sz it mo) 141 [(6, .int (nI d18)), (5, .int rest_20), (4, .int ((co d6) / many_13)), (3, .int many_13), (2, .int (nI ((s_X7_bearer pe wo d6).toNatClampNeg))), (1, .int (nI d6)), (0, .ref o)] [] := by
                          intro k17
                          induction k17 with
                          | zero =>
                            intro d18 du_19 rest_20 hk hv
                            have hv : (s_X7_owes_L22 pe ri co wo k5 (d6 + 1) du_19) = V := hv
                            refine r_il C dX7_owes_141 0 rfl ?_
                            refine r_aln C dX7_owes_143 rfl 6 rfl ?_
                            refine gf_X7_77 C 0 rfl rfl dX7_owes_144 ?_
                            refine r_icge C (tgt := 194) dX7_owes_147 (by decide) (fun c21 => ?_) (fun c21 => ?_)
                            · skip
                              refine r_inc C (v := nI (d6 + 1)) (lv' := [(1, .int (nI (d6 + 1))), (6, .int (nI d18)), (5, .int rest_20), (4, .int ((co d6) / many_13)), (3, .int many_13), (2, .int (nI ((s_X7_bearer pe wo d6).toNatClampNeg))), (0, .ref o)]) dX7_owes_194 5 rfl (inc_nI d6) (by decide) rfl ?_
                              refine r_goto C (tgt := 22) dX7_owes_197 (by decide) ?_
                              refine r_lv [0, 6] rfl ?_
                              exact ih9 (d6 + 1) du_19 (by omega) hv
                            · exact absurd c21 (fun z => absurd ((nv_lt (a := d18) (b := pe) rfl rfl (by omega) (by omega)).mp z) (by omega))
                          | succ k17 ih22 =>
                            intro d18 du_19 rest_20 hk hv
                            have hv : (s_X7_owes_L22 pe ri co wo k5 (d6 + 1) ((if nI d18 = nI ((s_X7_bearer pe wo d6).toNatClampNeg) then (s_X7_owes_L141 pe co wo d6 many_13 k17 (d18 + 1) du_19 rest_20) else (if wo ((4 * d6) + d18) < (0 : Int32) then (s_X7_owes_L141 pe co wo d6 many_13 k17 (d18 + 1) (upd du_19 d18 ((du_19 d18) + (((co d6) / many_13) + rest_20))) (0 : Int32)) else (s_X7_owes_L141 pe co wo d6 many_13 k17 (d18 + 1) du_19 rest_20))).1)) = V := hv
                            refine r_il C dX7_owes_141 0 rfl ?_
                            refine r_aln C dX7_owes_143 rfl 6 rfl ?_
                            refine gf_X7_77 C 0 rfl rfl dX7_owes_144 ?_
                            refine r_icge C (tgt := 194) dX7_owes_147 (by decide) (fun c23 => ?_) (fun c23 => ?_)
                            · exact absurd ((nv_lt (a := d18) (b := pe) rfl rfl (by omega) (by omega)).mpr (by omega)) c23
                            · skip
                              refine r_il C dX7_owes_150 0 rfl ?_
                              refine r_iln C dX7_owes_152 rfl 4 rfl ?_
                              refine r_iceq C (tgt := 188) dX7_owes_153 (by decide) (fun c24 => ?_) (fun c24 => ?_)
                              · rw [if_pos c24] at hv
                                refine r_inc C (v := nI (d18 + 1)) (lv' := [(6, .int (nI (d18 + 1))), (5, .int rest_20), (4, .int ((co d6) / many_13)), (3, .int many_13), (2, .int (nI ((s_X7_bearer pe wo d6).toNatClampNeg))), (1, .int (nI d6)), (0, .ref o)]) dX7_owes_188 0 rfl (inc_nI d18) (by decide) rfl ?_
                                refine r_goto C (tgt := 141) dX7_owes_191 (by decide) ?_
                                exact ih22 (d18 + 1) du_19 rest_20 (by omega) hv
                              · rw [if_neg c24] at hv
                                refine r_aln C dX7_owes_156 rfl 6 rfl ?_
                                refine gf_X7_25 C 0 rfl rfl dX7_owes_157 ?_
                                refine r_ic C (v := (4 : Int32)) dX7_owes_160 (by decide) ?_
                                refine r_iln C dX7_owes_161 rfl 5 rfl ?_
                                refine r_imul C dX7_owes_162 ?_
                                refine r_il C dX7_owes_163 0 rfl ?_
                                refine r_iadd C dX7_owes_165 ?_
                                refine r_iald C 6 ((4 * d6) + d18) rfl (nv_add (nv_mul rfl rfl) rfl) (by omega) (by decide) rfl dX7_owes_166 ?_
                                refine r_ifge C (tgt := 188) dX7_owes_167 (by decide) (fun c25 => ?_) (fun c25 => ?_)
                                · rw [if_neg c25] at hv
                                  refine r_inc C (v := nI (d18 + 1)) (lv' := [(6, .int (nI (d18 + 1))), (5, .int rest_20), (4, .int ((co d6) / many_13)), (3, .int many_13), (2, .int (nI ((s_X7_bearer pe wo d6).toNatClampNeg))), (1, .int (nI d6)), (0, .ref o)]) dX7_owes_188 0 rfl (inc_nI d18) (by decide) rfl ?_
                                  refine r_goto C (tgt := 141) dX7_owes_191 (by decide) ?_
                                  exact ih22 (d18 + 1) du_19 rest_20 (by omega) hv
                                · rw [if_pos c25] at hv
                                  refine r_aln C dX7_owes_170 rfl 6 rfl ?_
                                  refine gf_X7_55 C 0 rfl rfl dX7_owes_171 ?_
                                  refine r_il C dX7_owes_174 0 rfl ?_
                                  refine r_dup211 C dX7_owes_176 rfl rfl ?_
                                  refine r_iald C 16 d18 rfl rfl (by omega) (by decide) rfl dX7_owes_177 ?_
                                  refine r_il C dX7_owes_178 2 rfl ?_
                                  refine r_il C dX7_owes_180 1 rfl ?_
                                  refine r_iadd C dX7_owes_182 ?_
                                  refine r_iadd C dX7_owes_183 ?_
                                  refine r_iast C (ws2 := wM D o q1 q2 q3 q4 q5 q6 q7 q8 q9 q10 q11 q12 q13 q14 q15 q16 q17 q18 q19 q20 q21 q22 pe n la ri td ys ty ap wg rd sm bt up lw ii kd dy nd co od wo tp rk ry rn vs bs ch tr en (upd du_19 d18 ((du_19 d18) + (((co d6) / many_13) + rest_20))) ol ig ln sz it mo) h0 rfl 16 d18 rfl rfl (by omega) (by decide) dX7_owes_184 rfl rfl ?_
                                  refine r_ic C (v := (0 : Int32)) dX7_owes_185 (by decide) ?_
                                  refine r_is C (lv' := [(5, .int (0 : Int32)), (6, .int (nI d18)), (4, .int ((co d6) / many_13)), (3, .int many_13), (2, .int (nI ((s_X7_bearer pe wo d6).toNatClampNeg))), (1, .int (nI d6)), (0, .ref o)]) dX7_owes_186 (by decide) rfl ?_
                                  refine r_inc C (v := nI (d18 + 1)) (lv' := [(6, .int (nI (d18 + 1))), (5, .int (0 : Int32)), (4, .int ((co d6) / many_13)), (3, .int many_13), (2, .int (nI ((s_X7_bearer pe wo d6).toNatClampNeg))), (1, .int (nI d6)), (0, .ref o)]) dX7_owes_188 1 rfl (inc_nI d18) (by decide) rfl ?_
                                  refine r_goto C (tgt := 141) dX7_owes_191 (by decide) ?_
                                  exact ih22 (d18 + 1) (upd du_19 d18 ((du_19 d18) + (((co d6) / many_13) + rest_20))) (0 : Int32) (by omega) hv
                        refine r_lve (lv2 := [(6, .int (nI 0)), (5, .int ((co d6) - (((co d6) / many_13) * many_13))), (4, .int ((co d6) / many_13)), (3, .int many_13), (2, .int (nI ((s_X7_bearer pe wo d6).toNatClampNeg))), (1, .int (nI d6)), (0, .ref o)]) (congrArg (fun (z : Int32) => ([(6, .int z), (5, .int ((co d6) - (((co d6) / many_13) * many_13))), (4, .int ((co d6) / many_13)), (3, .int many_13), (2, .int (nI ((s_X7_bearer pe wo d6).toNatClampNeg))), (1, .int (nI d6)), (0, .ref o)] : List (Nat × Value))) rfl) ?_
                        exact L26 pe 0 (upd du_7 ((s_X7_bearer pe wo d6).toNatClampNeg) ((du_7 ((s_X7_bearer pe wo d6).toNatClampNeg)) - (co d6))) ((co d6) - (((co d6) / many_13) * many_13)) (by omega) hv
                  · exact absurd c14 (fun z => absurd ((nv_lt (a := d12) (b := pe) rfl rfl (by omega) (by omega)).mp z) (by omega))
                | succ k11 ih27 =>
                  intro d12 many_13 hk hv
                  have hv : (if (ri >>> ((nI d6) &&& 31)) &&& (1 : Int32) = (1 : Int32) then (if (0 : Int32) < (if nI d12 = nI ((s_X7_bearer pe wo d6).toNatClampNeg) then (s_X7_owes_L41 pe wo d6 k11 (d12 + 1) (many_13 + (0 : Int32))) else (if wo ((4 * d6) + d12) < (0 : Int32) then (s_X7_owes_L41 pe wo d6 k11 (d12 + 1) (many_13 + (1 : Int32))) else (s_X7_owes_L41 pe wo d6 k11 (d12 + 1) (many_13 + (0 : Int32))))) then (s_X7_owes_L22 pe ri co wo k5 (d6 + 1) ((s_X7_owes_L141 pe co wo d6 (if nI d12 = nI ((s_X7_bearer pe wo d6).toNatClampNeg) then (s_X7_owes_L41 pe wo d6 k11 (d12 + 1) (many_13 + (0 : Int32))) else (if wo ((4 * d6) + d12) < (0 : Int32) then (s_X7_owes_L41 pe wo d6 k11 (d12 + 1) (many_13 + (1 : Int32))) else (s_X7_owes_L41 pe wo d6 k11 (d12 + 1) (many_13 + (0 : Int32))))) pe 0 (upd du_7 ((s_X7_bearer pe wo d6).toNatClampNeg) ((du_7 ((s_X7_bearer pe wo d6).toNatClampNeg)) - (co d6))) ((co d6) - (((co d6) / (if nI d12 = nI ((s_X7_bearer pe wo d6).toNatClampNeg) then (s_X7_owes_L41 pe wo d6 k11 (d12 + 1) (many_13 + (0 : Int32))) else (if wo ((4 * d6) + d12) < (0 : Int32) then (s_X7_owes_L41 pe wo d6 k11 (d12 + 1) (many_13 + (1 : Int32))) else (s_X7_owes_L41 pe wo d6 k11 (d12 + 1) (many_13 + (0 : Int32)))))) * (if nI d12 = nI ((s_X7_bearer pe wo d6).toNatClampNeg) then (s_X7_owes_L41 pe wo d6 k11 (d12 + 1) (many_13 + (0 : Int32))) else (if wo ((4 * d6) + d12) < (0 : Int32) then (s_X7_owes_L41 pe wo d6 k11 (d12 + 1) (many_13 + (1 : Int32))) else (s_X7_owes_L41 pe wo d6 k11 (d12 + 1) (many_13 + (0 : Int32)))))))).1)) else (s_X7_owes_L22 pe ri co wo k5 (d6 + 1) du_7)) else (s_X7_owes_L22 pe ri co wo k5 (d6 + 1) du_7)) = V := hv
                  refine r_il C dX7_owes_41 0 rfl ?_
                  refine r_aln C dX7_owes_43 rfl 4 rfl ?_
                  refine gf_X7_77 C 0 rfl rfl dX7_owes_44 ?_
                  refine r_icge C (tgt := 84) dX7_owes_47 (by decide) (fun c28 => ?_) (fun c28 => ?_)
                  · exact absurd ((nv_lt (a := d12) (b := pe) rfl rfl (by omega) (by omega)).mpr (by omega)) c28
                  · skip
                    refine r_iln C dX7_owes_50 rfl 1 rfl ?_
                    refine r_il C dX7_owes_51 0 rfl ?_
                    refine r_iln C dX7_owes_53 rfl 2 rfl ?_
                    refine r_iceq C (tgt := 75) dX7_owes_54 (by decide) (fun c29 => ?_) (fun c29 => ?_)
                    · rw [if_pos c29] at hv
                      refine r_ic C (v := (0 : Int32)) dX7_owes_75 (by decide) ?_
                      refine r_iadd C dX7_owes_76 ?_
                      refine r_isn C (lv' := [(3, .int (many_13 + (0 : Int32))), (4, .int (nI d12)), (2, .int (nI ((s_X7_bearer pe wo d6).toNatClampNeg))), (1, .int (nI d6)), (0, .ref o)]) dX7_owes_77 rfl (by decide) rfl ?_
                      refine r_inc C (v := nI (d12 + 1)) (lv' := [(4, .int (nI (d12 + 1))), (3, .int (many_13 + (0 : Int32))), (2, .int (nI ((s_X7_bearer pe wo d6).toNatClampNeg))), (1, .int (nI d6)), (0, .ref o)]) dX7_owes_78 1 rfl (inc_nI d12) (by decide) rfl ?_
                      refine r_goto C (tgt := 41) dX7_owes_81 (by decide) ?_
                      exact ih27 (d12 + 1) (many_13 + (0 : Int32)) (by omega) hv
                    · rw [if_neg c29] at hv
                      refine r_aln C dX7_owes_57 rfl 4 rfl ?_
                      refine gf_X7_25 C 0 rfl rfl dX7_owes_58 ?_
                      refine r_ic C (v := (4 : Int32)) dX7_owes_61 (by decide) ?_
                      refine r_iln C dX7_owes_62 rfl 3 rfl ?_
                      refine r_imul C dX7_owes_63 ?_
                      refine r_il C dX7_owes_64 0 rfl ?_
                      refine r_iadd C dX7_owes_66 ?_
                      refine r_iald C 6 ((4 * d6) + d12) rfl (nv_add (nv_mul rfl rfl) rfl) (by omega) (by decide) rfl dX7_owes_67 ?_
                      refine r_ifge C (tgt := 75) dX7_owes_68 (by decide) (fun c30 => ?_) (fun c30 => ?_)
                      · rw [if_neg c30] at hv
                        refine r_ic C (v := (0 : Int32)) dX7_owes_75 (by decide) ?_
                        refine r_iadd C dX7_owes_76 ?_
                        refine r_isn C (lv' := [(3, .int (many_13 + (0 : Int32))), (4, .int (nI d12)), (2, .int (nI ((s_X7_bearer pe wo d6).toNatClampNeg))), (1, .int (nI d6)), (0, .ref o)]) dX7_owes_77 rfl (by decide) rfl ?_
                        refine r_inc C (v := nI (d12 + 1)) (lv' := [(4, .int (nI (d12 + 1))), (3, .int (many_13 + (0 : Int32))), (2, .int (nI ((s_X7_bearer pe wo d6).toNatClampNeg))), (1, .int (nI d6)), (0, .ref o)]) dX7_owes_78 1 rfl (inc_nI d12) (by decide) rfl ?_
                        refine r_goto C (tgt := 41) dX7_owes_81 (by decide) ?_
                        exact ih27 (d12 + 1) (many_13 + (0 : Int32)) (by omega) hv
                      · rw [if_pos c30] at hv
                        refine r_ic C (v := (1 : Int32)) dX7_owes_71 (by decide) ?_
                        refine r_goto C (tgt := 76) dX7_owes_72 (by decide) ?_
                        refine r_iadd C dX7_owes_76 ?_
                        refine r_isn C (lv' := [(3, .int (many_13 + (1 : Int32))), (4, .int (nI d12)), (2, .int (nI ((s_X7_bearer pe wo d6).toNatClampNeg))), (1, .int (nI d6)), (0, .ref o)]) dX7_owes_77 rfl (by decide) rfl ?_
                        refine r_inc C (v := nI (d12 + 1)) (lv' := [(4, .int (nI (d12 + 1))), (3, .int (many_13 + (1 : Int32))), (2, .int (nI ((s_X7_bearer pe wo d6).toNatClampNeg))), (1, .int (nI d6)), (0, .ref o)]) dX7_owes_78 1 rfl (inc_nI d12) (by decide) rfl ?_
                        refine r_goto C (tgt := 41) dX7_owes_81 (by decide) ?_
                        exact ih27 (d12 + 1) (many_13 + (1 : Int32)) (by omega) hv
              refine r_lve (lv2 := [(4, .int (nI 0)), (3, .int (0 : Int32)), (2, .int (nI ((s_X7_bearer pe wo d6).toNatClampNeg))), (1, .int (nI d6)), (0, .ref o)]) (congrArg (fun (z : Int32) => ([(4, .int z), (3, .int (0 : Int32)), (2, .int (nI ((s_X7_bearer pe wo d6).toNatClampNeg))), (1, .int (nI d6)), (0, .ref o)] : List (Nat × Value))) rfl) ?_
              exact L31 pe 0 (0 : Int32) (by omega) hv
        refine r_lve (lv2 := [(1, .int (nI 0)), (0, .ref o)]) (congrArg (fun (z : Int32) => ([(1, .int z), (0, .ref o)] : List (Nat × Value))) rfl) ?_
        exact L32 n 0 du_3 (by omega) hv
      · exact absurd c4 (fun z => absurd ((nv_lt (a := d2) (b := 4) rfl rfl (by omega) (by omega)).mp z) (by omega))
    | succ k1 ih33 =>
      intro d2 du_3 hk hv
      have hv : (s_X7_owes_L22 pe ri co wo n 0 (s_X7_owes_L2  k1 (d2 + 1) (upd du_3 d2 (0 : Int32)))) = V := hv
      refine r_iln C dX7_owes_2 rfl 0 rfl ?_
      refine r_ic C (v := (4 : Int32)) dX7_owes_3 (by decide) ?_
      refine r_icge C (tgt := 20) dX7_owes_4 (by decide) (fun c34 => ?_) (fun c34 => ?_)
      · exact absurd ((nv_lt (a := d2) (b := 4) rfl rfl (by omega) (by omega)).mpr (by omega)) c34
      · skip
        refine r_aln C dX7_owes_7 rfl 1 rfl ?_
        refine gf_X7_55 C 0 rfl rfl dX7_owes_8 ?_
        refine r_iln C dX7_owes_11 rfl 0 rfl ?_
        refine r_ic C (v := (0 : Int32)) dX7_owes_12 (by decide) ?_
        refine r_iast C (ws2 := wM D o q1 q2 q3 q4 q5 q6 q7 q8 q9 q10 q11 q12 q13 q14 q15 q16 q17 q18 q19 q20 q21 q22 pe n la ri td ys ty ap wg rd sm bt up lw ii kd dy nd co od wo tp rk ry rn vs bs ch tr en (upd du_3 d2 (0 : Int32)) ol ig ln sz it mo) h0 rfl 16 d2 rfl rfl (by omega) (by decide) dX7_owes_13 rfl rfl ?_
        refine r_inc C (v := nI (d2 + 1)) (lv' := [(1, .int (nI (d2 + 1))), (0, .ref o)]) dX7_owes_14 0 rfl (inc_nI d2) (by decide) rfl ?_
        refine r_goto C (tgt := 2) dX7_owes_17 (by decide) ?_
        exact ih33 (d2 + 1) (upd du_3 d2 (0 : Int32)) (by omega) hv
  refine r_lve (lv2 := [(1, .int (nI 0)), (0, .ref o)]) (congrArg (fun (z : Int32) => ([(1, .int z), (0, .ref o)] : List (Nat × Value))) rfl) ?_
  exact L35 4 0 du (by omega) hv

