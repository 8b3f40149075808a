def s_X7_counts_L137 (vs_7 : Nat → Int32) : Nat → Nat → Int32 → Int32
  | 0, _, sm_11 => sm_11
  | k9 + 1, d10, sm_11 => (s_X7_counts_L137 vs_7 k9 (d10 + 1) (sm_11 + (vs_7 d10)))
def s_X7_counts_m128_0 (pe : Nat) (co : Nat → Int32) (wo : Nat → Int32) (right : Int32) (d6 : Nat) (vs_20 : Nat → Int32) : Nat → Int32 := (if (right >>> ((nI d6) &&& 31)) &&& (1 : Int32) = (1 : Int32) then (upd vs_20 ((s_X7_bearer pe wo d6).toNatClampNeg) ((vs_20 ((s_X7_bearer pe wo d6).toNatClampNeg)) - (co d6))) else vs_20)
def s_X7_counts_L50 (n : Nat) (kd : Nat → Int32) (nd : Nat → Int32) (wo : Nat → Int32) (right : Int32) (old : Int32) (d6 : Nat) : Nat → Nat → (Nat → Int32) → (Nat → Int32)
  | 0, _, vs_20 => vs_20
  | k18 + 1, d19, vs_20 => (if ((s_X7_stands n kd nd right old) >>> ((nI d6) &&& 31)) &&& (1 : Int32) = (1 : Int32) then (s_X7_counts_L50 n kd nd wo right old d6 k18 (d19 + 1) (upd vs_20 d19 ((vs_20 d19) + (wo ((4 * d6) + d19))))) else vs_20)
def s_X7_counts_L38 (pe : Nat) (n : Nat) (kd : Nat → Int32) (nd : Nat → Int32) (co : Nat → Int32) (wo : Nat → Int32) (right : Int32) (old : Int32) : Nat → Nat → (Nat → Int32) → (Nat → Int32)
  | 0, _, vs_7 => vs_7
  | k5 + 1, d6, vs_7 => (s_X7_counts_L38 pe n kd nd co wo right old k5 (d6 + 1) (s_X7_counts_m128_0 pe co wo right d6 (s_X7_counts_L50 n kd nd wo right old d6 pe 0 vs_7)))
def s_X7_counts_L15  : Nat → Nat → (Nat → Int32) → (Nat → Int32)
  | 0, _, vs_3 => vs_3
  | k1 + 1, d2, vs_3 => (s_X7_counts_L15  k1 (d2 + 1) (upd vs_3 d2 (0 : Int32)))
def s_X7_counts (pe : Nat) (n : Nat) (kd : Nat → Int32) (nd : Nat → Int32) (co : Nat → Int32) (wo : Nat → Int32) (vs : Nat → Int32) (right : Int32) (old : Int32) : Int32 × (Nat → Int32) := ((s_X7_counts_L137 (s_X7_counts_L38 pe n kd nd co wo right old n 0 (s_X7_counts_L15  4 0 vs)) pe 0 (0 : Int32)), (s_X7_counts_L38 pe n kd nd co wo right old n 0 (s_X7_counts_L15  4 0 vs)))
set_option maxHeartbeats 8000000 in
set_option maxRecDepth 100000 in
theorem c_X7_counts (l : Launch) (D : va_G) (o : Nat) (q1 : Nat) (q2 : Nat) (q3 : Nat) (q4 : Nat) (q5 : Nat) (q6 : Nat) (q7 : Nat) (q8 : Nat) (q9 : Nat) (q10 : Nat) (q11 : Nat) (q12 : Nat) (q13 : Nat) (q14 : Nat) (q15 : Nat) (q16 : Nat) (q17 : Nat) (q18 : Nat) (q19 : Nat) (q20 : Nat) (q21 : Nat) (q22 : Nat) (pe : Nat) (n : Nat) (la : Int32) (ri : Int32) (td : Int32) (ys : Int32) (ty : Nat) (ap : Nat) (wg : Int32) (rd : Nat) (sm : Int32) (bt : Int32) (up : Int64) (lw : Int64) (ii : Int32) (kd : Nat → Int32) (dy : Nat → Int32) (nd : Nat → Int32) (co : Nat → Int32) (od : Nat → Int32) (wo : Nat → Int32) (tp : Nat → Int32) (rk : Nat → Int32) (ry : Nat → Int32) (rn : Nat → Int32) (vs : Nat → Int32) (bs : Nat → Int32) (ch : Nat → Int32) (tr : Nat → Int32) (en : Nat → Int32) (du : Nat → Int32) (ol : Nat → Int32) (ig : Nat → Int32) (ln : Nat → Int32) (sz : Nat → Int32) (it : Nat → Int64) (mo : Nat → Int64) (right : Int32) (old : Int32) (hn : n ≤ 12) (hp : 1 ≤ pe ∧ pe ≤ 4) (h0 : va_D (fun _ => True) (wM D o q1 q2 q3 q4 q5 q6 q7 q8 q9 q10 q11 q12 q13 q14 q15 q16 q17 q18 q19 q20 q21 q22 pe n la ri td ys ty ap wg rd sm bt up lw ii kd dy nd co od wo tp rk ry rn vs bs ch tr en du ol ig ln sz it mo)) : ct l yX7_counts cX7_counts 6 none 2 48 D [.ref o, .int right, .int old] (wM D o q1 q2 q3 q4 q5 q6 q7 q8 q9 q10 q11 q12 q13 q14 q15 q16 q17 q18 q19 q20 q21 q22 pe n la ri td ys ty ap wg rd sm bt up lw ii kd dy nd co od wo tp rk ry rn vs bs ch tr en du ol ig ln sz it mo) (wM D o q1 q2 q3 q4 q5 q6 q7 q8 q9 q10 q11 q12 q13 q14 q15 q16 q17 q18 q19 q20 q21 q22 pe n la ri td ys ty ap wg rd (s_X7_counts pe n kd nd co wo vs right old).1 bt up lw ii kd dy nd co od wo tp rk ry rn (s_X7_counts pe n kd nd co wo vs right old).2 bs ch tr en du ol ig ln sz it mo) (Ad (wM D o q1 q2 q3 q4 q5 q6 q7 q8 q9 q10 q11 q12 q13 q14 q15 q16 q17 q18 q19 q20 q21 q22 pe n la ri td ys ty ap wg rd sm bt up lw ii kd dy nd co od wo tp rk ry rn vs bs ch tr en du ol ig ln sz it mo)) (none) := by
  obtain ⟨V, hv⟩ : ∃ V, s_X7_counts pe n kd nd co wo vs right old = V := ⟨_, rfl⟩
  rw [hv]
  refine ct_intro (own := RX7) (lv := [(0, .ref o), (1, .int right), (2, .int old)]) (by decide) rfl (Nat.le_of_ble_eq_true rfl) rfl ?_
  intro p_ e_ s_ m_ below_ meth_ c_ C
  have hv : ((s_X7_counts_L137 (s_X7_counts_L38 pe n kd nd co wo right old n 0 (s_X7_counts_L15  4 0 vs)) pe 0 (0 : Int32)), (s_X7_counts_L38 pe n kd nd co wo right old n 0 (s_X7_counts_L15  4 0 vs))) = V := hv
  refine r_aln C dX7_counts_0 rfl 0 rfl ?_
  refine r_iln C dX7_counts_1 rfl 1 rfl ?_
  refine r_iln C dX7_counts_2 rfl 2 rfl ?_
  refine aft_rd (st' := [.int (s_X7_stands n kd nd right old)]) (run_V (rest := []) C (c_X7_stands l D o q1 q2 q3 q4 q5 q6 q7 q8 q9 q10 q11 q12 q13 q14 q15 q16 q17 q18 q19 q20 q21 q22 pe n la ri td ys ty ap wg rd sm bt up lw ii kd dy nd co od wo tp rk ry rn vs bs ch tr en du ol ig ln sz it mo right old (by omega)) ok_X7_stands wn_X7_stands wl_X7_stands wm_X7_119 _ 0 rfl rfl rfl ⟨Nat.le_of_ble_eq_true rfl, Nat.le_of_ble_eq_true rfl⟩ fm_all rfl (Nat.le_of_ble_eq_true rfl) dX7_counts_3) rfl ?_
  refine r_isn C (lv' := [(3, .int (s_X7_stands n kd nd right old)), (0, .ref o), (1, .int right), (2, .int old)]) dX7_counts_6 rfl (by decide) rfl ?_
  refine r_aln C dX7_counts_7 rfl 1 rfl ?_
  refine r_ic C (v := (0 : Int32)) dX7_counts_8 (by decide) ?_
  refine pf_X7_173 C (ws2 := wM D o q1 q2 q3 q4 q5 q6 q7 q8 q9 q10 q11 q12 q13 q14 q15 q16 q17 q18 q19 q20 q21 q22 pe n la ri td ys ty ap wg rd (0 : Int32) bt up lw ii kd dy nd co od wo tp rk ry rn vs bs ch tr en du ol ig ln sz it mo) h0 rfl 0 rfl (Nat.le_of_ble_eq_true rfl) dX7_counts_9 rfl rfl ?_
  refine r_ic C (v := (0 : Int32)) dX7_counts_12 (by decide) ?_
  refine r_is C (lv' := [(4, .int (0 : Int32)), (3, .int (s_X7_stands n kd nd right old)), (0, .ref o), (1, .int right), (2, .int old)]) dX7_counts_13 (by decide) rfl ?_
  have L32 : ∀ (k1 : Nat) (d2 : Nat) (vs_3 : Nat → Int32), (d2 + k1 = 4) → ((s_X7_counts_L137 (s_X7_counts_L38 pe n kd nd co wo right old n 0 (s_X7_counts_L15  k1 d2 vs_3)) pe 0 (0 : Int32)), (s_X7_counts_L38 pe n kd nd co wo right old n 0 (s_X7_counts_L15  k1 d2 vs_3))) = V → GM p_ l e_ s_ m_ below_ meth_ c_ D 2 48 6 [.ref o, .int right, .int old] (wM D o q1 q2 q3 q4 q5 q6 q7 q8 q9 q10 q11 q12 q13 q14 q15 q16 q17 q18 q19 q20 q21 q22 pe n la ri td ys ty ap wg rd V.1 bt up lw ii kd dy nd co od wo tp rk ry rn V.2 bs ch tr en du ol ig ln sz it mo) (Ad (wM D o q1 q2 q3 q4 q5 q6 q7 q8 q9 q10 q11 q12 q13 q14 q15 q16 q17 q18 q19 q20 q21 q22 pe n la ri td ys ty ap wg rd sm bt up lw ii kd dy nd co od wo tp rk ry rn vs bs ch tr en du ol ig ln sz it mo)) (none) (wM D o q1 q2 q3 q4 q5 q6 q7 q8 q9 q10 q11 q12 q13 q14 q15 q16 q17 q18 q19 q20 q21 q22 pe n la ri td ys ty ap wg rd (0 : Int32) bt up lw ii kd dy nd co od wo tp rk ry rn vs_3 bs ch tr en du ol ig ln sz it mo) 15 [(4, .int (nI d2)), (3, .int (s_X7_stands n kd nd right old)), (0, .ref o), (1, .int right), (2, .int old)] [] := by
    intro k1
    induction k1 with
    | zero =>
      intro d2 vs_3 hk hv
      have hv : ((s_X7_counts_L137 (s_X7_counts_L38 pe n kd nd co wo right old n 0 vs_3) pe 0 (0 : Int32)), (s_X7_counts_L38 pe n kd nd co wo right old n 0 vs_3)) = V := hv
      refine r_il C dX7_counts_15 0 rfl ?_
      refine r_ic C (v := (4 : Int32)) dX7_counts_17 (by decide) ?_
      refine r_icge C (tgt := 35) dX7_counts_18 (by decide) (fun c4 => ?_) (fun c4 => ?_)
      · skip
        refine r_ic C (v := (0 : Int32)) dX7_counts_35 (by decide) ?_
        refine r_is C (lv' := [(4, .int (0 : Int32)), (3, .int (s_X7_stands n kd nd right old)), (0, .ref o), (1, .int right), (2, .int old)]) dX7_counts_36 (by decide) rfl ?_
        have L29 : ∀ (k5 : Nat) (d6 : Nat) (vs_7 : Nat → Int32), (d6 + k5 = n) → ((s_X7_counts_L137 (s_X7_counts_L38 pe n kd nd co wo right old k5 d6 vs_7) pe 0 (0 : Int32)), (s_X7_counts_L38 pe n kd nd co wo right old k5 d6 vs_7)) = V → GM p_ l e_ s_ m_ below_ meth_ c_ D 2 48 6 [.ref o, .int right, .int old] (wM D o q1 q2 q3 q4 q5 q6 q7 q8 q9 q10 q11 q12 q13 q14 q15 q16 q17 q18 q19 q20 q21 q22 pe n la ri td ys ty ap wg rd V.1 bt up lw ii kd dy nd co od wo tp rk ry rn V.2 bs ch tr en du ol ig ln sz it mo) (Ad (wM D o q1 q2 q3 q4 q5 q6 q7 q8 q9 q10 q11 q12 q13 q14 q15 q16 q17 q18 q19 q20 q21 q22 pe n la ri td ys ty ap wg rd sm bt up lw ii kd dy nd co od wo tp rk ry rn vs bs ch tr en du ol ig ln sz it mo)) (none) (wM D o q1 q2 q3 q4 q5 q6 q7 q8 q9 q10 q11 q12 q13 q14 q15 q16 q17 q18 q19 q20 q21 q22 pe n la ri td ys ty ap wg rd (0 : Int32) bt up lw ii kd dy nd co od wo tp rk ry rn vs_7 bs ch tr en du ol ig ln sz it mo) 38 [(4, .int (nI d6)), (3, .int (s_X7_stands n kd nd right old)), (0, .ref o), (1, .int right), (2, .int old)] [] := by
          intro k5
          induction k5 with
          | zero =>
            intro d6 vs_7 hk hv
            have hv : ((s_X7_counts_L137 vs_7 pe 0 (0 : Int32)), vs_7) = V := hv
            refine r_il C dX7_counts_38 0 rfl ?_
            refine r_aln C dX7_counts_40 rfl 2 rfl ?_
            refine gf_X7_84 C 0 rfl rfl dX7_counts_41 ?_
            refine r_icge C (tgt := 134) dX7_counts_44 (by decide) (fun c8 => ?_) (fun c8 => ?_)
            · skip
              refine r_ic C (v := (0 : Int32)) dX7_counts_134 (by decide) ?_
              refine r_is C (lv' := [(4, .int (0 : Int32)), (3, .int (s_X7_stands n kd nd right old)), (0, .ref o), (1, .int right), (2, .int old)]) dX7_counts_135 (by decide) rfl ?_
              have L15 : ∀ (k9 : Nat) (d10 : Nat) (sm_11 : Int32), (d10 + k9 = pe) → ((s_X7_counts_L137 vs_7 k9 d10 sm_11), vs_7) = V → GM p_ l e_ s_ m_ below_ meth_ c_ D 2 48 6 [.ref o, .int right, .int old] (wM D o q1 q2 q3 q4 q5 q6 q7 q8 q9 q10 q11 q12 q13 q14 q15 q16 q17 q18 q19 q20 q21 q22 pe n la ri td ys ty ap wg rd V.1 bt up lw ii kd dy nd co od wo tp rk ry rn V.2 bs ch tr en du ol ig ln sz it mo) (Ad (wM D o q1 q2 q3 q4 q5 q6 q7 q8 q9 q10 q11 q12 q13 q14 q15 q16 q17 q18 q19 q20 q21 q22 pe n la ri td ys ty ap wg rd sm bt up lw ii kd dy nd co od wo tp rk ry rn vs bs ch tr en du ol ig ln sz it mo)) (none) (wM D o q1 q2 q3 q4 q5 q6 q7 q8 q9 q10 q11 q12 q13 q14 q15 q16 q17 q18 q19 q20 q21 q22 pe n la ri td ys ty ap wg rd sm_11 bt up lw ii kd dy nd co od wo tp rk ry rn vs_7 bs ch tr en du ol ig ln sz it mo) 137 [(4, .int (nI d10)), (3, .int (s_X7_stands n kd nd right old)), (0, .ref o), (1, .int right), (2, .int old)] [] := by
                intro k9
                induction k9 with
                | zero =>
                  intro d10 sm_11 hk hv
                  have hv : (sm_11, vs_7) = V := hv
                  refine r_il C dX7_counts_137 0 rfl ?_
                  refine r_aln C dX7_counts_139 rfl 2 rfl ?_
                  refine gf_X7_77 C 0 rfl rfl dX7_counts_140 ?_
                  refine r_icge C (tgt := 168) dX7_counts_143 (by decide) (fun c12 => ?_) (fun c12 => ?_)
                  · skip
                    exact r_vret rfl C (by rw [← hv]) dX7_counts_168
                  · exact absurd c12 (fun z => absurd ((nv_lt (a := d10) (b := pe) rfl rfl (by omega) (by omega)).mp z) (by omega))
                | succ k9 ih13 =>
                  intro d10 sm_11 hk hv
                  have hv : ((s_X7_counts_L137 vs_7 k9 (d10 + 1) (sm_11 + (vs_7 d10))), vs_7) = V := hv
                  refine r_il C dX7_counts_137 0 rfl ?_
                  refine r_aln C dX7_counts_139 rfl 2 rfl ?_
                  refine gf_X7_77 C 0 rfl rfl dX7_counts_140 ?_
                  refine r_icge C (tgt := 168) dX7_counts_143 (by decide) (fun c14 => ?_) (fun c14 => ?_)
                  · exact absurd ((nv_lt (a := d10) (b := pe) rfl rfl (by omega) (by omega)).mpr (by omega)) c14
                  · skip
                    refine r_aln C dX7_counts_146 rfl 2 rfl ?_
                    refine r_dup C dX7_counts_147 rfl ?_
                    refine gf_X7_173 C 0 rfl rfl dX7_counts_148 ?_
                    refine r_aln C dX7_counts_151 rfl 2 rfl ?_
                    refine gf_X7_40 C 0 rfl rfl dX7_counts_152 ?_
                    refine r_il C dX7_counts_155 0 rfl ?_
                    refine r_iald C 11 d10 rfl rfl (by omega) (by decide) rfl dX7_counts_157 ?_
                    refine r_iadd C dX7_counts_158 ?_
                    refine pf_X7_173 C (ws2 := wM D o q1 q2 q3 q4 q5 q6 q7 q8 q9 q10 q11 q12 q13 q14 q15 q16 q17 q18 q19 q20 q21 q22 pe n la ri td ys ty ap wg rd (sm_11 + (vs_7 d10)) bt up lw ii kd dy nd co od wo tp rk ry rn vs_7 bs ch tr en du ol ig ln sz it mo) h0 rfl 0 rfl (Nat.le_of_ble_eq_true rfl) dX7_counts_159 rfl rfl ?_
                    refine r_inc C (v := nI (d10 + 1)) (lv' := [(4, .int (nI (d10 + 1))), (3, .int (s_X7_stands n kd nd right old)), (0, .ref o), (1, .int right), (2, .int old)]) dX7_counts_162 0 rfl (inc_nI d10) (by decide) rfl ?_
                    refine r_goto C (tgt := 137) dX7_counts_165 (by decide) ?_
                    exact ih13 (d10 + 1) (sm_11 + (vs_7 d10)) (by omega) hv
              refine r_lve (lv2 := [(4, .int (nI 0)), (3, .int (s_X7_stands n kd nd right old)), (0, .ref o), (1, .int right), (2, .int old)]) (congrArg (fun (z : Int32) => ([(4, .int z), (3, .int (s_X7_stands n kd nd right old)), (0, .ref o), (1, .int right), (2, .int old)] : List (Nat × Value))) rfl) ?_
              exact L15 pe 0 (0 : Int32) (by omega) hv
            · exact absurd c8 (fun z => absurd ((nv_lt (a := d6) (b := n) rfl rfl (by omega) (by omega)).mp z) (by omega))
          | succ k5 ih16 =>
            intro d6 vs_7 hk hv
            have hv : ((s_X7_counts_L137 (s_X7_counts_L38 pe n kd nd co wo right old k5 (d6 + 1) (s_X7_counts_m128_0 pe co wo right d6 (s_X7_counts_L50 n kd nd wo right old d6 pe 0 vs_7))) pe 0 (0 : Int32)), (s_X7_counts_L38 pe n kd nd co wo right old k5 (d6 + 1) (s_X7_counts_m128_0 pe co wo right d6 (s_X7_counts_L50 n kd nd wo right old d6 pe 0 vs_7)))) = V := hv
            refine r_il C dX7_counts_38 0 rfl ?_
            refine r_aln C dX7_counts_40 rfl 2 rfl ?_
            refine gf_X7_84 C 0 rfl rfl dX7_counts_41 ?_
            refine r_icge C (tgt := 134) dX7_counts_44 (by decide) (fun c17 => ?_) (fun c17 => ?_)
            · exact absurd ((nv_lt (a := d6) (b := n) rfl rfl (by omega) (by omega)).mpr (by omega)) c17
            · skip
              refine r_ic C (v := (0 : Int32)) dX7_counts_47 (by decide) ?_
              refine r_is C (lv' := [(5, .int (0 : Int32)), (4, .int (nI d6)), (3, .int (s_X7_stands n kd nd right old)), (0, .ref o), (1, .int right), (2, .int old)]) dX7_counts_48 (by decide) rfl ?_
              have X21 : ∀ (vs_20 : Nat → Int32), ((s_X7_counts_L137 (s_X7_counts_L38 pe n kd nd co wo right old k5 (d6 + 1) (s_X7_counts_m128_0 pe co wo right d6 vs_20)) pe 0 (0 : Int32)), (s_X7_counts_L38 pe n kd nd co wo right old k5 (d6 + 1) (s_X7_counts_m128_0 pe co wo right d6 vs_20))) = V → GM p_ l e_ s_ m_ below_ meth_ c_ D 2 48 6 [.ref o, .int right, .int old] (wM D o q1 q2 q3 q4 q5 q6 q7 q8 q9 q10 q11 q12 q13 q14 q15 q16 q17 q18 q19 q20 q21 q22 pe n la ri td ys ty ap wg rd V.1 bt up lw ii kd dy nd co od wo tp rk ry rn V.2 bs ch tr en du ol ig ln sz it mo) (Ad (wM D o q1 q2 q3 q4 q5 q6 q7 q8 q9 q10 q11 q12 q13 q14 q15 q16 q17 q18 q19 q20 q21 q22 pe n la ri td ys ty ap wg rd sm bt up lw ii kd dy nd co od wo tp rk ry rn vs bs ch tr en du ol ig ln sz it mo)) (none) (wM D o q1 q2 q3 q4 q5 q6 q7 q8 q9 q10 q11 q12 q13 q14 q15 q16 q17 q18 q19 q20 q21 q22 pe n la ri td ys ty ap wg rd (0 : Int32) bt up lw ii kd dy nd co od wo tp rk ry rn vs_20 bs ch tr en du ol ig ln sz it mo) 97 [(4, .int (nI d6)), (3, .int (s_X7_stands n kd nd right old)), (0, .ref o), (1, .int right), (2, .int old)] [] := by
                intro vs_20 hv
                refine r_iln C dX7_counts_97 rfl 3 rfl ?_
                refine r_il C dX7_counts_98 0 rfl ?_
                refine r_ishr C dX7_counts_100 ?_
                refine r_ic C (v := (1 : Int32)) dX7_counts_101 (by decide) ?_
                refine r_iand C dX7_counts_102 ?_
                refine r_ic C (v := (1 : Int32)) dX7_counts_103 (by decide) ?_
                have J23 : GM p_ l e_ s_ m_ below_ meth_ c_ D 2 48 6 [.ref o, .int right, .int old] (wM D o q1 q2 q3 q4 q5 q6 q7 q8 q9 q10 q11 q12 q13 q14 q15 q16 q17 q18 q19 q20 q21 q22 pe n la ri td ys ty ap wg rd V.1 bt up lw ii kd dy nd co od wo tp rk ry rn V.2 bs ch tr en du ol ig ln sz it mo) (Ad (wM D o q1 q2 q3 q4 q5 q6 q7 q8 q9 q10 q11 q12 q13 q14 q15 q16 q17 q18 q19 q20 q21 q22 pe n la ri td ys ty ap wg rd sm bt up lw ii kd dy nd co od wo tp rk ry rn vs bs ch tr en du ol ig ln sz it mo)) (none) (wM D o q1 q2 q3 q4 q5 q6 q7 q8 q9 q10 q11 q12 q13 q14 q15 q16 q17 q18 q19 q20 q21 q22 pe n la ri td ys ty ap wg rd (0 : Int32) bt up lw ii kd dy nd co od wo tp rk ry rn (s_X7_counts_m128_0 pe co wo right d6 vs_20) bs ch tr en du ol ig ln sz it mo) 128 [(4, .int (nI d6)), (3, .int (s_X7_stands n kd nd right old)), (0, .ref o), (1, .int right), (2, .int old)] [] := by
                  refine r_inc C (v := nI (d6 + 1)) (lv' := [(4, .int (nI (d6 + 1))), (3, .int (s_X7_stands n kd nd right old)), (0, .ref o), (1, .int right), (2, .int old)]) dX7_counts_128 0 rfl (inc_nI d6) (by decide) rfl ?_
                  refine r_goto C (tgt := 38) dX7_counts_131 (by decide) ?_
                  exact ih16 (d6 + 1) (s_X7_counts_m128_0 pe co wo right d6 vs_20) (by omega) hv
                refine r_icne C (tgt := 128) dX7_counts_104 (by decide) (fun c22 => ?_) (fun c22 => ?_)
                · skip
                  refine r_lv [0, 1, 2, 3, 4] rfl ?_
                  exact (by have z := J23; rw [show (s_X7_counts_m128_0 pe co wo right d6 vs_20) = vs_20 from (by unfold s_X7_counts_m128_0; first | rfl | ((try rw [if_neg (show ¬ ((right >>> ((nI d6) &&& 31)) &&& (1 : Int32) = (1 : Int32)) from by assumption)]); (try rfl); done) | (simp only [if_pos, if_neg, *, not_false_eq_true, ite_true, ite_false, if_true, if_false]; done) | (simp [*]; done))] at z; exact z)
                · skip
                  refine r_aln C dX7_counts_107 rfl 2 rfl ?_
                  refine gf_X7_40 C 0 rfl rfl dX7_counts_108 ?_
                  refine r_aln C dX7_counts_111 rfl 2 rfl ?_
                  refine r_il C dX7_counts_112 0 rfl ?_
                  refine aft_rd (st' := [.int (s_X7_bearer pe wo d6), .ref q11]) (run_V (rest := [.ref q11]) C (c_X7_bearer l D o q1 q2 q3 q4 q5 q6 q7 q8 q9 q10 q11 q12 q13 q14 q15 q16 q17 q18 q19 q20 q21 q22 pe n la ri td ys ty ap wg rd (0 : Int32) bt up lw ii kd dy nd co od wo tp rk ry rn vs_20 bs ch tr en du ol ig ln sz it mo d6 (by omega) (by omega)) ok_X7_bearer wn_X7_bearer wl_X7_bearer wm_X7_170 _ 0 rfl rfl rfl ⟨Nat.le_of_ble_eq_true rfl, Nat.le_of_ble_eq_true rfl⟩ fm_all rfl (Nat.le_of_ble_eq_true rfl) dX7_counts_114) rfl ?_
                  refine r_top (mbear hp).1 ?_
                  have hbr := (mbear (wo := wo) (d := d6) hp).2
                  refine r_dup211 C dX7_counts_117 rfl rfl ?_
                  refine r_iald C 11 ((s_X7_bearer pe wo d6).toNatClampNeg) rfl rfl (by omega) (by decide) rfl dX7_counts_118 ?_
                  refine r_aln C dX7_counts_119 rfl 2 rfl ?_
                  refine gf_X7_19 C 0 rfl rfl dX7_counts_120 ?_
                  refine r_il C dX7_counts_123 0 rfl ?_
                  refine r_iald C 4 d6 rfl rfl (by omega) (by decide) rfl dX7_counts_125 ?_
                  refine r_isub C dX7_counts_126 ?_
                  refine r_iast C (ws2 := wM D o q1 q2 q3 q4 q5 q6 q7 q8 q9 q10 q11 q12 q13 q14 q15 q16 q17 q18 q19 q20 q21 q22 pe n la ri td ys ty ap wg rd (0 : Int32) bt up lw ii kd dy nd co od wo tp rk ry rn (upd vs_20 ((s_X7_bearer pe wo d6).toNatClampNeg) ((vs_20 ((s_X7_bearer pe wo d6).toNatClampNeg)) - (co d6))) bs ch tr en du ol ig ln sz it mo) h0 rfl 11 ((s_X7_bearer pe wo d6).toNatClampNeg) rfl rfl (by omega) (by decide) dX7_counts_127 rfl rfl ?_
                  refine r_lv [0, 1, 2, 3, 4] rfl ?_
                  exact (by have z := J23; rw [show (s_X7_counts_m128_0 pe co wo right d6 vs_20) = upd vs_20 ((s_X7_bearer pe wo d6).toNatClampNeg) ((vs_20 ((s_X7_bearer pe wo d6).toNatClampNeg)) - (co d6)) from (by unfold s_X7_counts_m128_0; first | rfl | ((try rw [if_pos (show (right >>> ((nI d6) &&& 31)) &&& (1 : Int32) = (1 : Int32) from by assumption)]); (try rfl); done) | (simp only [if_pos, if_neg, *, not_false_eq_true, ite_true, ite_false, if_true, if_false]; done) | (simp [*]; done))] at z; exact z)
              have L28 : ∀ (k18 : Nat) (d19 : Nat) (vs_20 : Nat → Int32), (d19 + k18 = pe) → ((s_X7_counts_L137 (s_X7_counts_L38 pe n kd nd co wo right old k5 (d6 + 1) (s_X7_counts_m128_0 pe co wo right d6 (s_X7_counts_L50 n kd nd wo right old d6 k18 d19 vs_20))) pe 0 (0 : Int32)), (s_X7_counts_L38 pe n kd nd co wo right old k5 (d6 + 1) (s_X7_counts_m128_0 pe co wo right d6 (s_X7_counts_L50 n kd nd wo right old d6 k18 d19 vs_20)))) = V → GM p_ l e_ s_ m_ below_ meth_ c_ D 2 48 6 [.ref o, .int right, .int old] (wM D o q1 q2 q3 q4 q5 q6 q7 q8 q9 q10 q11 q12 q13 q14 q15 q16 q17 q18 q19 q20 q21 q22 pe n la ri td ys ty ap wg rd V.1 bt up lw ii kd dy nd co od wo tp rk ry rn V.2 bs ch tr en du ol ig ln sz it mo) (Ad (wM D o q1 q2 q3 q4 q5 q6 q7 q8 q9 q10 q11 q12 q13 q14 q15 q16 q17 q18 q19 q20 q21 q22 pe n la ri td ys ty ap wg rd sm bt up lw ii kd dy nd co od wo tp rk ry rn vs bs ch tr en du ol ig ln sz it mo)) (none) (wM D o q1 q2 q3 q4 q5 q6 q7 q8 q9 q10 q11 q12 q13 q14 q15 q16 q17 q18 q19 q20 q21 q22 pe n la ri td ys ty ap wg rd (0 : Int32) bt up lw ii kd dy nd co od wo tp rk ry rn vs_20 bs ch tr en du ol ig ln sz it mo) 50 [(5, .int (nI d19)), (4, .int (nI d6)), (3, .int (s_X7_stands n kd nd right old)), (0, .ref o), (1, .int right), (2, .int old)] [] := by
                intro k18
                induction k18 with
                | zero =>
                  intro d19 vs_20 hk hv
                  have hv : ((s_X7_counts_L137 (s_X7_counts_L38 pe n kd nd co wo right old k5 (d6 + 1) (s_X7_counts_m128_0 pe co wo right d6 vs_20)) pe 0 (0 : Int32)), (s_X7_counts_L38 pe n kd nd co wo right old k5 (d6 + 1) (s_X7_counts_m128_0 pe co wo right d6 vs_20))) = V := hv
                  refine r_il C dX7_counts_50 0 rfl ?_
                  refine r_aln C dX7_counts_52 rfl 3 rfl ?_
                  refine gf_X7_77 C 0 rfl rfl dX7_counts_53 ?_
                  refine r_icge C (tgt := 97) dX7_counts_56 (by decide) (fun c24 => ?_) (fun c24 => ?_)
                  · skip
                    refine r_lv [1, 2, 3, 4, 5] rfl ?_
                    exact X21 vs_20 hv
                  · exact absurd c24 (fun z => absurd ((nv_lt (a := d19) (b := pe) rfl rfl (by omega) (by omega)).mp z) (by omega))
                | succ k18 ih25 =>
                  intro d19 vs_20 hk hv
                  have hv : ((s_X7_counts_L137 (s_X7_counts_L38 pe n kd nd co wo right old k5 (d6 + 1) (s_X7_counts_m128_0 pe co wo right d6 (if ((s_X7_stands n kd nd right old) >>> ((nI d6) &&& 31)) &&& (1 : Int32) = (1 : Int32) then (s_X7_counts_L50 n kd nd wo right old d6 k18 (d19 + 1) (upd vs_20 d19 ((vs_20 d19) + (wo ((4 * d6) + d19))))) else vs_20))) pe 0 (0 : Int32)), (s_X7_counts_L38 pe n kd nd co wo right old k5 (d6 + 1) (s_X7_counts_m128_0 pe co wo right d6 (if ((s_X7_stands n kd nd right old) >>> ((nI d6) &&& 31)) &&& (1 : Int32) = (1 : Int32) then (s_X7_counts_L50 n kd nd wo right old d6 k18 (d19 + 1) (upd vs_20 d19 ((vs_20 d19) + (wo ((4 * d6) + d19))))) else vs_20)))) = V := hv
                  refine r_il C dX7_counts_50 0 rfl ?_
                  refine r_aln C dX7_counts_52 rfl 3 rfl ?_
                  refine gf_X7_77 C 0 rfl rfl dX7_counts_53 ?_
                  refine r_icge C (tgt := 97) dX7_counts_56 (by decide) (fun c26 => ?_) (fun c26 => ?_)
                  · exact absurd ((nv_lt (a := d19) (b := pe) rfl rfl (by omega) (by omega)).mpr (by omega)) c26
                  · skip
                    refine r_iln C dX7_counts_59 rfl 2 rfl ?_
                    refine r_il C dX7_counts_60 1 rfl ?_
                    refine r_ishr C dX7_counts_62 ?_
                    refine r_ic C (v := (1 : Int32)) dX7_counts_63 (by decide) ?_
                    refine r_iand C dX7_counts_64 ?_
                    refine r_ic C (v := (1 : Int32)) dX7_counts_65 (by decide) ?_
                    refine r_icne C (tgt := 97) dX7_counts_66 (by decide) (fun c27 => ?_) (fun c27 => ?_)
                    · rw [if_neg c27] at hv
                      refine r_lv [1, 2, 3, 4, 5] rfl ?_
                      exact X21 vs_20 hv
                    · rw [if_pos c27] at hv
                      refine r_aln C dX7_counts_69 rfl 3 rfl ?_
                      refine gf_X7_40 C 0 rfl rfl dX7_counts_70 ?_
                      refine r_il C dX7_counts_73 0 rfl ?_
                      refine r_dup211 C dX7_counts_75 rfl rfl ?_
                      refine r_iald C 11 d19 rfl rfl (by omega) (by decide) rfl dX7_counts_76 ?_
                      refine r_aln C dX7_counts_77 rfl 3 rfl ?_
                      refine gf_X7_25 C 0 rfl rfl dX7_counts_78 ?_
                      refine r_ic C (v := (4 : Int32)) dX7_counts_81 (by decide) ?_
                      refine r_il C dX7_counts_82 1 rfl ?_
                      refine r_imul C dX7_counts_84 ?_
                      refine r_il C dX7_counts_85 0 rfl ?_
                      refine r_iadd C dX7_counts_87 ?_
                      refine r_iald C 6 ((4 * d6) + d19) rfl (nv_add (nv_mul rfl rfl) rfl) (by omega) (by decide) rfl dX7_counts_88 ?_
                      refine r_iadd C dX7_counts_89 ?_
                      refine r_iast C (ws2 := wM D o q1 q2 q3 q4 q5 q6 q7 q8 q9 q10 q11 q12 q13 q14 q15 q16 q17 q18 q19 q20 q21 q22 pe n la ri td ys ty ap wg rd (0 : Int32) bt up lw ii kd dy nd co od wo tp rk ry rn (upd vs_20 d19 ((vs_20 d19) + (wo ((4 * d6) + d19)))) bs ch tr en du ol ig ln sz it mo) h0 rfl 11 d19 rfl rfl (by omega) (by decide) dX7_counts_90 rfl rfl ?_
                      refine r_inc C (v := nI (d19 + 1)) (lv' := [(5, .int (nI (d19 + 1))), (4, .int (nI d6)), (3, .int (s_X7_stands n kd nd right old)), (0, .ref o), (1, .int right), (2, .int old)]) dX7_counts_91 0 rfl (inc_nI d19) (by decide) rfl ?_
                      refine r_goto C (tgt := 50) dX7_counts_94 (by decide) ?_
                      exact ih25 (d19 + 1) (upd vs_20 d19 ((vs_20 d19) + (wo ((4 * d6) + d19)))) (by omega) hv
              refine r_lve (lv2 := [(5, .int (nI 0)), (4, .int (nI d6)), (3, .int (s_X7_stands n kd nd right old)), (0, .ref o), (1, .int right), (2, .int old)]) (congrArg (fun (z : Int32) => ([(5, .int z), (4, .int (nI d6)), (3, .int (s_X7_stands n kd nd right old)), (0, .ref o), (1, .int right), (2, .int old)] : List (Nat × Value))) rfl) ?_
              exact L28 pe 0 vs_7 (by omega) hv
        refine r_lve (lv2 := [(4, .int (nI 0)), (3, .int (s_X7_stands n kd nd right old)), (0, .ref o), (1, .int right), (2, .int old)]) (congrArg (fun (z : Int32) => ([(4, .int z), (3, .int (s_X7_stands n kd nd right old)), (0, .ref o), (1, .int right), (2, .int old)] : List (Nat × Value))) rfl) ?_
        exact L29 n 0 vs_3 (by omega) hv
      · exact absurd c4 (fun z => absurd ((nv_lt (a := d2) (b := 4) rfl rfl (by omega) (by omega)).mp z) (by omega))
    | succ k1 ih30 =>
      intro d2 vs_3 hk hv
      have hv : ((s_X7_counts_L137 (s_X7_counts_L38 pe n kd nd co wo right old n 0 (s_X7_counts_L15  k1 (d2 + 1) (upd vs_3 d2 (0 : Int32)))) pe 0 (0 : Int32)), (s_X7_counts_L38 pe n kd nd co wo right old n 0 (s_X7_counts_L15  k1 (d2 + 1) (upd vs_3 d2 (0 : Int32))))) = V := hv
      refine r_il C dX7_counts_15 0 rfl ?_
      refine r_ic C (v := (4 : Int32)) dX7_counts_17 (by decide) ?_
      refine r_icge C (tgt := 35) dX7_counts_18 (by decide) (fun c31 => ?_) (fun c31 => ?_)
      · exact absurd ((nv_lt (a := d2) (b := 4) rfl rfl (by omega) (by omega)).mpr (by omega)) c31
      · skip
        refine r_aln C dX7_counts_21 rfl 2 rfl ?_
        refine gf_X7_40 C 0 rfl rfl dX7_counts_22 ?_
        refine r_il C dX7_counts_25 0 rfl ?_
        refine r_ic C (v := (0 : Int32)) dX7_counts_27 (by decide) ?_
        refine r_iast C (ws2 := wM D o q1 q2 q3 q4 q5 q6 q7 q8 q9 q10 q11 q12 q13 q14 q15 q16 q17 q18 q19 q20 q21 q22 pe n la ri td ys ty ap wg rd (0 : Int32) bt up lw ii kd dy nd co od wo tp rk ry rn (upd vs_3 d2 (0 : Int32)) bs ch tr en du ol ig ln sz it mo) h0 rfl 11 d2 rfl rfl (by omega) (by decide) dX7_counts_28 rfl rfl ?_
        refine r_inc C (v := nI (d2 + 1)) (lv' := [(4, .int (nI (d2 + 1))), (3, .int (s_X7_stands n kd nd right old)), (0, .ref o), (1, .int right), (2, .int old)]) dX7_counts_29 0 rfl (inc_nI d2) (by decide) rfl ?_
        refine r_goto C (tgt := 15) dX7_counts_32 (by decide) ?_
        exact ih30 (d2 + 1) (upd vs_3 d2 (0 : Int32)) (by omega) hv
  refine r_lve (lv2 := [(4, .int (nI 0)), (3, .int (s_X7_stands n kd nd right old)), (0, .ref o), (1, .int right), (2, .int old)]) (congrArg (fun (z : Int32) => ([(4, .int z), (3, .int (s_X7_stands n kd nd right old)), (0, .ref o), (1, .int right), (2, .int old)] : List (Nat × Value))) rfl) ?_
  exact L32 4 0 vs (by omega) hv

