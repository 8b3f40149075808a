def s_X7_wanted_m97_0 (n : Nat) (la : Int32) (kd : Nat → Int32) (nd : Nat → Int32) (d5 : Nat) (best_6 : Int32) : Nat := (if (nI d5) &&& ((s_X7_stands n kd nd (0 : Int32) la) ^^^ (-1 : Int32)) = (0 : Int32) then (if (4 : Int32) < s_X7_size d5 then 0 else (if best_6 = (-4 : Int32) then 1 else (if s_X7_size d5 < s_X7_size best_6.toNatClampNeg then 1 else 0))) else 0)
def s_X7_wanted_L43 (n : Nat) (la : Int32) (kd : Nat → Int32) (dy : Nat → Int32) (nd : Nat → Int32) (must : Int32) (no : Int32) : Nat → Nat → Int32 → Int32
  | 0, _, best_6 => best_6
  | k4 + 1, d5, best_6 => (if nI (s_X7_wanted_m97_0 n la kd nd d5 best_6) = (0 : Int32) then (s_X7_wanted_L43 n la kd dy nd must no k4 (d5 + 1) best_6) else (if s_X7_isWalk n dy (nI d5) (s_X7_stands n kd nd (0 : Int32) la) = (0 : Int32) then (s_X7_wanted_L43 n la kd dy nd must no k4 (d5 + 1) best_6) else (if must &&& ((s_X7_stands n kd nd (nI d5) la) ^^^ (-1 : Int32)) = (0 : Int32) then (if no &&& (s_X7_stands n kd nd (nI d5) la) = (0 : Int32) then (s_X7_wanted_L43 n la kd dy nd must no k4 (d5 + 1) (nI d5)) else (s_X7_wanted_L43 n la kd dy nd must no k4 (d5 + 1) best_6)) else (s_X7_wanted_L43 n la kd dy nd must no k4 (d5 + 1) best_6))))
def s_X7_wanted (n : Nat) (la : Int32) (kd : Nat → Int32) (dy : Nat → Int32) (nd : Nat → Int32) (must : Int32) (no : Int32) : Int32 := (if s_X7_areDeeds n must.toInt64 = (0 : Int32) then (-1 : Int32) else (if s_X7_areDeeds n no.toInt64 = (0 : Int32) then (-1 : Int32) else (if must &&& no = (0 : Int32) then (s_X7_wanted_L43 n la kd dy nd must no (2 ^ n) 0 (-4 : Int32)) else (-1 : Int32))))
set_option maxHeartbeats 8000000 in
set_option maxRecDepth 100000 in
theorem c_X7_wanted (l : Launch) (D : va_G) (o : Nat) (q1 : Nat) (q2 : Nat) (q3 : Nat) (q4 : Nat) (q5 : Nat) (q6 : Nat) (q7 : Nat) (q8 : Nat) (q9 : Nat) (q10 : Nat) (q11 : Nat) (q12 : Nat) (q13 : Nat) (q14 : Nat) (q15 : Nat) (q16 : Nat) (q17 : Nat) (q18 : Nat) (q19 : Nat) (q20 : Nat) (q21 : Nat) (q22 : Nat) (pe : Nat) (n : Nat) (la : Int32) (ri : Int32) (td : Int32) (ys : Int32) (ty : Nat) (ap : Nat) (wg : Int32) (rd : Nat) (sm : Int32) (bt : Int32) (up : Int64) (lw : Int64) (ii : Int32) (kd : Nat → Int32) (dy : Nat → Int32) (nd : Nat → Int32) (co : Nat → Int32) (od : Nat → Int32) (wo : Nat → Int32) (tp : Nat → Int32) (rk : Nat → Int32) (ry : Nat → Int32) (rn : Nat → Int32) (vs : Nat → Int32) (bs : Nat → Int32) (ch : Nat → Int32) (tr : Nat → Int32) (en : Nat → Int32) (du : Nat → Int32) (ol : Nat → Int32) (ig : Nat → Int32) (ln : Nat → Int32) (sz : Nat → Int32) (it : Nat → Int64) (mo : Nat → Int64) (must : Int32) (no : Int32) (hn : n ≤ 12) : ct l yX7_wanted cX7_wanted 8 (some .int) 2 48 D [.ref o, .int must, .int no] (wM D o q1 q2 q3 q4 q5 q6 q7 q8 q9 q10 q11 q12 q13 q14 q15 q16 q17 q18 q19 q20 q21 q22 pe n la ri td ys ty ap wg rd sm bt up lw ii kd dy nd co od wo tp rk ry rn vs bs ch tr en du ol ig ln sz it mo) (wM D o q1 q2 q3 q4 q5 q6 q7 q8 q9 q10 q11 q12 q13 q14 q15 q16 q17 q18 q19 q20 q21 q22 pe n la ri td ys ty ap wg rd sm bt up lw ii kd dy nd co od wo tp rk ry rn vs bs ch tr en du ol ig ln sz it mo) (fun _ => False) (some (Value.int (s_X7_wanted n la kd dy nd must no))) := by
  obtain ⟨V, hv⟩ : ∃ V, s_X7_wanted n la kd dy nd must no = V := ⟨_, rfl⟩
  rw [hv]
  refine ct_intro (own := RX7) (lv := [(0, .ref o), (1, .int must), (2, .int no)]) (by decide) rfl (Nat.le_of_ble_eq_true rfl) rfl ?_
  intro p_ e_ s_ m_ below_ meth_ c_ C
  have hv : (if s_X7_areDeeds n must.toInt64 = (0 : Int32) then (-1 : Int32) else (if s_X7_areDeeds n no.toInt64 = (0 : Int32) then (-1 : Int32) else (if must &&& no = (0 : Int32) then (s_X7_wanted_L43 n la kd dy nd must no (2 ^ n) 0 (-4 : Int32)) else (-1 : Int32)))) = V := hv
  refine r_aln C dX7_wanted_0 rfl 0 rfl ?_
  refine r_iln C dX7_wanted_1 rfl 1 rfl ?_
  refine r_i2l C dX7_wanted_2 ?_
  refine aft_rd (st' := [.int (s_X7_areDeeds n must.toInt64)]) (run_V (rest := []) C (c_X7_areDeeds l D o q1 q2 q3 q4 q5 q6 q7 q8 q9 q10 q11 q12 q13 q14 q15 q16 q17 q18 q19 q20 q21 q22 pe n la ri td ys ty ap wg rd sm bt up lw ii kd dy nd co od wo tp rk ry rn vs bs ch tr en du ol ig ln sz it mo must.toInt64 (by omega)) ok_X7_areDeeds wn_X7_areDeeds wl_X7_areDeeds wm_X7_128 _ 0 rfl rfl rfl ⟨Nat.le_of_ble_eq_true rfl, Nat.le_of_ble_eq_true rfl⟩ fm_all rfl (Nat.le_of_ble_eq_true rfl) dX7_wanted_3) rfl ?_
  refine r_ifeq C (tgt := 24) dX7_wanted_6 (by decide) (fun c1 => ?_) (fun c1 => ?_)
  · rw [if_pos c1] at hv
    refine r_ic C (v := (-1 : Int32)) dX7_wanted_24 (by decide) ?_
    exact r_iret rfl C (congrArg (fun z => some (Value.int z)) hv) rfl dX7_wanted_25
  · rw [if_neg c1] at hv
    refine r_aln C dX7_wanted_9 rfl 0 rfl ?_
    refine r_iln C dX7_wanted_10 rfl 2 rfl ?_
    refine r_i2l C dX7_wanted_11 ?_
    refine aft_rd (st' := [.int (s_X7_areDeeds n no.toInt64)]) (run_V (rest := []) C (c_X7_areDeeds l D o q1 q2 q3 q4 q5 q6 q7 q8 q9 q10 q11 q12 q13 q14 q15 q16 q17 q18 q19 q20 q21 q22 pe n la ri td ys ty ap wg rd sm bt up lw ii kd dy nd co od wo tp rk ry rn vs bs ch tr en du ol ig ln sz it mo no.toInt64 (by omega)) ok_X7_areDeeds wn_X7_areDeeds wl_X7_areDeeds wm_X7_128 _ 0 rfl rfl rfl ⟨Nat.le_of_ble_eq_true rfl, Nat.le_of_ble_eq_true rfl⟩ fm_all rfl (Nat.le_of_ble_eq_true rfl) dX7_wanted_12) rfl ?_
    refine r_ifeq C (tgt := 24) dX7_wanted_15 (by decide) (fun c2 => ?_) (fun c2 => ?_)
    · rw [if_pos c2] at hv
      refine r_ic C (v := (-1 : Int32)) dX7_wanted_24 (by decide) ?_
      exact r_iret rfl C (congrArg (fun z => some (Value.int z)) hv) rfl dX7_wanted_25
    · rw [if_neg c2] at hv
      refine r_iln C dX7_wanted_18 rfl 1 rfl ?_
      refine r_iln C dX7_wanted_19 rfl 2 rfl ?_
      refine r_iand C dX7_wanted_20 ?_
      refine r_ifeq C (tgt := 26) dX7_wanted_21 (by decide) (fun c3 => ?_) (fun c3 => ?_)
      · rw [if_pos c3] at hv
        refine r_aln C dX7_wanted_26 rfl 0 rfl ?_
        refine r_ic C (v := (0 : Int32)) dX7_wanted_27 (by decide) ?_
        refine r_aln C dX7_wanted_28 rfl 0 rfl ?_
        refine gf_X7_116 C 0 rfl rfl dX7_wanted_29 ?_
        refine aft_rd (st' := [.int (s_X7_stands n kd nd (0 : Int32) la)]) (run_V (rest := []) C (c_X7_stands l D o q1 q2 q3 q4 q5 q6 q7 q8 q9 q10 q11 q12 q13 q14 q15 q16 q17 q18 q19 q20 q21 q22 pe n la ri td ys ty ap wg rd sm bt up lw ii kd dy nd co od wo tp rk ry rn vs bs ch tr en du ol ig ln sz it mo (0 : Int32) la (by omega)) ok_X7_stands wn_X7_stands wl_X7_stands wm_X7_119 _ 0 rfl rfl rfl ⟨Nat.le_of_ble_eq_true rfl, Nat.le_of_ble_eq_true rfl⟩ fm_all rfl (Nat.le_of_ble_eq_true rfl) dX7_wanted_32) rfl ?_
        refine r_isn C (lv' := [(3, .int (s_X7_stands n kd nd (0 : Int32) la)), (0, .ref o), (1, .int must), (2, .int no)]) dX7_wanted_35 rfl (by decide) rfl ?_
        have hpn := pw_le hn
        refine r_bp C (v := (-4 : Int32)) dX7_wanted_36 (by decide) ?_
        refine r_is C (lv' := [(4, .int (-4 : Int32)), (3, .int (s_X7_stands n kd nd (0 : Int32) la)), (0, .ref o), (1, .int must), (2, .int no)]) dX7_wanted_38 (by decide) rfl ?_
        refine r_ic C (v := (0 : Int32)) dX7_wanted_40 (by decide) ?_
        refine r_is C (lv' := [(5, .int (0 : Int32)), (4, .int (-4 : Int32)), (3, .int (s_X7_stands n kd nd (0 : Int32) la)), (0, .ref o), (1, .int must), (2, .int no)]) dX7_wanted_41 (by decide) rfl ?_
        have L20 : ∀ (k4 : Nat) (d5 : Nat) (best_6 : Int32), (d5 + k4 = 2 ^ n) → (bestOK best_6) → (s_X7_wanted_L43 n la kd dy nd must no k4 d5 best_6) = V → GM p_ l e_ s_ m_ below_ meth_ c_ D 2 48 8 [.ref o, .int must, .int no] (wM D o q1 q2 q3 q4 q5 q6 q7 q8 q9 q10 q11 q12 q13 q14 q15 q16 q17 q18 q19 q20 q21 q22 pe n la ri td ys ty ap wg rd sm bt up lw ii kd dy nd co od wo tp rk ry rn vs bs ch tr en du ol ig ln sz it mo) (fun _ => False) (some (Value.int V)) (wM D o q1 q2 q3 q4 q5 q6 q7 q8 q9 q10 q11 q12 q13 q14 q15 q16 q17 q18 q19 q20 q21 q22 pe n la ri td ys ty ap wg rd sm bt up lw ii kd dy nd co od wo tp rk ry rn vs bs ch tr en du ol ig ln sz it mo) 43 [(5, .int (nI d5)), (4, .int best_6), (3, .int (s_X7_stands n kd nd (0 : Int32) la)), (0, .ref o), (1, .int must), (2, .int no)] [] := by
          intro k4
          induction k4 with
          | zero =>
            intro d5 best_6 hk hb hv
            have hv : best_6 = V := hv
            refine r_il C dX7_wanted_43 0 rfl ?_
            refine r_ic C (v := (1 : Int32)) dX7_wanted_45 (by decide) ?_
            refine r_aln C dX7_wanted_46 rfl 3 rfl ?_
            refine gf_X7_84 C 0 rfl rfl dX7_wanted_47 ?_
            refine r_ishl C dX7_wanted_50 ?_
            refine r_top (sh1 n (by omega)) ?_
            refine r_icge C (tgt := 157) dX7_wanted_51 (by decide) (fun c7 => ?_) (fun c7 => ?_)
            · skip
              refine r_il C dX7_wanted_157 1 rfl ?_
              exact r_iret rfl C (congrArg (fun z => some (Value.int z)) hv) rfl dX7_wanted_159
            · exact absurd c7 (fun z => absurd ((nv_lt (a := d5) (b := 2 ^ n) rfl rfl (by omega) (by omega)).mp z) (by omega))
          | succ k4 ih8 =>
            intro d5 best_6 hk hb hv
            have hv : (if nI (s_X7_wanted_m97_0 n la kd nd d5 best_6) = (0 : Int32) then (s_X7_wanted_L43 n la kd dy nd must no k4 (d5 + 1) best_6) else (if s_X7_isWalk n dy (nI d5) (s_X7_stands n kd nd (0 : Int32) la) = (0 : Int32) then (s_X7_wanted_L43 n la kd dy nd must no k4 (d5 + 1) best_6) else (if must &&& ((s_X7_stands n kd nd (nI d5) la) ^^^ (-1 : Int32)) = (0 : Int32) then (if no &&& (s_X7_stands n kd nd (nI d5) la) = (0 : Int32) then (s_X7_wanted_L43 n la kd dy nd must no k4 (d5 + 1) (nI d5)) else (s_X7_wanted_L43 n la kd dy nd must no k4 (d5 + 1) best_6)) else (s_X7_wanted_L43 n la kd dy nd must no k4 (d5 + 1) best_6)))) = V := hv
            refine r_il C dX7_wanted_43 0 rfl ?_
            refine r_ic C (v := (1 : Int32)) dX7_wanted_45 (by decide) ?_
            refine r_aln C dX7_wanted_46 rfl 3 rfl ?_
            refine gf_X7_84 C 0 rfl rfl dX7_wanted_47 ?_
            refine r_ishl C dX7_wanted_50 ?_
            refine r_top (sh1 n (by omega)) ?_
            refine r_icge C (tgt := 157) dX7_wanted_51 (by decide) (fun c9 => ?_) (fun c9 => ?_)
            · exact absurd ((nv_lt (a := d5) (b := 2 ^ n) rfl rfl (by omega) (by omega)).mpr (by omega)) c9
            · skip
              refine r_il C dX7_wanted_54 0 rfl ?_
              refine r_iln C dX7_wanted_56 rfl 2 rfl ?_
              refine r_ic C (v := (-1 : Int32)) dX7_wanted_57 (by decide) ?_
              refine r_ixor C dX7_wanted_58 ?_
              refine r_iand C dX7_wanted_59 ?_
              have J19 : GM p_ l e_ s_ m_ below_ meth_ c_ D 2 48 8 [.ref o, .int must, .int no] (wM D o q1 q2 q3 q4 q5 q6 q7 q8 q9 q10 q11 q12 q13 q14 q15 q16 q17 q18 q19 q20 q21 q22 pe n la ri td ys ty ap wg rd sm bt up lw ii kd dy nd co od wo tp rk ry rn vs bs ch tr en du ol ig ln sz it mo) (fun _ => False) (some (Value.int V)) (wM D o q1 q2 q3 q4 q5 q6 q7 q8 q9 q10 q11 q12 q13 q14 q15 q16 q17 q18 q19 q20 q21 q22 pe n la ri td ys ty ap wg rd sm bt up lw ii kd dy nd co od wo tp rk ry rn vs bs ch tr en du ol ig ln sz it mo) 97 [(5, .int (nI d5)), (4, .int best_6), (3, .int (s_X7_stands n kd nd (0 : Int32) la)), (0, .ref o), (1, .int must), (2, .int no)] [.int (nI (s_X7_wanted_m97_0 n la kd nd d5 best_6))] := by
                refine r_is C (lv' := [(6, .int (nI (s_X7_wanted_m97_0 n la kd nd d5 best_6))), (5, .int (nI d5)), (4, .int best_6), (3, .int (s_X7_stands n kd nd (0 : Int32) la)), (0, .ref o), (1, .int must), (2, .int no)]) dX7_wanted_97 (by decide) rfl ?_
                refine r_il C dX7_wanted_99 0 rfl ?_
                refine r_ifeq C (tgt := 151) dX7_wanted_101 (by decide) (fun c15 => ?_) (fun c15 => ?_)
                · rw [if_pos c15] at hv
                  refine r_inc C (v := nI (d5 + 1)) (lv' := [(5, .int (nI (d5 + 1))), (6, .int (nI (s_X7_wanted_m97_0 n la kd nd d5 best_6))), (4, .int best_6), (3, .int (s_X7_stands n kd nd (0 : Int32) la)), (0, .ref o), (1, .int must), (2, .int no)]) dX7_wanted_151 1 rfl (inc_nI d5) (by decide) rfl ?_
                  refine r_goto C (tgt := 43) dX7_wanted_154 (by decide) ?_
                  refine r_lv [0, 2, 3, 4, 5, 6] rfl ?_
                  exact ih8 (d5 + 1) best_6 (by omega) (by first | exact hb | exact bestOK_nI (by omega)) hv
                · rw [if_neg c15] at hv
                  refine r_aln C dX7_wanted_104 rfl 4 rfl ?_
                  refine r_il C dX7_wanted_105 1 rfl ?_
                  refine r_iln C dX7_wanted_107 rfl 3 rfl ?_
                  refine aft_rd (st' := [.int (s_X7_isWalk n dy (nI d5) (s_X7_stands n kd nd (0 : Int32) la))]) (run_V (rest := []) C (c_X7_isWalk l D o q1 q2 q3 q4 q5 q6 q7 q8 q9 q10 q11 q12 q13 q14 q15 q16 q17 q18 q19 q20 q21 q22 pe n la ri td ys ty ap wg rd sm bt up lw ii kd dy nd co od wo tp rk ry rn vs bs ch tr en du ol ig ln sz it mo (nI d5) (s_X7_stands n kd nd (0 : Int32) la) (by omega)) ok_X7_isWalk wn_X7_isWalk wl_X7_isWalk wm_X7_187 _ 0 rfl rfl rfl ⟨Nat.le_of_ble_eq_true rfl, Nat.le_of_ble_eq_true rfl⟩ fm_all rfl (Nat.le_of_ble_eq_true rfl) dX7_wanted_108) rfl ?_
                  refine r_ifeq C (tgt := 151) dX7_wanted_111 (by decide) (fun c16 => ?_) (fun c16 => ?_)
                  · rw [if_pos c16] at hv
                    refine r_inc C (v := nI (d5 + 1)) (lv' := [(5, .int (nI (d5 + 1))), (6, .int (nI (s_X7_wanted_m97_0 n la kd nd d5 best_6))), (4, .int best_6), (3, .int (s_X7_stands n kd nd (0 : Int32) la)), (0, .ref o), (1, .int must), (2, .int no)]) dX7_wanted_151 1 rfl (inc_nI d5) (by decide) rfl ?_
                    refine r_goto C (tgt := 43) dX7_wanted_154 (by decide) ?_
                    refine r_lv [0, 2, 3, 4, 5, 6] rfl ?_
                    exact ih8 (d5 + 1) best_6 (by omega) (by first | exact hb | exact bestOK_nI (by omega)) hv
                  · rw [if_neg c16] at hv
                    refine r_aln C dX7_wanted_114 rfl 4 rfl ?_
                    refine r_il C dX7_wanted_115 1 rfl ?_
                    refine r_aln C dX7_wanted_117 rfl 4 rfl ?_
                    refine gf_X7_116 C 0 rfl rfl dX7_wanted_118 ?_
                    refine aft_rd (st' := [.int (s_X7_stands n kd nd (nI d5) la)]) (run_V (rest := []) C (c_X7_stands l D o q1 q2 q3 q4 q5 q6 q7 q8 q9 q10 q11 q12 q13 q14 q15 q16 q17 q18 q19 q20 q21 q22 pe n la ri td ys ty ap wg rd sm bt up lw ii kd dy nd co od wo tp rk ry rn vs bs ch tr en du ol ig ln sz it mo (nI d5) la (by omega)) ok_X7_stands wn_X7_stands wl_X7_stands wm_X7_119 _ 0 rfl rfl rfl ⟨Nat.le_of_ble_eq_true rfl, Nat.le_of_ble_eq_true rfl⟩ fm_all rfl (Nat.le_of_ble_eq_true rfl) dX7_wanted_121) rfl ?_
                    refine r_is C (lv' := [(7, .int (s_X7_stands n kd nd (nI d5) la)), (6, .int (nI (s_X7_wanted_m97_0 n la kd nd d5 best_6))), (5, .int (nI d5)), (4, .int best_6), (3, .int (s_X7_stands n kd nd (0 : Int32) la)), (0, .ref o), (1, .int must), (2, .int no)]) dX7_wanted_124 (by decide) rfl ?_
                    refine r_iln C dX7_wanted_126 rfl 6 rfl ?_
                    refine r_il C dX7_wanted_127 0 rfl ?_
                    refine r_ic C (v := (-1 : Int32)) dX7_wanted_129 (by decide) ?_
                    refine r_ixor C dX7_wanted_130 ?_
                    refine r_iand C dX7_wanted_131 ?_
                    refine r_ifne C (tgt := 147) dX7_wanted_132 (by decide) (fun c17 => ?_) (fun c17 => ?_)
                    · rw [if_neg c17] at hv
                      refine r_il C dX7_wanted_147 3 rfl ?_
                      refine r_is C (lv' := [(4, .int best_6), (7, .int (s_X7_stands n kd nd (nI d5) la)), (6, .int (nI (s_X7_wanted_m97_0 n la kd nd d5 best_6))), (5, .int (nI d5)), (3, .int (s_X7_stands n kd nd (0 : Int32) la)), (0, .ref o), (1, .int must), (2, .int no)]) dX7_wanted_149 (by decide) rfl ?_
                      refine r_inc C (v := nI (d5 + 1)) (lv' := [(5, .int (nI (d5 + 1))), (4, .int best_6), (7, .int (s_X7_stands n kd nd (nI d5) la)), (6, .int (nI (s_X7_wanted_m97_0 n la kd nd d5 best_6))), (3, .int (s_X7_stands n kd nd (0 : Int32) la)), (0, .ref o), (1, .int must), (2, .int no)]) dX7_wanted_151 3 rfl (inc_nI d5) (by decide) rfl ?_
                      refine r_goto C (tgt := 43) dX7_wanted_154 (by decide) ?_
                      refine r_lv [0, 1, 4, 5, 6, 7] rfl ?_
                      exact ih8 (d5 + 1) best_6 (by omega) (by first | exact hb | exact bestOK_nI (by omega)) hv
                    · rw [if_pos c17] at hv
                      refine r_iln C dX7_wanted_135 rfl 7 rfl ?_
                      refine r_il C dX7_wanted_136 0 rfl ?_
                      refine r_iand C dX7_wanted_138 ?_
                      refine r_ifne C (tgt := 147) dX7_wanted_139 (by decide) (fun c18 => ?_) (fun c18 => ?_)
                      · rw [if_neg c18] at hv
                        refine r_il C dX7_wanted_147 3 rfl ?_
                        refine r_is C (lv' := [(4, .int best_6), (7, .int (s_X7_stands n kd nd (nI d5) la)), (6, .int (nI (s_X7_wanted_m97_0 n la kd nd d5 best_6))), (5, .int (nI d5)), (3, .int (s_X7_stands n kd nd (0 : Int32) la)), (0, .ref o), (1, .int must), (2, .int no)]) dX7_wanted_149 (by decide) rfl ?_
                        refine r_inc C (v := nI (d5 + 1)) (lv' := [(5, .int (nI (d5 + 1))), (4, .int best_6), (7, .int (s_X7_stands n kd nd (nI d5) la)), (6, .int (nI (s_X7_wanted_m97_0 n la kd nd d5 best_6))), (3, .int (s_X7_stands n kd nd (0 : Int32) la)), (0, .ref o), (1, .int must), (2, .int no)]) dX7_wanted_151 3 rfl (inc_nI d5) (by decide) rfl ?_
                        refine r_goto C (tgt := 43) dX7_wanted_154 (by decide) ?_
                        refine r_lv [0, 1, 4, 5, 6, 7] rfl ?_
                        exact ih8 (d5 + 1) best_6 (by omega) (by first | exact hb | exact bestOK_nI (by omega)) hv
                      · rw [if_pos c18] at hv
                        refine r_il C dX7_wanted_142 2 rfl ?_
                        refine r_goto C (tgt := 149) dX7_wanted_144 (by decide) ?_
                        refine r_is C (lv' := [(4, .int (nI d5)), (7, .int (s_X7_stands n kd nd (nI d5) la)), (6, .int (nI (s_X7_wanted_m97_0 n la kd nd d5 best_6))), (5, .int (nI d5)), (3, .int (s_X7_stands n kd nd (0 : Int32) la)), (0, .ref o), (1, .int must), (2, .int no)]) dX7_wanted_149 (by decide) rfl ?_
                        refine r_inc C (v := nI (d5 + 1)) (lv' := [(5, .int (nI (d5 + 1))), (4, .int (nI d5)), (7, .int (s_X7_stands n kd nd (nI d5) la)), (6, .int (nI (s_X7_wanted_m97_0 n la kd nd d5 best_6))), (3, .int (s_X7_stands n kd nd (0 : Int32) la)), (0, .ref o), (1, .int must), (2, .int no)]) dX7_wanted_151 3 rfl (inc_nI d5) (by decide) rfl ?_
                        refine r_goto C (tgt := 43) dX7_wanted_154 (by decide) ?_
                        refine r_lv [0, 1, 4, 5, 6, 7] rfl ?_
                        exact ih8 (d5 + 1) (nI d5) (by omega) (by first | exact hb | exact bestOK_nI (by omega)) hv
              refine r_ifne C (tgt := 96) dX7_wanted_60 (by decide) (fun c10 => ?_) (fun c10 => ?_)
              · skip
                refine r_ic C (v := (0 : Int32)) dX7_wanted_96 (by decide) ?_
                refine r_lv [0, 1, 2, 3, 4, 5] rfl ?_
                refine r_lve (lv2 := [(5, .int (nI d5)), (4, .int best_6), (3, .int (s_X7_stands n kd nd (0 : Int32) la)), (0, .ref o), (1, .int must), (2, .int no)]) rfl ?_
                refine r_stk (st2 := [.int (nI 0)]) rfl ?_
                exact (by have z := J19; rw [show (s_X7_wanted_m97_0 n la kd nd d5 best_6) = 0 from (by unfold s_X7_wanted_m97_0; first | rfl | ((try rw [if_neg (show ¬ ((nI d5) &&& ((s_X7_stands n kd nd (0 : Int32) la) ^^^ (-1 : Int32)) = (0 : Int32)) from by assumption)]); (try rfl); done) | (simp only [if_pos, if_neg, *, not_false_eq_true, ite_true, ite_false, if_true, if_false]; done) | (simp [*]; done))] at z; exact z)
              · skip
                refine r_il C dX7_wanted_63 0 rfl ?_
                refine aft_rd (st' := [.int (s_X7_size d5)]) (run_S (rest := []) C (c_X7_size l D d5 (by omega)) ok_X7_size ws_X7_size wm_X7_167 [] rfl ⟨Nat.le_of_ble_eq_true rfl, Nat.le_of_ble_eq_true rfl⟩ rfl rfl (Nat.le_of_ble_eq_true rfl) dX7_wanted_65) rfl ?_
                refine r_ic C (v := (4 : Int32)) dX7_wanted_68 (by decide) ?_
                refine r_icgt C (tgt := 96) dX7_wanted_69 (by decide) (fun c11 => ?_) (fun c11 => ?_)
                · skip
                  refine r_ic C (v := (0 : Int32)) dX7_wanted_96 (by decide) ?_
                  refine r_lv [0, 1, 2, 3, 4, 5] rfl ?_
                  refine r_lve (lv2 := [(5, .int (nI d5)), (4, .int best_6), (3, .int (s_X7_stands n kd nd (0 : Int32) la)), (0, .ref o), (1, .int must), (2, .int no)]) rfl ?_
                  refine r_stk (st2 := [.int (nI 0)]) rfl ?_
                  exact (by have z := J19; rw [show (s_X7_wanted_m97_0 n la kd nd d5 best_6) = 0 from (by unfold s_X7_wanted_m97_0; first | rfl | ((try rw [if_pos (show (nI d5) &&& ((s_X7_stands n kd nd (0 : Int32) la) ^^^ (-1 : Int32)) = (0 : Int32) from by assumption)]); (try rw [if_pos (show (4 : Int32) < s_X7_size d5 from by assumption)]); (try rfl); done) | (simp only [if_pos, if_neg, *, not_false_eq_true, ite_true, ite_false, if_true, if_false]; done) | (simp [*]; done))] at z; exact z)
                · skip
                  refine r_il C dX7_wanted_72 1 rfl ?_
                  refine r_bp C (v := (-4 : Int32)) dX7_wanted_74 (by decide) ?_
                  refine r_iceq C (tgt := 92) dX7_wanted_76 (by decide) (fun c12 => ?_) (fun c12 => ?_)
                  · skip
                    refine r_ic C (v := (1 : Int32)) dX7_wanted_92 (by decide) ?_
                    refine r_goto C (tgt := 97) dX7_wanted_93 (by decide) ?_
                    refine r_lv [0, 1, 2, 3, 4, 5] rfl ?_
                    refine r_lve (lv2 := [(5, .int (nI d5)), (4, .int best_6), (3, .int (s_X7_stands n kd nd (0 : Int32) la)), (0, .ref o), (1, .int must), (2, .int no)]) rfl ?_
                    refine r_stk (st2 := [.int (nI 1)]) rfl ?_
                    exact (by have z := J19; rw [show (s_X7_wanted_m97_0 n la kd nd d5 best_6) = 1 from (by unfold s_X7_wanted_m97_0; first | rfl | ((try rw [if_pos (show (nI d5) &&& ((s_X7_stands n kd nd (0 : Int32) la) ^^^ (-1 : Int32)) = (0 : Int32) from by assumption)]); (try rw [if_neg (show ¬ ((4 : Int32) < s_X7_size d5) from by assumption)]); (try rw [if_pos (show best_6 = (-4 : Int32) from by assumption)]); (try rfl); done) | (simp only [if_pos, if_neg, *, not_false_eq_true, ite_true, ite_false, if_true, if_false]; done) | (simp [*]; done))] at z; exact z)
                  · skip
                    have e13 := (hb.resolve_left c12)
                    refine r_il C dX7_wanted_79 0 rfl ?_
                    refine aft_rd (st' := [.int (s_X7_size d5)]) (run_S (rest := []) C (c_X7_size l D d5 (by omega)) ok_X7_size ws_X7_size wm_X7_167 [] rfl ⟨Nat.le_of_ble_eq_true rfl, Nat.le_of_ble_eq_true rfl⟩ rfl rfl (Nat.le_of_ble_eq_true rfl) dX7_wanted_81) rfl ?_
                    refine r_il C dX7_wanted_84 1 rfl ?_
                    refine r_stk (st2 := [.int (nI best_6.toNatClampNeg), .int (s_X7_size d5)]) (congrArg (fun (z : Int32) => ([.int z, .int (s_X7_size d5)] : List Value)) e13.1) ?_
                    refine aft_rd (st' := [.int (s_X7_size best_6.toNatClampNeg), .int (s_X7_size d5)]) (run_S (rest := [.int (s_X7_size d5)]) C (c_X7_size l D best_6.toNatClampNeg (by omega)) ok_X7_size ws_X7_size wm_X7_167 [] rfl ⟨Nat.le_of_ble_eq_true rfl, Nat.le_of_ble_eq_true rfl⟩ rfl rfl (Nat.le_of_ble_eq_true rfl) dX7_wanted_86) rfl ?_
                    refine r_icge C (tgt := 96) dX7_wanted_89 (by decide) (fun c14 => ?_) (fun c14 => ?_)
                    · skip
                      refine r_ic C (v := (0 : Int32)) dX7_wanted_96 (by decide) ?_
                      refine r_lv [0, 1, 2, 3, 4, 5] rfl ?_
                      refine r_lve (lv2 := [(5, .int (nI d5)), (4, .int best_6), (3, .int (s_X7_stands n kd nd (0 : Int32) la)), (0, .ref o), (1, .int must), (2, .int no)]) rfl ?_
                      refine r_stk (st2 := [.int (nI 0)]) rfl ?_
                      exact (by have z := J19; rw [show (s_X7_wanted_m97_0 n la kd nd d5 best_6) = 0 from (by unfold s_X7_wanted_m97_0; first | rfl | ((try rw [if_pos (show (nI d5) &&& ((s_X7_stands n kd nd (0 : Int32) la) ^^^ (-1 : Int32)) = (0 : Int32) from by assumption)]); (try rw [if_neg (show ¬ ((4 : Int32) < s_X7_size d5) from by assumption)]); (try rw [if_neg (show ¬ (best_6 = (-4 : Int32)) from by assumption)]); (try rw [if_neg (show ¬ (s_X7_size d5 < s_X7_size best_6.toNatClampNeg) from by assumption)]); (try rfl); done) | (simp only [if_pos, if_neg, *, not_false_eq_true, ite_true, ite_false, if_true, if_false]; done) | (simp [*]; done))] at z; exact z)
                    · skip
                      refine r_ic C (v := (1 : Int32)) dX7_wanted_92 (by decide) ?_
                      refine r_goto C (tgt := 97) dX7_wanted_93 (by decide) ?_
                      refine r_lv [0, 1, 2, 3, 4, 5] rfl ?_
                      refine r_lve (lv2 := [(5, .int (nI d5)), (4, .int best_6), (3, .int (s_X7_stands n kd nd (0 : Int32) la)), (0, .ref o), (1, .int must), (2, .int no)]) rfl ?_
                      refine r_stk (st2 := [.int (nI 1)]) rfl ?_
                      exact (by have z := J19; rw [show (s_X7_wanted_m97_0 n la kd nd d5 best_6) = 1 from (by unfold s_X7_wanted_m97_0; first | rfl | ((try rw [if_pos (show (nI d5) &&& ((s_X7_stands n kd nd (0 : Int32) la) ^^^ (-1 : Int32)) = (0 : Int32) from by assumption)]); (try rw [if_neg (show ¬ ((4 : Int32) < s_X7_size d5) from by assumption)]); (try rw [if_neg (show ¬ (best_6 = (-4 : Int32)) from by assumption)]); (try rw [if_pos (show s_X7_size d5 < s_X7_size best_6.toNatClampNeg from by assumption)]); (try rfl); done) | (simp only [if_pos, if_neg, *, not_false_eq_true, ite_true, ite_false, if_true, if_false]; done) | (simp [*]; done))] at z; exact z)
        refine r_lve (lv2 := [(5, .int (nI 0)), (4, .int (-4 : Int32)), (3, .int (s_X7_stands n kd nd (0 : Int32) la)), (0, .ref o), (1, .int must), (2, .int no)]) (congrArg (fun (z : Int32) => ([(5, .int z), (4, .int (-4 : Int32)), (3, .int (s_X7_stands n kd nd (0 : Int32) la)), (0, .ref o), (1, .int must), (2, .int no)] : List (Nat × Value))) rfl) ?_
        exact L20 (2 ^ n) 0 (-4 : Int32) (by omega) (Or.inl rfl) hv
      · rw [if_neg c3] at hv
        refine r_ic C (v := (-1 : Int32)) dX7_wanted_24 (by decide) ?_
        exact r_iret rfl C (congrArg (fun z => some (Value.int z)) hv) rfl dX7_wanted_25

def s_X7_own (pe : Nat) (n : Nat) (la : Int32) (kd : Nat → Int32) (nd : Nat → Int32) (co : Nat → Int32) (wo : Nat → Int32) (vs : Nat → Int32) (set : Int32) (p : Nat) : Int32 × Int32 × (Nat → Int32) := (((s_X7_counts pe n kd nd co wo vs set la).2) p, (s_X7_counts pe n kd nd co wo vs set la).1, (s_X7_counts pe n kd nd co wo vs set la).2)
set_option maxHeartbeats 8000000 in
set_option maxRecDepth 100000 in
theorem c_X7_own (l : Launch) (D : va_G) (o : Nat) (q1 : Nat) (q2 : Nat) (q3 : Nat) (q4 : Nat) (q5 : Nat) (q6 : Nat) (q7 : Nat) (q8 : Nat) (q9 : Nat) (q10 : Nat) (q11 : Nat) (q12 : Nat) (q13 : Nat) (q14 : Nat) (q15 : Nat) (q16 : Nat) (q17 : Nat) (q18 : Nat) (q19 : Nat) (q20 : Nat) (q21 : Nat) (q22 : Nat) (pe : Nat) (n : Nat) (la : Int32) (ri : Int32) (td : Int32) (ys : Int32) (ty : Nat) (ap : Nat) (wg : Int32) (rd : Nat) (sm : Int32) (bt : Int32) (up : Int64) (lw : Int64) (ii : Int32) (kd : Nat → Int32) (dy : Nat → Int32) (nd : Nat → Int32) (co : Nat → Int32) (od : Nat → Int32) (wo : Nat → Int32) (tp : Nat → Int32) (rk : Nat → Int32) (ry : Nat → Int32) (rn : Nat → Int32) (vs : Nat → Int32) (bs : Nat → Int32) (ch : Nat → Int32) (tr : Nat → Int32) (en : Nat → Int32) (du : Nat → Int32) (ol : Nat → Int32) (ig : Nat → Int32) (ln : Nat → Int32) (sz : Nat → Int32) (it : Nat → Int64) (mo : Nat → Int64) (set : Int32) (p : Nat) (hn : n ≤ 12) (hp : 1 ≤ pe ∧ pe ≤ 4) (hq : p < 4) (h0 : va_D (fun _ => True) (wM D o q1 q2 q3 q4 q5 q6 q7 q8 q9 q10 q11 q12 q13 q14 q15 q16 q17 q18 q19 q20 q21 q22 pe n la ri td ys ty ap wg rd sm bt up lw ii kd dy nd co od wo tp rk ry rn vs bs ch tr en du ol ig ln sz it mo)) : ct l yX7_own cX7_own 3 (some .int) 3 73 D [.ref o, .int set, .int (nI p)] (wM D o q1 q2 q3 q4 q5 q6 q7 q8 q9 q10 q11 q12 q13 q14 q15 q16 q17 q18 q19 q20 q21 q22 pe n la ri td ys ty ap wg rd sm bt up lw ii kd dy nd co od wo tp rk ry rn vs bs ch tr en du ol ig ln sz it mo) (wM D o q1 q2 q3 q4 q5 q6 q7 q8 q9 q10 q11 q12 q13 q14 q15 q16 q17 q18 q19 q20 q21 q22 pe n la ri td ys ty ap wg rd (s_X7_own pe n la kd nd co wo vs set p).2.1 bt up lw ii kd dy nd co od wo tp rk ry rn (s_X7_own pe n la kd nd co wo vs set p).2.2 bs ch tr en du ol ig ln sz it mo) (Ad (wM D o q1 q2 q3 q4 q5 q6 q7 q8 q9 q10 q11 q12 q13 q14 q15 q16 q17 q18 q19 q20 q21 q22 pe n la ri td ys ty ap wg rd sm bt up lw ii kd dy nd co od wo tp rk ry rn vs bs ch tr en du ol ig ln sz it mo)) (some (Value.int (s_X7_own pe n la kd nd co wo vs set p).1)) := by
  obtain ⟨V, hv⟩ : ∃ V, s_X7_own pe n la kd nd co wo vs set p = V := ⟨_, rfl⟩
  rw [hv]
  refine ct_intro (own := RX7) (lv := [(0, .ref o), (1, .int set), (2, .int (nI p))]) (by decide) rfl (Nat.le_of_ble_eq_true rfl) rfl ?_
  intro p_ e_ s_ m_ below_ meth_ c_ C
  have hv : (((s_X7_counts pe n kd nd co wo vs set la).2) p, (s_X7_counts pe n kd nd co wo vs set la).1, (s_X7_counts pe n kd nd co wo vs set la).2) = V := hv
  refine r_aln C dX7_own_0 rfl 0 rfl ?_
  refine r_iln C dX7_own_1 rfl 1 rfl ?_
  refine r_aln C dX7_own_2 rfl 0 rfl ?_
  refine gf_X7_116 C 0 rfl rfl dX7_own_3 ?_
  refine aft_wa (ws2 := wM D o q1 q2 q3 q4 q5 q6 q7 q8 q9 q10 q11 q12 q13 q14 q15 q16 q17 q18 q19 q20 q21 q22 pe n la ri td ys ty ap wg rd ((s_X7_counts pe n kd nd co wo vs set la).1) bt up lw ii kd dy nd co od wo tp rk ry rn ((s_X7_counts pe n kd nd co wo vs set la).2) bs ch tr en du ol ig ln sz it mo) (st' := []) h0 rfl rfl (run_V (rest := []) C (c_X7_counts l D o q1 q2 q3 q4 q5 q6 q7 q8 q9 q10 q11 q12 q13 q14 q15 q16 q17 q18 q19 q20 q21 q22 pe n la ri td ys ty ap wg rd sm bt up lw ii kd dy nd co od wo tp rk ry rn vs bs ch tr en du ol ig ln sz it mo set la (by omega) (by omega) (dis_all h0 rfl)) ok_X7_counts wn_X7_counts wl_X7_counts wm_X7_180 _ 0 rfl rfl rfl ⟨Nat.le_of_ble_eq_true rfl, Nat.le_of_ble_eq_true rfl⟩ fm_all rfl (Nat.le_of_ble_eq_true rfl) dX7_own_6) rfl rfl ?_
  refine r_aln C dX7_own_9 rfl 0 rfl ?_
  refine gf_X7_40 C 0 rfl rfl dX7_own_10 ?_
  refine r_iln C dX7_own_13 rfl 2 rfl ?_
  refine r_iald C 11 p rfl rfl (by omega) (by decide) rfl dX7_own_14 ?_
  exact r_iret rfl C (by rw [← hv]) (by rw [← hv]) dX7_own_15

