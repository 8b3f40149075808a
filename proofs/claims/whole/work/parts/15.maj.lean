def s_X7_forgotten_L87 (n : Nat) (la : Int32) (kd : Nat → Int32) (dy : Nat → Int32) (nd : Nat → Int32) (when0 : Int32) (tol : Int32) (d6 : Nat) : Nat → Nat → Int32 → Int32
  | 0, _, iw_17 => iw_17
  | k15 + 1, d16, iw_17 => (if (tol >>> ((nI d16) &&& 31)) &&& (1 : Int32) = (1 : Int32) then (if iw_17 = (0 : Int32) then (s_X7_forgotten_L87 n la kd dy nd when0 tol d6 k15 (d16 + 1) (0 : Int32)) else (if ((s_X7_ofDay n dy when0) >>> ((nI d16) &&& 31)) &&& (1 : Int32) = (1 : Int32) then (s_X7_forgotten_L87 n la kd dy nd when0 tol d6 k15 (d16 + 1) (1 : Int32)) else (if s_X7_is kd nd d16 (tol ||| (nI d6)) la = (1 : Int32) then (s_X7_forgotten_L87 n la kd dy nd when0 tol d6 k15 (d16 + 1) (1 : Int32)) else (s_X7_forgotten_L87 n la kd dy nd when0 tol d6 k15 (d16 + 1) (0 : Int32))))) else (if iw_17 = (0 : Int32) then (s_X7_forgotten_L87 n la kd dy nd when0 tol d6 k15 (d16 + 1) (0 : Int32)) else (if ((s_X7_ofDay n dy when0) >>> ((nI d16) &&& 31)) &&& (1 : Int32) = (1 : Int32) then (s_X7_forgotten_L87 n la kd dy nd when0 tol d6 k15 (d16 + 1) (1 : Int32)) else (if s_X7_is kd nd d16 (tol ||| (nI d6)) la = (0 : Int32) then (s_X7_forgotten_L87 n la kd dy nd when0 tol d6 k15 (d16 + 1) (1 : Int32)) else (s_X7_forgotten_L87 n la kd dy nd when0 tol d6 k15 (d16 + 1) (0 : Int32))))))
def s_X7_forgotten_L60 (n : Nat) (la : Int32) (kd : Nat → Int32) (dy : Nat → Int32) (nd : Nat → Int32) (when0 : Int32) (tol : Int32) : Nat → Nat → Int32 → Int32 → Int32 × Int32
  | 0, _, cnt_7, sure_8 => (cnt_7, sure_8)
  | k5 + 1, d6, cnt_7, sure_8 => (if (nI d6) &&& ((s_X7_ofDay n dy when0) ^^^ (-1 : Int32)) = (0 : Int32) then (if (s_X7_forgotten_L87 n la kd dy nd when0 tol d6 n 0 (1 : Int32)) = (0 : Int32) then (s_X7_forgotten_L60 n la kd dy nd when0 tol k5 (d6 + 1) (cnt_7 + (0 : Int32)) (sure_8 &&& (-1 : Int32))) else (s_X7_forgotten_L60 n la kd dy nd when0 tol k5 (d6 + 1) (cnt_7 + (1 : Int32)) (sure_8 &&& (nI d6)))) else (s_X7_forgotten_L60 n la kd dy nd when0 tol k5 (d6 + 1) cnt_7 sure_8))
def s_X7_forgotten (n : Nat) (la : Int32) (kd : Nat → Int32) (dy : Nat → Int32) (nd : Nat → Int32) (when0 : Int32) (tol : Int32) (what : Int32) : Int32 := (if s_X7_in when0.toInt64 (0 : Int64) (11 : Int64) = (0 : Int32) then (-1 : Int32) else (if s_X7_areDeeds n tol.toInt64 = (0 : Int32) then (-1 : Int32) else (if tol &&& (s_X7_ofDay n dy when0) = (0 : Int32) then (if s_X7_in what.toInt64 (0 : Int64) (1 : Int64) = (0 : Int32) then (-1 : Int32) else (if what = (0 : Int32) then ((s_X7_forgotten_L60 n la kd dy nd when0 tol (2 ^ n) 0 (0 : Int32) (s_X7_ofDay n dy when0)).1) else (if ((s_X7_forgotten_L60 n la kd dy nd when0 tol (2 ^ n) 0 (0 : Int32) (s_X7_ofDay n dy when0)).1) = (0 : Int32) then (-4 : Int32) else ((s_X7_forgotten_L60 n la kd dy nd when0 tol (2 ^ n) 0 (0 : Int32) (s_X7_ofDay n dy when0)).2)))) else (-1 : Int32))))
set_option maxHeartbeats 8000000 in
set_option maxRecDepth 100000 in
theorem c_X7_forgotten (l : Launch) (D : va_G) (o : Nat) (q1 : Nat) (q2 : Nat) (q3 : Nat) (q4 : Nat) (q5 : Nat) (q6 : Nat) (q7 : Nat) (q8 : Nat) (q9 : Nat) (q10 : Nat) (q11 : Nat) (q12 : Nat) (q13 : Nat) (q14 : Nat) (q15 : Nat) (q16 : Nat) (q17 : Nat) (q18 : Nat) (q19 : Nat) (q20 : Nat) (q21 : Nat) (q22 : Nat) (pe : Nat) (n : Nat) (la : Int32) (ri : Int32) (td : Int32) (ys : Int32) (ty : Nat) (ap : Nat) (wg : Int32) (rd : Nat) (sm : Int32) (bt : Int32) (up : Int64) (lw : Int64) (ii : Int32) (kd : Nat → Int32) (dy : Nat → Int32) (nd : Nat → Int32) (co : Nat → Int32) (od : Nat → Int32) (wo : Nat → Int32) (tp : Nat → Int32) (rk : Nat → Int32) (ry : Nat → Int32) (rn : Nat → Int32) (vs : Nat → Int32) (bs : Nat → Int32) (ch : Nat → Int32) (tr : Nat → Int32) (en : Nat → Int32) (du : Nat → Int32) (ol : Nat → Int32) (ig : Nat → Int32) (ln : Nat → Int32) (sz : Nat → Int32) (it : Nat → Int64) (mo : Nat → Int64) (when0 : Int32) (tol : Int32) (what : Int32) (hn : n ≤ 12) : ct l yX7_forgotten cX7_forgotten 11 (some .int) 2 47 D [.ref o, .int when0, .int tol, .int what] (wM D o q1 q2 q3 q4 q5 q6 q7 q8 q9 q10 q11 q12 q13 q14 q15 q16 q17 q18 q19 q20 q21 q22 pe n la ri td ys ty ap wg rd sm bt up lw ii kd dy nd co od wo tp rk ry rn vs bs ch tr en du ol ig ln sz it mo) (wM D o q1 q2 q3 q4 q5 q6 q7 q8 q9 q10 q11 q12 q13 q14 q15 q16 q17 q18 q19 q20 q21 q22 pe n la ri td ys ty ap wg rd sm bt up lw ii kd dy nd co od wo tp rk ry rn vs bs ch tr en du ol ig ln sz it mo) (fun _ => False) (some (Value.int (s_X7_forgotten n la kd dy nd when0 tol what))) := by
  obtain ⟨V, hv⟩ : ∃ V, s_X7_forgotten n la kd dy nd when0 tol what = V := ⟨_, rfl⟩
  rw [hv]
  refine ct_intro (own := RX7) (lv := [(0, .ref o), (1, .int when0), (2, .int tol), (3, .int what)]) (by decide) rfl (Nat.le_of_ble_eq_true rfl) rfl ?_
  intro p_ e_ s_ m_ below_ meth_ c_ C
  have hv : (if s_X7_in when0.toInt64 (0 : Int64) (11 : Int64) = (0 : Int32) then (-1 : Int32) else (if s_X7_areDeeds n tol.toInt64 = (0 : Int32) then (-1 : Int32) else (if tol &&& (s_X7_ofDay n dy when0) = (0 : Int32) then (if s_X7_in what.toInt64 (0 : Int64) (1 : Int64) = (0 : Int32) then (-1 : Int32) else (if what = (0 : Int32) then ((s_X7_forgotten_L60 n la kd dy nd when0 tol (2 ^ n) 0 (0 : Int32) (s_X7_ofDay n dy when0)).1) else (if ((s_X7_forgotten_L60 n la kd dy nd when0 tol (2 ^ n) 0 (0 : Int32) (s_X7_ofDay n dy when0)).1) = (0 : Int32) then (-4 : Int32) else ((s_X7_forgotten_L60 n la kd dy nd when0 tol (2 ^ n) 0 (0 : Int32) (s_X7_ofDay n dy when0)).2)))) else (-1 : Int32)))) = V := hv
  refine r_iln C dX7_forgotten_0 rfl 1 rfl ?_
  refine r_i2l C dX7_forgotten_1 ?_
  refine r_lc C (v := (0 : Int64)) dX7_forgotten_2 (by decide) ?_
  refine r_ldc2 C wc_X7_95 dX7_forgotten_3 ?_
  refine aft_rd (st' := [.int (s_X7_in when0.toInt64 (0 : Int64) (11 : Int64))]) (run_S (rest := []) C (c_X7_in l D when0.toInt64 (0 : Int64) (11 : Int64) ) ok_X7_in ws_X7_in wm_X7_87 [] rfl ⟨Nat.le_of_ble_eq_true rfl, Nat.le_of_ble_eq_true rfl⟩ rfl rfl (Nat.le_of_ble_eq_true rfl) dX7_forgotten_6) rfl ?_
  refine r_ifeq C (tgt := 41) dX7_forgotten_9 (by decide) (fun c1 => ?_) (fun c1 => ?_)
  · rw [if_pos c1] at hv
    refine r_ic C (v := (-1 : Int32)) dX7_forgotten_41 (by decide) ?_
    exact r_iret rfl C (congrArg (fun z => some (Value.int z)) hv) rfl dX7_forgotten_42
  · rw [if_neg c1] at hv
    refine r_aln C dX7_forgotten_12 rfl 0 rfl ?_
    refine r_iln C dX7_forgotten_13 rfl 2 rfl ?_
    refine r_i2l C dX7_forgotten_14 ?_
    refine aft_rd (st' := [.int (s_X7_areDeeds n tol.toInt64)]) (run_V (rest := []) C (c_X7_areDeeds l D o q1 q2 q3 q4 q5 q6 q7 q8 q9 q10 q11 q12 q13 q14 q15 q16 q17 q18 q19 q20 q21 q22 pe n la ri td ys ty ap wg rd sm bt up lw ii kd dy nd co od wo tp rk ry rn vs bs ch tr en du ol ig ln sz it mo tol.toInt64 (by omega)) ok_X7_areDeeds wn_X7_areDeeds wl_X7_areDeeds wm_X7_128 _ 0 rfl rfl rfl ⟨Nat.le_of_ble_eq_true rfl, Nat.le_of_ble_eq_true rfl⟩ fm_all rfl (Nat.le_of_ble_eq_true rfl) dX7_forgotten_15) rfl ?_
    refine r_ifeq C (tgt := 41) dX7_forgotten_18 (by decide) (fun c2 => ?_) (fun c2 => ?_)
    · rw [if_pos c2] at hv
      refine r_ic C (v := (-1 : Int32)) dX7_forgotten_41 (by decide) ?_
      exact r_iret rfl C (congrArg (fun z => some (Value.int z)) hv) rfl dX7_forgotten_42
    · rw [if_neg c2] at hv
      refine r_iln C dX7_forgotten_21 rfl 2 rfl ?_
      refine r_aln C dX7_forgotten_22 rfl 0 rfl ?_
      refine r_iln C dX7_forgotten_23 rfl 1 rfl ?_
      refine aft_rd (st' := [.int (s_X7_ofDay n dy when0), .int tol]) (run_V (rest := [.int tol]) C (c_X7_ofDay l D o q1 q2 q3 q4 q5 q6 q7 q8 q9 q10 q11 q12 q13 q14 q15 q16 q17 q18 q19 q20 q21 q22 pe n la ri td ys ty ap wg rd sm bt up lw ii kd dy nd co od wo tp rk ry rn vs bs ch tr en du ol ig ln sz it mo when0 (by omega)) ok_X7_ofDay wn_X7_ofDay wl_X7_ofDay wm_X7_162 _ 0 rfl rfl rfl ⟨Nat.le_of_ble_eq_true rfl, Nat.le_of_ble_eq_true rfl⟩ fm_all rfl (Nat.le_of_ble_eq_true rfl) dX7_forgotten_24) rfl ?_
      refine r_iand C dX7_forgotten_27 ?_
      refine r_ifne C (tgt := 41) dX7_forgotten_28 (by decide) (fun c3 => ?_) (fun c3 => ?_)
      · rw [if_neg c3] at hv
        refine r_ic C (v := (-1 : Int32)) dX7_forgotten_41 (by decide) ?_
        exact r_iret rfl C (congrArg (fun z => some (Value.int z)) hv) rfl dX7_forgotten_42
      · rw [if_pos c3] at hv
        refine r_iln C dX7_forgotten_31 rfl 3 rfl ?_
        refine r_i2l C dX7_forgotten_32 ?_
        refine r_lc C (v := (0 : Int64)) dX7_forgotten_33 (by decide) ?_
        refine r_lc C (v := (1 : Int64)) dX7_forgotten_34 (by decide) ?_
        refine aft_rd (st' := [.int (s_X7_in what.toInt64 (0 : Int64) (1 : Int64))]) (run_S (rest := []) C (c_X7_in l D what.toInt64 (0 : Int64) (1 : Int64) ) ok_X7_in ws_X7_in wm_X7_87 [] rfl ⟨Nat.le_of_ble_eq_true rfl, Nat.le_of_ble_eq_true rfl⟩ rfl rfl (Nat.le_of_ble_eq_true rfl) dX7_forgotten_35) rfl ?_
        refine r_ifne C (tgt := 43) dX7_forgotten_38 (by decide) (fun c4 => ?_) (fun c4 => ?_)
        · rw [if_neg c4] at hv
          refine r_aln C dX7_forgotten_43 rfl 0 rfl ?_
          refine r_iln C dX7_forgotten_44 rfl 1 rfl ?_
          refine aft_rd (st' := [.int (s_X7_ofDay n dy when0)]) (run_V (rest := []) C (c_X7_ofDay l D o q1 q2 q3 q4 q5 q6 q7 q8 q9 q10 q11 q12 q13 q14 q15 q16 q17 q18 q19 q20 q21 q22 pe n la ri td ys ty ap wg rd sm bt up lw ii kd dy nd co od wo tp rk ry rn vs bs ch tr en du ol ig ln sz it mo when0 (by omega)) ok_X7_ofDay wn_X7_ofDay wl_X7_ofDay wm_X7_162 _ 0 rfl rfl rfl ⟨Nat.le_of_ble_eq_true rfl, Nat.le_of_ble_eq_true rfl⟩ fm_all rfl (Nat.le_of_ble_eq_true rfl) dX7_forgotten_45) rfl ?_
          refine r_is C (lv' := [(4, .int (s_X7_ofDay n dy when0)), (0, .ref o), (1, .int when0), (2, .int tol), (3, .int what)]) dX7_forgotten_48 (by decide) rfl ?_
          have hpn := pw_le hn
          refine r_ic C (v := (0 : Int32)) dX7_forgotten_50 (by decide) ?_
          refine r_is C (lv' := [(5, .int (0 : Int32)), (4, .int (s_X7_ofDay n dy when0)), (0, .ref o), (1, .int when0), (2, .int tol), (3, .int what)]) dX7_forgotten_51 (by decide) rfl ?_
          refine r_il C dX7_forgotten_53 1 rfl ?_
          refine r_is C (lv' := [(6, .int (s_X7_ofDay n dy when0)), (5, .int (0 : Int32)), (4, .int (s_X7_ofDay n dy when0)), (0, .ref o), (1, .int when0), (2, .int tol), (3, .int what)]) dX7_forgotten_55 (by decide) rfl ?_
          refine r_ic C (v := (0 : Int32)) dX7_forgotten_57 (by decide) ?_
          refine r_is C (lv' := [(7, .int (0 : Int32)), (6, .int (s_X7_ofDay n dy when0)), (5, .int (0 : Int32)), (4, .int (s_X7_ofDay n dy when0)), (0, .ref o), (1, .int when0), (2, .int tol), (3, .int what)]) dX7_forgotten_58 (by decide) rfl ?_
          have L32 : ∀ (k5 : Nat) (d6 : Nat) (cnt_7 : Int32) (sure_8 : Int32), (d6 + k5 = 2 ^ n) → (if what = (0 : Int32) then ((s_X7_forgotten_L60 n la kd dy nd when0 tol k5 d6 cnt_7 sure_8).1) else (if ((s_X7_forgotten_L60 n la kd dy nd when0 tol k5 d6 cnt_7 sure_8).1) = (0 : Int32) then (-4 : Int32) else ((s_X7_forgotten_L60 n la kd dy nd when0 tol k5 d6 cnt_7 sure_8).2))) = V → GM p_ l e_ s_ m_ below_ meth_ c_ D 2 47 11 [.ref o, .int when0, .int tol, .int what] (wM D o q1 q2 q3 q4 q5 q6 q7 q8 q9 q10 q11 q12 q13 q14 q15 q16 q17 q18 q19 q20 q21 q22 pe n la ri td ys ty ap wg rd sm bt up lw ii kd dy nd co od wo tp rk ry rn vs bs ch tr en du ol ig ln sz it mo) (fun _ => False) (some (Value.int V)) (wM D o q1 q2 q3 q4 q5 q6 q7 q8 q9 q10 q11 q12 q13 q14 q15 q16 q17 q18 q19 q20 q21 q22 pe n la ri td ys ty ap wg rd sm bt up lw ii kd dy nd co od wo tp rk ry rn vs bs ch tr en du ol ig ln sz it mo) 60 [(7, .int (nI d6)), (6, .int sure_8), (5, .int cnt_7), (4, .int (s_X7_ofDay n dy when0)), (0, .ref o), (1, .int when0), (2, .int tol), (3, .int what)] [] := by
            intro k5
            induction k5 with
            | zero =>
              intro d6 cnt_7 sure_8 hk hv
              have hv : (if what = (0 : Int32) then cnt_7 else (if cnt_7 = (0 : Int32) then (-4 : Int32) else sure_8)) = V := hv
              refine r_il C dX7_forgotten_60 0 rfl ?_
              refine r_ic C (v := (1 : Int32)) dX7_forgotten_62 (by decide) ?_
              refine r_aln C dX7_forgotten_63 rfl 4 rfl ?_
              refine gf_X7_84 C 0 rfl rfl dX7_forgotten_64 ?_
              refine r_ishl C dX7_forgotten_67 ?_
              refine r_top (sh1 n (by omega)) ?_
              refine r_icge C (tgt := 198) dX7_forgotten_68 (by decide) (fun c9 => ?_) (fun c9 => ?_)
              · skip
                refine r_iln C dX7_forgotten_198 rfl 7 rfl ?_
                refine r_ifne C (tgt := 207) dX7_forgotten_199 (by decide) (fun c10 => ?_) (fun c10 => ?_)
                · rw [if_neg c10] at hv
                  refine r_il C dX7_forgotten_207 2 rfl ?_
                  refine r_ifne C (tgt := 217) dX7_forgotten_209 (by decide) (fun c11 => ?_) (fun c11 => ?_)
                  · rw [if_neg c11] at hv
                    refine r_il C dX7_forgotten_217 1 rfl ?_
                    exact r_iret rfl C (congrArg (fun z => some (Value.int z)) hv) rfl dX7_forgotten_219
                  · rw [if_pos c11] at hv
                    refine r_bp C (v := (-4 : Int32)) dX7_forgotten_212 (by decide) ?_
                    refine r_goto C (tgt := 219) dX7_forgotten_214 (by decide) ?_
                    exact r_iret rfl C (congrArg (fun z => some (Value.int z)) hv) rfl dX7_forgotten_219
                · rw [if_pos c10] at hv
                  refine r_il C dX7_forgotten_202 2 rfl ?_
                  refine r_goto C (tgt := 219) dX7_forgotten_204 (by decide) ?_
                  exact r_iret rfl C (congrArg (fun z => some (Value.int z)) hv) rfl dX7_forgotten_219
              · exact absurd c9 (fun z => absurd ((nv_lt (a := d6) (b := 2 ^ n) rfl rfl (by omega) (by omega)).mp z) (by omega))
            | succ k5 ih12 =>
              intro d6 cnt_7 sure_8 hk hv
              have hv : (if what = (0 : Int32) then ((if (nI d6) &&& ((s_X7_ofDay n dy when0) ^^^ (-1 : Int32)) = (0 : Int32) then (if (s_X7_forgotten_L87 n la kd dy nd when0 tol d6 n 0 (1 : Int32)) = (0 : Int32) then (s_X7_forgotten_L60 n la kd dy nd when0 tol k5 (d6 + 1) (cnt_7 + (0 : Int32)) (sure_8 &&& (-1 : Int32))) else (s_X7_forgotten_L60 n la kd dy nd when0 tol k5 (d6 + 1) (cnt_7 + (1 : Int32)) (sure_8 &&& (nI d6)))) else (s_X7_forgotten_L60 n la kd dy nd when0 tol k5 (d6 + 1) cnt_7 sure_8)).1) else (if ((if (nI d6) &&& ((s_X7_ofDay n dy when0) ^^^ (-1 : Int32)) = (0 : Int32) then (if (s_X7_forgotten_L87 n la kd dy nd when0 tol d6 n 0 (1 : Int32)) = (0 : Int32) then (s_X7_forgotten_L60 n la kd dy nd when0 tol k5 (d6 + 1) (cnt_7 + (0 : Int32)) (sure_8 &&& (-1 : Int32))) else (s_X7_forgotten_L60 n la kd dy nd when0 tol k5 (d6 + 1) (cnt_7 + (1 : Int32)) (sure_8 &&& (nI d6)))) else (s_X7_forgotten_L60 n la kd dy nd when0 tol k5 (d6 + 1) cnt_7 sure_8)).1) = (0 : Int32) then (-4 : Int32) else ((if (nI d6) &&& ((s_X7_ofDay n dy when0) ^^^ (-1 : Int32)) = (0 : Int32) then (if (s_X7_forgotten_L87 n la kd dy nd when0 tol d6 n 0 (1 : Int32)) = (0 : Int32) then (s_X7_forgotten_L60 n la kd dy nd when0 tol k5 (d6 + 1) (cnt_7 + (0 : Int32)) (sure_8 &&& (-1 : Int32))) else (s_X7_forgotten_L60 n la kd dy nd when0 tol k5 (d6 + 1) (cnt_7 + (1 : Int32)) (sure_8 &&& (nI d6)))) else (s_X7_forgotten_L60 n la kd dy nd when0 tol k5 (d6 + 1) cnt_7 sure_8)).2))) = V := hv
              refine r_il C dX7_forgotten_60 0 rfl ?_
              refine r_ic C (v := (1 : Int32)) dX7_forgotten_62 (by decide) ?_
              refine r_aln C dX7_forgotten_63 rfl 4 rfl ?_
              refine gf_X7_84 C 0 rfl rfl dX7_forgotten_64 ?_
              refine r_ishl C dX7_forgotten_67 ?_
              refine r_top (sh1 n (by omega)) ?_
              refine r_icge C (tgt := 198) dX7_forgotten_68 (by decide) (fun c13 => ?_) (fun c13 => ?_)
              · exact absurd ((nv_lt (a := d6) (b := 2 ^ n) rfl rfl (by omega) (by omega)).mpr (by omega)) c13
              · skip
                refine r_il C dX7_forgotten_71 0 rfl ?_
                refine r_il C dX7_forgotten_73 3 rfl ?_
                refine r_ic C (v := (-1 : Int32)) dX7_forgotten_75 (by decide) ?_
                refine r_ixor C dX7_forgotten_76 ?_
                refine r_iand C dX7_forgotten_77 ?_
                refine r_ifne C (tgt := 192) dX7_forgotten_78 (by decide) (fun c14 => ?_) (fun c14 => ?_)
                · rw [if_neg c14] at hv
                  refine r_inc C (v := nI (d6 + 1)) (lv' := [(7, .int (nI (d6 + 1))), (6, .int sure_8), (5, .int cnt_7), (4, .int (s_X7_ofDay n dy when0)), (0, .ref o), (1, .int when0), (2, .int tol), (3, .int what)]) dX7_forgotten_192 0 rfl (inc_nI d6) (by decide) rfl ?_
                  refine r_goto C (tgt := 60) dX7_forgotten_195 (by decide) ?_
                  exact ih12 (d6 + 1) cnt_7 sure_8 (by omega) hv
                · rw [if_pos c14] at hv
                  refine r_ic C (v := (1 : Int32)) dX7_forgotten_81 (by decide) ?_
                  refine r_is C (lv' := [(8, .int (1 : Int32)), (7, .int (nI d6)), (6, .int sure_8), (5, .int cnt_7), (4, .int (s_X7_ofDay n dy when0)), (0, .ref o), (1, .int when0), (2, .int tol), (3, .int what)]) dX7_forgotten_82 (by decide) rfl ?_
                  refine r_ic C (v := (0 : Int32)) dX7_forgotten_84 (by decide) ?_
                  refine r_is C (lv' := [(9, .int (0 : Int32)), (8, .int (1 : Int32)), (7, .int (nI d6)), (6, .int sure_8), (5, .int cnt_7), (4, .int (s_X7_ofDay n dy when0)), (0, .ref o), (1, .int when0), (2, .int tol), (3, .int what)]) dX7_forgotten_85 (by decide) rfl ?_
                  have L31 : ∀ (k15 : Nat) (d16 : Nat) (iw_17 : Int32), (d16 + k15 = n) → (if what = (0 : Int32) then ((if (s_X7_forgotten_L87 n la kd dy nd when0 tol d6 k15 d16 iw_17) = (0 : Int32) then (s_X7_forgotten_L60 n la kd dy nd when0 tol k5 (d6 + 1) (cnt_7 + (0 : Int32)) (sure_8 &&& (-1 : Int32))) else (s_X7_forgotten_L60 n la kd dy nd when0 tol k5 (d6 + 1) (cnt_7 + (1 : Int32)) (sure_8 &&& (nI d6)))).1) else (if ((if (s_X7_forgotten_L87 n la kd dy nd when0 tol d6 k15 d16 iw_17) = (0 : Int32) then (s_X7_forgotten_L60 n la kd dy nd when0 tol k5 (d6 + 1) (cnt_7 + (0 : Int32)) (sure_8 &&& (-1 : Int32))) else (s_X7_forgotten_L60 n la kd dy nd when0 tol k5 (d6 + 1) (cnt_7 + (1 : Int32)) (sure_8 &&& (nI d6)))).1) = (0 : Int32) then (-4 : Int32) else ((if (s_X7_forgotten_L87 n la kd dy nd when0 tol d6 k15 d16 iw_17) = (0 : Int32) then (s_X7_forgotten_L60 n la kd dy nd when0 tol k5 (d6 + 1) (cnt_7 + (0 : Int32)) (sure_8 &&& (-1 : Int32))) else (s_X7_forgotten_L60 n la kd dy nd when0 tol k5 (d6 + 1) (cnt_7 + (1 : Int32)) (sure_8 &&& (nI d6)))).2))) = V → GM p_ l e_ s_ m_ below_ meth_ c_ D 2 47 11 [.ref o, .int when0, .int tol, .int what] (wM D o q1 q2 q3 q4 q5 q6 q7 q8 q9 q10 q11 q12 q13 q14 q15 q16 q17 q18 q19 q20 q21 q22 pe n la ri td ys ty ap wg rd sm bt up lw ii kd dy nd co od wo tp rk ry rn vs bs ch tr en du ol ig ln sz it mo) (fun _ => False) (some (Value.int V)) (wM D o q1 q2 q3 q4 q5 q6 q7 q8 q9 q10 q11 q12 q13 q14 q15 q16 q17 q18 q19 q20 q21 q22 pe n la ri td ys ty ap wg rd sm bt up lw ii kd dy nd co od wo tp rk ry rn vs bs ch tr en du ol ig ln sz it mo) 87 [(9, .int (nI d16)), (8, .int iw_17), (7, .int (nI d6)), (6, .int sure_8), (5, .int cnt_7), (4, .int (s_X7_ofDay n dy when0)), (0, .ref o), (1, .int when0), (2, .int tol), (3, .int what)] [] := by
                    intro k15
                    induction k15 with
                    | zero =>
                      intro d16 iw_17 hk hv
                      have hv : (if what = (0 : Int32) then ((if iw_17 = (0 : Int32) then (s_X7_forgotten_L60 n la kd dy nd when0 tol k5 (d6 + 1) (cnt_7 + (0 : Int32)) (sure_8 &&& (-1 : Int32))) else (s_X7_forgotten_L60 n la kd dy nd when0 tol k5 (d6 + 1) (cnt_7 + (1 : Int32)) (sure_8 &&& (nI d6)))).1) else (if ((if iw_17 = (0 : Int32) then (s_X7_forgotten_L60 n la kd dy nd when0 tol k5 (d6 + 1) (cnt_7 + (0 : Int32)) (sure_8 &&& (-1 : Int32))) else (s_X7_forgotten_L60 n la kd dy nd when0 tol k5 (d6 + 1) (cnt_7 + (1 : Int32)) (sure_8 &&& (nI d6)))).1) = (0 : Int32) then (-4 : Int32) else ((if iw_17 = (0 : Int32) then (s_X7_forgotten_L60 n la kd dy nd when0 tol k5 (d6 + 1) (cnt_7 + (0 : Int32)) (sure_8 &&& (-1 : Int32))) else (s_X7_forgotten_L60 n la kd dy nd when0 tol k5 (d6 + 1) (cnt_7 + (1 : Int32)) (sure_8 &&& (nI d6)))).2))) = V := hv
                      refine r_il C dX7_forgotten_87 0 rfl ?_
                      refine r_aln C dX7_forgotten_89 rfl 6 rfl ?_
                      refine gf_X7_84 C 0 rfl rfl dX7_forgotten_90 ?_
                      refine r_icge C (tgt := 161) dX7_forgotten_93 (by decide) (fun c18 => ?_) (fun c18 => ?_)
                      · skip
                        refine r_il C dX7_forgotten_161 4 rfl ?_
                        refine r_il C dX7_forgotten_163 1 rfl ?_
                        refine r_ifeq C (tgt := 172) dX7_forgotten_165 (by decide) (fun c19 => ?_) (fun c19 => ?_)
                        · rw [if_pos c19] at hv
                          refine r_ic C (v := (0 : Int32)) dX7_forgotten_172 (by decide) ?_
                          refine r_iadd C dX7_forgotten_173 ?_
                          refine r_is C (lv' := [(5, .int (cnt_7 + (0 : Int32))), (9, .int (nI d16)), (8, .int iw_17), (7, .int (nI d6)), (6, .int sure_8), (4, .int (s_X7_ofDay n dy when0)), (0, .ref o), (1, .int when0), (2, .int tol), (3, .int what)]) dX7_forgotten_174 (by decide) rfl ?_
                          refine r_il C dX7_forgotten_176 4 rfl ?_
                          refine r_il C dX7_forgotten_178 2 rfl ?_
                          refine r_ifeq C (tgt := 188) dX7_forgotten_180 (by decide) (fun c20 => ?_) (fun c20 => ?_)
                          · skip
                            refine r_ic C (v := (-1 : Int32)) dX7_forgotten_188 (by decide) ?_
                            refine r_iand C dX7_forgotten_189 ?_
                            refine r_is C (lv' := [(6, .int (sure_8 &&& (-1 : Int32))), (5, .int (cnt_7 + (0 : Int32))), (9, .int (nI d16)), (8, .int iw_17), (7, .int (nI d6)), (4, .int (s_X7_ofDay n dy when0)), (0, .ref o), (1, .int when0), (2, .int tol), (3, .int what)]) dX7_forgotten_190 (by decide) rfl ?_
                            refine r_inc C (v := nI (d6 + 1)) (lv' := [(7, .int (nI (d6 + 1))), (6, .int (sure_8 &&& (-1 : Int32))), (5, .int (cnt_7 + (0 : Int32))), (9, .int (nI d16)), (8, .int iw_17), (4, .int (s_X7_ofDay n dy when0)), (0, .ref o), (1, .int when0), (2, .int tol), (3, .int what)]) dX7_forgotten_192 4 rfl (inc_nI d6) (by decide) rfl ?_
                            refine r_goto C (tgt := 60) dX7_forgotten_195 (by decide) ?_
                            refine r_lv [0, 1, 2, 5, 6, 7, 8, 9] rfl ?_
                            exact ih12 (d6 + 1) (cnt_7 + (0 : Int32)) (sure_8 &&& (-1 : Int32)) (by omega) hv
                          · exact absurd c19 c20
                        · rw [if_neg c19] at hv
                          refine r_ic C (v := (1 : Int32)) dX7_forgotten_168 (by decide) ?_
                          refine r_goto C (tgt := 173) dX7_forgotten_169 (by decide) ?_
                          refine r_iadd C dX7_forgotten_173 ?_
                          refine r_is C (lv' := [(5, .int (cnt_7 + (1 : Int32))), (9, .int (nI d16)), (8, .int iw_17), (7, .int (nI d6)), (6, .int sure_8), (4, .int (s_X7_ofDay n dy when0)), (0, .ref o), (1, .int when0), (2, .int tol), (3, .int what)]) dX7_forgotten_174 (by decide) rfl ?_
                          refine r_il C dX7_forgotten_176 4 rfl ?_
                          refine r_il C dX7_forgotten_178 2 rfl ?_
                          refine r_ifeq C (tgt := 188) dX7_forgotten_180 (by decide) (fun c21 => ?_) (fun c21 => ?_)
                          · exact absurd c21 c19
                          · skip
                            refine r_il C dX7_forgotten_183 3 rfl ?_
                            refine r_goto C (tgt := 189) dX7_forgotten_185 (by decide) ?_
                            refine r_iand C dX7_forgotten_189 ?_
                            refine r_is C (lv' := [(6, .int (sure_8 &&& (nI d6))), (5, .int (cnt_7 + (1 : Int32))), (9, .int (nI d16)), (8, .int iw_17), (7, .int (nI d6)), (4, .int (s_X7_ofDay n dy when0)), (0, .ref o), (1, .int when0), (2, .int tol), (3, .int what)]) dX7_forgotten_190 (by decide) rfl ?_
                            refine r_inc C (v := nI (d6 + 1)) (lv' := [(7, .int (nI (d6 + 1))), (6, .int (sure_8 &&& (nI d6))), (5, .int (cnt_7 + (1 : Int32))), (9, .int (nI d16)), (8, .int iw_17), (4, .int (s_X7_ofDay n dy when0)), (0, .ref o), (1, .int when0), (2, .int tol), (3, .int what)]) dX7_forgotten_192 4 rfl (inc_nI d6) (by decide) rfl ?_
                            refine r_goto C (tgt := 60) dX7_forgotten_195 (by decide) ?_
                            refine r_lv [0, 1, 2, 5, 6, 7, 8, 9] rfl ?_
                            exact ih12 (d6 + 1) (cnt_7 + (1 : Int32)) (sure_8 &&& (nI d6)) (by omega) hv
                      · exact absurd c18 (fun z => absurd ((nv_lt (a := d16) (b := n) rfl rfl (by omega) (by omega)).mp z) (by omega))
                    | succ k15 ih22 =>
                      intro d16 iw_17 hk hv
                      have hv : (if what = (0 : Int32) then ((if (if (tol >>> ((nI d16) &&& 31)) &&& (1 : Int32) = (1 : Int32) then (if iw_17 = (0 : Int32) then (s_X7_forgotten_L87 n la kd dy nd when0 tol d6 k15 (d16 + 1) (0 : Int32)) else (if ((s_X7_ofDay n dy when0) >>> ((nI d16) &&& 31)) &&& (1 : Int32) = (1 : Int32) then (s_X7_forgotten_L87 n la kd dy nd when0 tol d6 k15 (d16 + 1) (1 : Int32)) else (if s_X7_is kd nd d16 (tol ||| (nI d6)) la = (1 : Int32) then (s_X7_forgotten_L87 n la kd dy nd when0 tol d6 k15 (d16 + 1) (1 : Int32)) else (s_X7_forgotten_L87 n la kd dy nd when0 tol d6 k15 (d16 + 1) (0 : Int32))))) else (if iw_17 = (0 : Int32) then (s_X7_forgotten_L87 n la kd dy nd when0 tol d6 k15 (d16 + 1) (0 : Int32)) else (if ((s_X7_ofDay n dy when0) >>> ((nI d16) &&& 31)) &&& (1 : Int32) = (1 : Int32) then (s_X7_forgotten_L87 n la kd dy nd when0 tol d6 k15 (d16 + 1) (1 : Int32)) else (if s_X7_is kd nd d16 (tol ||| (nI d6)) la = (0 : Int32) then (s_X7_forgotten_L87 n la kd dy nd when0 tol d6 k15 (d16 + 1) (1 : Int32)) else (s_X7_forgotten_L87 n la kd dy nd when0 tol d6 k15 (d16 + 1) (0 : Int32)))))) = (0 : Int32) then (s_X7_forgotten_L60 n la kd dy nd when0 tol k5 (d6 + 1) (cnt_7 + (0 : Int32)) (sure_8 &&& (-1 : Int32))) else (s_X7_forgotten_L60 n la kd dy nd when0 tol k5 (d6 + 1) (cnt_7 + (1 : Int32)) (sure_8 &&& (nI d6)))).1) else (if ((if (if (tol >>> ((nI d16) &&& 31)) &&& (1 : Int32) = (1 : Int32) then (if iw_17 = (0 : Int32) then (s_X7_forgotten_L87 n la kd dy nd when0 tol d6 k15 (d16 + 1) (0 : Int32)) else (if ((s_X7_ofDay n dy when0) >>> ((nI d16) &&& 31)) &&& (1 : Int32) = (1 : Int32) then (s_X7_forgotten_L87 n la kd dy nd when0 tol d6 k15 (d16 + 1) (1 : Int32)) else (if s_X7_is kd nd d16 (tol ||| (nI d6)) la = (1 : Int32) then (s_X7_forgotten_L87 n la kd dy nd when0 tol d6 k15 (d16 + 1) (1 : Int32)) else (s_X7_forgotten_L87 n la kd dy nd when0 tol d6 k15 (d16 + 1) (0 : Int32))))) else (if iw_17 = (0 : Int32) then (s_X7_forgotten_L87 n la kd dy nd when0 tol d6 k15 (d16 + 1) (0 : Int32)) else (if ((s_X7_ofDay n dy when0) >>> ((nI d16) &&& 31)) &&& (1 : Int32) = (1 : Int32) then (s_X7_forgotten_L87 n la kd dy nd when0 tol d6 k15 (d16 + 1) (1 : Int32)) else (if s_X7_is kd nd d16 (tol ||| (nI d6)) la = (0 : Int32) then (s_X7_forgotten_L87 n la kd dy nd when0 tol d6 k15 (d16 + 1) (1 : Int32)) else (s_X7_forgotten_L87 n la kd dy nd when0 tol d6 k15 (d16 + 1) (0 : Int32)))))) = (0 : Int32) then (s_X7_forgotten_L60 n la kd dy nd when0 tol k5 (d6 + 1) (cnt_7 + (0 : Int32)) (sure_8 &&& (-1 : Int32))) else (s_X7_forgotten_L60 n la kd dy nd when0 tol k5 (d6 + 1) (cnt_7 + (1 : Int32)) (sure_8 &&& (nI d6)))).1) = (0 : Int32) then (-4 : Int32) else ((if (if (tol >>> ((nI d16) &&& 31)) &&& (1 : Int32) = (1 : Int32) then (if iw_17 = (0 : Int32) then (s_X7_forgotten_L87 n la kd dy nd when0 tol d6 k15 (d16 + 1) (0 : Int32)) else (if ((s_X7_ofDay n dy when0) >>> ((nI d16) &&& 31)) &&& (1 : Int32) = (1 : Int32) then (s_X7_forgotten_L87 n la kd dy nd when0 tol d6 k15 (d16 + 1) (1 : Int32)) else (if s_X7_is kd nd d16 (tol ||| (nI d6)) la = (1 : Int32) then (s_X7_forgotten_L87 n la kd dy nd when0 tol d6 k15 (d16 + 1) (1 : Int32)) else (s_X7_forgotten_L87 n la kd dy nd when0 tol d6 k15 (d16 + 1) (0 : Int32))))) else (if iw_17 = (0 : Int32) then (s_X7_forgotten_L87 n la kd dy nd when0 tol d6 k15 (d16 + 1) (0 : Int32)) else (if ((s_X7_ofDay n dy when0) >>> ((nI d16) &&& 31)) &&& (1 : Int32) = (1 : Int32) then (s_X7_forgotten_L87 n la kd dy nd when0 tol d6 k15 (d16 + 1) (1 : Int32)) else (if s_X7_is kd nd d16 (tol ||| (nI d6)) la = (0 : Int32) then (s_X7_forgotten_L87 n la kd dy nd when0 tol d6 k15 (d16 + 1) (1 : Int32)) else (s_X7_forgotten_L87 n la kd dy nd when0 tol d6 k15 (d16 + 1) (0 : Int32)))))) = (0 : Int32) then (s_X7_forgotten_L60 n la kd dy nd when0 tol k5 (d6 + 1) (cnt_7 + (0 : Int32)) (sure_8 &&& (-1 : Int32))) else (s_X7_forgotten_L60 n la kd dy nd when0 tol k5 (d6 + 1) (cnt_7 + (1 : Int32)) (sure_8 &&& (nI d6)))).2))) = V := hv
                      refine r_il C dX7_forgotten_87 0 rfl ?_
                      refine r_aln C dX7_forgotten_89 rfl 6 rfl ?_
                      refine gf_X7_84 C 0 rfl rfl dX7_forgotten_90 ?_
                      refine r_icge C (tgt := 161) dX7_forgotten_93 (by decide) (fun c23 => ?_) (fun c23 => ?_)
                      · exact absurd ((nv_lt (a := d16) (b := n) rfl rfl (by omega) (by omega)).mpr (by omega)) c23
                      · skip
                        refine r_iln C dX7_forgotten_96 rfl 8 rfl ?_
                        refine r_il C dX7_forgotten_97 0 rfl ?_
                        refine r_ishr C dX7_forgotten_99 ?_
                        refine r_ic C (v := (1 : Int32)) dX7_forgotten_100 (by decide) ?_
                        refine r_iand C dX7_forgotten_101 ?_
                        refine r_ic C (v := (1 : Int32)) dX7_forgotten_102 (by decide) ?_
                        refine r_icne C (tgt := 110) dX7_forgotten_103 (by decide) (fun c24 => ?_) (fun c24 => ?_)
                        · rw [if_neg c24] at hv
                          refine r_ic C (v := (0 : Int32)) dX7_forgotten_110 (by decide) ?_
                          refine r_is C (lv' := [(10, .int (0 : Int32)), (9, .int (nI d16)), (8, .int iw_17), (7, .int (nI d6)), (6, .int sure_8), (5, .int cnt_7), (4, .int (s_X7_ofDay n dy when0)), (0, .ref o), (1, .int when0), (2, .int tol), (3, .int what)]) dX7_forgotten_111 (by decide) rfl ?_
                          refine r_il C dX7_forgotten_113 2 rfl ?_
                          refine r_ifeq C (tgt := 152) dX7_forgotten_115 (by decide) (fun c25 => ?_) (fun c25 => ?_)
                          · rw [if_pos c25] at hv
                            refine r_ic C (v := (0 : Int32)) dX7_forgotten_152 (by decide) ?_
                            refine r_is C (lv' := [(8, .int (0 : Int32)), (10, .int (0 : Int32)), (9, .int (nI d16)), (7, .int (nI d6)), (6, .int sure_8), (5, .int cnt_7), (4, .int (s_X7_ofDay n dy when0)), (0, .ref o), (1, .int when0), (2, .int tol), (3, .int what)]) dX7_forgotten_153 (by decide) rfl ?_
                            refine r_inc C (v := nI (d16 + 1)) (lv' := [(9, .int (nI (d16 + 1))), (8, .int (0 : Int32)), (10, .int (0 : Int32)), (7, .int (nI d6)), (6, .int sure_8), (5, .int cnt_7), (4, .int (s_X7_ofDay n dy when0)), (0, .ref o), (1, .int when0), (2, .int tol), (3, .int what)]) dX7_forgotten_155 2 rfl (inc_nI d16) (by decide) rfl ?_
                            refine r_goto C (tgt := 87) dX7_forgotten_158 (by decide) ?_
                            refine r_lv [0, 1, 3, 4, 5, 6, 7, 8, 9, 10] rfl ?_
                            exact ih22 (d16 + 1) (0 : Int32) (by omega) hv
                          · rw [if_neg c25] at hv
                            refine r_il C dX7_forgotten_118 6 rfl ?_
                            refine r_il C dX7_forgotten_120 1 rfl ?_
                            refine r_ishr C dX7_forgotten_122 ?_
                            refine r_ic C (v := (1 : Int32)) dX7_forgotten_123 (by decide) ?_
                            refine r_iand C dX7_forgotten_124 ?_
                            refine r_ic C (v := (1 : Int32)) dX7_forgotten_125 (by decide) ?_
                            refine r_iceq C (tgt := 148) dX7_forgotten_126 (by decide) (fun c26 => ?_) (fun c26 => ?_)
                            · rw [if_pos c26] at hv
                              refine r_ic C (v := (1 : Int32)) dX7_forgotten_148 (by decide) ?_
                              refine r_goto C (tgt := 153) dX7_forgotten_149 (by decide) ?_
                              refine r_is C (lv' := [(8, .int (1 : Int32)), (10, .int (0 : Int32)), (9, .int (nI d16)), (7, .int (nI d6)), (6, .int sure_8), (5, .int cnt_7), (4, .int (s_X7_ofDay n dy when0)), (0, .ref o), (1, .int when0), (2, .int tol), (3, .int what)]) dX7_forgotten_153 (by decide) rfl ?_
                              refine r_inc C (v := nI (d16 + 1)) (lv' := [(9, .int (nI (d16 + 1))), (8, .int (1 : Int32)), (10, .int (0 : Int32)), (7, .int (nI d6)), (6, .int sure_8), (5, .int cnt_7), (4, .int (s_X7_ofDay n dy when0)), (0, .ref o), (1, .int when0), (2, .int tol), (3, .int what)]) dX7_forgotten_155 2 rfl (inc_nI d16) (by decide) rfl ?_
                              refine r_goto C (tgt := 87) dX7_forgotten_158 (by decide) ?_
                              refine r_lv [0, 1, 3, 4, 5, 6, 7, 8, 9, 10] rfl ?_
                              exact ih22 (d16 + 1) (1 : Int32) (by omega) hv
                            · rw [if_neg c26] at hv
                              refine r_aln C dX7_forgotten_129 rfl 7 rfl ?_
                              refine r_il C dX7_forgotten_130 1 rfl ?_
                              refine r_iln C dX7_forgotten_132 rfl 9 rfl ?_
                              refine r_il C dX7_forgotten_133 3 rfl ?_
                              refine r_ior C dX7_forgotten_135 ?_
                              refine r_aln C dX7_forgotten_136 rfl 7 rfl ?_
                              refine gf_X7_116 C 0 rfl rfl dX7_forgotten_137 ?_
                              refine aft_rd (st' := [.int (s_X7_is kd nd d16 (tol ||| (nI d6)) la)]) (run_V (rest := []) C (c_X7_is l D o q1 q2 q3 q4 q5 q6 q7 q8 q9 q10 q11 q12 q13 q14 q15 q16 q17 q18 q19 q20 q21 q22 pe n la ri td ys ty ap wg rd sm bt up lw ii kd dy nd co od wo tp rk ry rn vs bs ch tr en du ol ig ln sz it mo d16 (tol ||| (nI d6)) la (by omega)) ok_X7_is wn_X7_is wl_X7_is wm_X7_105 _ 0 rfl rfl rfl ⟨Nat.le_of_ble_eq_true rfl, Nat.le_of_ble_eq_true rfl⟩ fm_all rfl (Nat.le_of_ble_eq_true rfl) dX7_forgotten_140) rfl ?_
                              refine r_il C dX7_forgotten_143 0 rfl ?_
                              refine r_icne C (tgt := 152) dX7_forgotten_145 (by decide) (fun c27 => ?_) (fun c27 => ?_)
                              · rw [if_neg c27] at hv
                                refine r_ic C (v := (0 : Int32)) dX7_forgotten_152 (by decide) ?_
                                refine r_is C (lv' := [(8, .int (0 : Int32)), (10, .int (0 : Int32)), (9, .int (nI d16)), (7, .int (nI d6)), (6, .int sure_8), (5, .int cnt_7), (4, .int (s_X7_ofDay n dy when0)), (0, .ref o), (1, .int when0), (2, .int tol), (3, .int what)]) dX7_forgotten_153 (by decide) rfl ?_
                                refine r_inc C (v := nI (d16 + 1)) (lv' := [(9, .int (nI (d16 + 1))), (8, .int (0 : Int32)), (10, .int (0 : Int32)), (7, .int (nI d6)), (6, .int sure_8), (5, .int cnt_7), (4, .int (s_X7_ofDay n dy when0)), (0, .ref o), (1, .int when0), (2, .int tol), (3, .int what)]) dX7_forgotten_155 2 rfl (inc_nI d16) (by decide) rfl ?_
                                refine r_goto C (tgt := 87) dX7_forgotten_158 (by decide) ?_
                                refine r_lv [0, 1, 3, 4, 5, 6, 7, 8, 9, 10] rfl ?_
                                exact ih22 (d16 + 1) (0 : Int32) (by omega) hv
                              · rw [if_pos c27] at hv
                                refine r_ic C (v := (1 : Int32)) dX7_forgotten_148 (by decide) ?_
                                refine r_goto C (tgt := 153) dX7_forgotten_149 (by decide) ?_
                                refine r_is C (lv' := [(8, .int (1 : Int32)), (10, .int (0 : Int32)), (9, .int (nI d16)), (7, .int (nI d6)), (6, .int sure_8), (5, .int cnt_7), (4, .int (s_X7_ofDay n dy when0)), (0, .ref o), (1, .int when0), (2, .int tol), (3, .int what)]) dX7_forgotten_153 (by decide) rfl ?_
                                refine r_inc C (v := nI (d16 + 1)) (lv' := [(9, .int (nI (d16 + 1))), (8, .int (1 : Int32)), (10, .int (0 : Int32)), (7, .int (nI d6)), (6, .int sure_8), (5, .int cnt_7), (4, .int (s_X7_ofDay n dy when0)), (0, .ref o), (1, .int when0), (2, .int tol), (3, .int what)]) dX7_forgotten_155 2 rfl (inc_nI d16) (by decide) rfl ?_
                                refine r_goto C (tgt := 87) dX7_forgotten_158 (by decide) ?_
                                refine r_lv [0, 1, 3, 4, 5, 6, 7, 8, 9, 10] rfl ?_
                                exact ih22 (d16 + 1) (1 : Int32) (by omega) hv
                        · rw [if_pos c24] at hv
                          refine r_ic C (v := (1 : Int32)) dX7_forgotten_106 (by decide) ?_
                          refine r_goto C (tgt := 111) dX7_forgotten_107 (by decide) ?_
                          refine r_is C (lv' := [(10, .int (1 : Int32)), (9, .int (nI d16)), (8, .int iw_17), (7, .int (nI d6)), (6, .int sure_8), (5, .int cnt_7), (4, .int (s_X7_ofDay n dy when0)), (0, .ref o), (1, .int when0), (2, .int tol), (3, .int what)]) dX7_forgotten_111 (by decide) rfl ?_
                          refine r_il C dX7_forgotten_113 2 rfl ?_
                          refine r_ifeq C (tgt := 152) dX7_forgotten_115 (by decide) (fun c28 => ?_) (fun c28 => ?_)
                          · rw [if_pos c28] at hv
                            refine r_ic C (v := (0 : Int32)) dX7_forgotten_152 (by decide) ?_
                            refine r_is C (lv' := [(8, .int (0 : Int32)), (10, .int (1 : Int32)), (9, .int (nI d16)), (7, .int (nI d6)), (6, .int sure_8), (5, .int cnt_7), (4, .int (s_X7_ofDay n dy when0)), (0, .ref o), (1, .int when0), (2, .int tol), (3, .int what)]) dX7_forgotten_153 (by decide) rfl ?_
                            refine r_inc C (v := nI (d16 + 1)) (lv' := [(9, .int (nI (d16 + 1))), (8, .int (0 : Int32)), (10, .int (1 : Int32)), (7, .int (nI d6)), (6, .int sure_8), (5, .int cnt_7), (4, .int (s_X7_ofDay n dy when0)), (0, .ref o), (1, .int when0), (2, .int tol), (3, .int what)]) dX7_forgotten_155 2 rfl (inc_nI d16) (by decide) rfl ?_
                            refine r_goto C (tgt := 87) dX7_forgotten_158 (by decide) ?_
                            refine r_lv [0, 1, 3, 4, 5, 6, 7, 8, 9, 10] rfl ?_
                            exact ih22 (d16 + 1) (0 : Int32) (by omega) hv
                          · rw [if_neg c28] at hv
                            refine r_il C dX7_forgotten_118 6 rfl ?_
                            refine r_il C dX7_forgotten_120 1 rfl ?_
                            refine r_ishr C dX7_forgotten_122 ?_
                            refine r_ic C (v := (1 : Int32)) dX7_forgotten_123 (by decide) ?_
                            refine r_iand C dX7_forgotten_124 ?_
                            refine r_ic C (v := (1 : Int32)) dX7_forgotten_125 (by decide) ?_
                            refine r_iceq C (tgt := 148) dX7_forgotten_126 (by decide) (fun c29 => ?_) (fun c29 => ?_)
                            · rw [if_pos c29] at hv
                              refine r_ic C (v := (1 : Int32)) dX7_forgotten_148 (by decide) ?_
                              refine r_goto C (tgt := 153) dX7_forgotten_149 (by decide) ?_
                              refine r_is C (lv' := [(8, .int (1 : Int32)), (10, .int (1 : Int32)), (9, .int (nI d16)), (7, .int (nI d6)), (6, .int sure_8), (5, .int cnt_7), (4, .int (s_X7_ofDay n dy when0)), (0, .ref o), (1, .int when0), (2, .int tol), (3, .int what)]) dX7_forgotten_153 (by decide) rfl ?_
                              refine r_inc C (v := nI (d16 + 1)) (lv' := [(9, .int (nI (d16 + 1))), (8, .int (1 : Int32)), (10, .int (1 : Int32)), (7, .int (nI d6)), (6, .int sure_8), (5, .int cnt_7), (4, .int (s_X7_ofDay n dy when0)), (0, .ref o), (1, .int when0), (2, .int tol), (3, .int what)]) dX7_forgotten_155 2 rfl (inc_nI d16) (by decide) rfl ?_
                              refine r_goto C (tgt := 87) dX7_forgotten_158 (by decide) ?_
                              refine r_lv [0, 1, 3, 4, 5, 6, 7, 8, 9, 10] rfl ?_
                              exact ih22 (d16 + 1) (1 : Int32) (by omega) hv
                            · rw [if_neg c29] at hv
                              refine r_aln C dX7_forgotten_129 rfl 7 rfl ?_
                              refine r_il C dX7_forgotten_130 1 rfl ?_
                              refine r_iln C dX7_forgotten_132 rfl 9 rfl ?_
                              refine r_il C dX7_forgotten_133 3 rfl ?_
                              refine r_ior C dX7_forgotten_135 ?_
                              refine r_aln C dX7_forgotten_136 rfl 7 rfl ?_
                              refine gf_X7_116 C 0 rfl rfl dX7_forgotten_137 ?_
                              refine aft_rd (st' := [.int (s_X7_is kd nd d16 (tol ||| (nI d6)) la)]) (run_V (rest := []) C (c_X7_is l D o q1 q2 q3 q4 q5 q6 q7 q8 q9 q10 q11 q12 q13 q14 q15 q16 q17 q18 q19 q20 q21 q22 pe n la ri td ys ty ap wg rd sm bt up lw ii kd dy nd co od wo tp rk ry rn vs bs ch tr en du ol ig ln sz it mo d16 (tol ||| (nI d6)) la (by omega)) ok_X7_is wn_X7_is wl_X7_is wm_X7_105 _ 0 rfl rfl rfl ⟨Nat.le_of_ble_eq_true rfl, Nat.le_of_ble_eq_true rfl⟩ fm_all rfl (Nat.le_of_ble_eq_true rfl) dX7_forgotten_140) rfl ?_
                              refine r_il C dX7_forgotten_143 0 rfl ?_
                              refine r_icne C (tgt := 152) dX7_forgotten_145 (by decide) (fun c30 => ?_) (fun c30 => ?_)
                              · rw [if_neg c30] at hv
                                refine r_ic C (v := (0 : Int32)) dX7_forgotten_152 (by decide) ?_
                                refine r_is C (lv' := [(8, .int (0 : Int32)), (10, .int (1 : Int32)), (9, .int (nI d16)), (7, .int (nI d6)), (6, .int sure_8), (5, .int cnt_7), (4, .int (s_X7_ofDay n dy when0)), (0, .ref o), (1, .int when0), (2, .int tol), (3, .int what)]) dX7_forgotten_153 (by decide) rfl ?_
                                refine r_inc C (v := nI (d16 + 1)) (lv' := [(9, .int (nI (d16 + 1))), (8, .int (0 : Int32)), (10, .int (1 : Int32)), (7, .int (nI d6)), (6, .int sure_8), (5, .int cnt_7), (4, .int (s_X7_ofDay n dy when0)), (0, .ref o), (1, .int when0), (2, .int tol), (3, .int what)]) dX7_forgotten_155 2 rfl (inc_nI d16) (by decide) rfl ?_
                                refine r_goto C (tgt := 87) dX7_forgotten_158 (by decide) ?_
                                refine r_lv [0, 1, 3, 4, 5, 6, 7, 8, 9, 10] rfl ?_
                                exact ih22 (d16 + 1) (0 : Int32) (by omega) hv
                              · rw [if_pos c30] at hv
                                refine r_ic C (v := (1 : Int32)) dX7_forgotten_148 (by decide) ?_
                                refine r_goto C (tgt := 153) dX7_forgotten_149 (by decide) ?_
                                refine r_is C (lv' := [(8, .int (1 : Int32)), (10, .int (1 : Int32)), (9, .int (nI d16)), (7, .int (nI d6)), (6, .int sure_8), (5, .int cnt_7), (4, .int (s_X7_ofDay n dy when0)), (0, .ref o), (1, .int when0), (2, .int tol), (3, .int what)]) dX7_forgotten_153 (by decide) rfl ?_
                                refine r_inc C (v := nI (d16 + 1)) (lv' := [(9, .int (nI (d16 + 1))), (8, .int (1 : Int32)), (10, .int (1 : Int32)), (7, .int (nI d6)), (6, .int sure_8), (5, .int cnt_7), (4, .int (s_X7_ofDay n dy when0)), (0, .ref o), (1, .int when0), (2, .int tol), (3, .int what)]) dX7_forgotten_155 2 rfl (inc_nI d16) (by decide) rfl ?_
                                refine r_goto C (tgt := 87) dX7_forgotten_158 (by decide) ?_
                                refine r_lv [0, 1, 3, 4, 5, 6, 7, 8, 9, 10] rfl ?_
                                exact ih22 (d16 + 1) (1 : Int32) (by omega) hv
                  refine r_lve (lv2 := [(9, .int (nI 0)), (8, .int (1 : Int32)), (7, .int (nI d6)), (6, .int sure_8), (5, .int cnt_7), (4, .int (s_X7_ofDay n dy when0)), (0, .ref o), (1, .int when0), (2, .int tol), (3, .int what)]) (congrArg (fun (z : Int32) => ([(9, .int z), (8, .int (1 : Int32)), (7, .int (nI d6)), (6, .int sure_8), (5, .int cnt_7), (4, .int (s_X7_ofDay n dy when0)), (0, .ref o), (1, .int when0), (2, .int tol), (3, .int what)] : List (Nat × Value))) rfl) ?_
                  exact L31 n 0 (1 : Int32) (by omega) hv
          refine r_lve (lv2 := [(7, .int (nI 0)), (6, .int (s_X7_ofDay n dy when0)), (5, .int (0 : Int32)), (4, .int (s_X7_ofDay n dy when0)), (0, .ref o), (1, .int when0), (2, .int tol), (3, .int what)]) (congrArg (fun (z : Int32) => ([(7, .int z), (6, .int (s_X7_ofDay n dy when0)), (5, .int (0 : Int32)), (4, .int (s_X7_ofDay n dy when0)), (0, .ref o), (1, .int when0), (2, .int tol), (3, .int what)] : List (Nat × Value))) rfl) ?_
          exact L32 (2 ^ n) 0 (0 : Int32) (s_X7_ofDay n dy when0) (by omega) hv
        · rw [if_pos c4] at hv
          refine r_ic C (v := (-1 : Int32)) dX7_forgotten_41 (by decide) ?_
          exact r_iret rfl C (congrArg (fun z => some (Value.int z)) hv) rfl dX7_forgotten_42

theorem four_s (d : Nat) : lN (4 ^ d) * (4 : Int64) = lN (4 ^ (d + 1)) := by
  have e : (4 : Int64) = lN 4 := rfl
  rw [e, lN_mul, Nat.pow_succ]
theorem four_pos {d : Nat} {x : Int64} (h : x = lN (4 ^ d) ∧ d ≤ 12) : (0 : Int64) < x := by
  obtain ⟨rfl, hd⟩ := h
  have h1 : 1 ≤ 4 ^ d := Nat.one_le_pow d 4 (by decide)
  have h2 : 4 ^ d ≤ 4 ^ 12 := Nat.pow_le_pow_right (by decide) hd
  have h3 : (4 : Nat) ^ 12 = 16777216 := by decide
  exact (lN_lt (a := 0) (by omega) (by omega)).mpr (by omega)
theorem gcd_ne {x : Int64} (h : (0 : Int32) < lg_cmp x (0 : Int64)) : ¬ x = 0 := fun z => absurd ((lcmp_gt _ _).mp h) (by rw [z]; decide)
theorem gcd_z {x : Int64} (h : x.toNatClampNeg ≤ 0) : ¬ (0 : Int32) < lg_cmp x (0 : Int64) := fun z => by
  have h2 := Int64.lt_iff_toInt_lt.mp ((lcmp_gt _ _).mp z)
  have e0 : (0 : Int64).toInt = 0 := by decide
  have e : x.toNatClampNeg = x.toInt.toNat := rfl
  omega
theorem gcd_s {x y : Int64} {k : Nat} (h : (0 : Int32) < lg_cmp x (0 : Int64)) (hy : (0 : Int64) < y) (hk : x.toNatClampNeg ≤ k + 1) : (y - y / x * x).toNatClampNeg ≤ k := by
  have hx := (lcmp_gt _ _).mp h
  obtain ⟨a, ha, rfl⟩ := pk_lOf (x := x) (fun z => absurd (Int64.lt_trans hx z) (Int64.lt_irrefl))
  obtain ⟨b, hb, rfl⟩ := pk_lOf (x := y) (fun z => absurd (Int64.lt_trans hy z) (Int64.lt_irrefl))
  have h0 : 0 < a := (pk_lLT (a := 0) (by omega) ha).mp hx
  rw [pk_lRem hb h0 ha]
  have e1 : (lN a).toNatClampNeg = a := by show (lN a).toInt.toNat = a; rw [pk_lT ha]; rfl
  have hm := Nat.mod_lt b h0
  have e2 : (lN (b % a)).toNatClampNeg = b % a := by show (lN (b % a)).toInt.toNat = b % a; rw [pk_lT (by omega)]; rfl
  rw [e1] at hk
  rw [e2]
  omega
theorem i64_pos_ne {x : Int64} (h : (0 : Int64) < x) : ¬ x = 0 := fun z => absurd h (by rw [z]; decide)
