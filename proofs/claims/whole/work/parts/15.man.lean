def s_X7_restore (pe : Nat) (n : Nat) (la : Int32) (ri : Int32) (td : Int32) (ys : Int32) (ii : Int32) (kd : Nat → Int32) (dy : Nat → Int32) (nd : Nat → Int32) (co : Nat → Int32) (od : Nat → Int32) (wo : Nat → Int32) (ig : Nat → Int32) : Int32 × Nat × Nat × Int32 × Int32 × Int32 × Int32 × (Nat → Int32) × (Nat → Int32) × (Nat → Int32) × (Nat → Int32) × (Nat → Int32) × (Nat → Int32) := (if ii = (0 : Int32) then ((-4 : Int32), pe, n, la, ri, td, ys, kd, dy, nd, co, od, wo) else ((1 : Int32), (ig 0).toNatClampNeg, (ig 1).toNatClampNeg, ig 2, ig 3, ig 4, ig 5, (s_X7_gives12 ig kd 6).2, (s_X7_gives12 ig dy 18).2, (s_X7_gives12 ig nd 30).2, (s_X7_gives12 ig co 42).2, (s_X7_gives12 ig od 54).2, (s_X7_gives48 ig wo 66).2))
set_option maxHeartbeats 8000000 in
set_option maxRecDepth 100000 in
theorem c_X7_restore (l : Launch) (D : va_G) (o : Nat) (q1 : Nat) (q2 : Nat) (q3 : Nat) (q4 : Nat) (q5 : Nat) (q6 : Nat) (q7 : Nat) (q8 : Nat) (q9 : Nat) (q10 : Nat) (q11 : Nat) (q12 : Nat) (q13 : Nat) (q14 : Nat) (q15 : Nat) (q16 : Nat) (q17 : Nat) (q18 : Nat) (q19 : Nat) (q20 : Nat) (q21 : Nat) (q22 : Nat) (pe : Nat) (n : Nat) (la : Int32) (ri : Int32) (td : Int32) (ys : Int32) (ty : Nat) (ap : Nat) (wg : Int32) (rd : Nat) (sm : Int32) (bt : Int32) (up : Int64) (lw : Int64) (ii : Int32) (kd : Nat → Int32) (dy : Nat → Int32) (nd : Nat → Int32) (co : Nat → Int32) (od : Nat → Int32) (wo : Nat → Int32) (tp : Nat → Int32) (rk : Nat → Int32) (ry : Nat → Int32) (rn : Nat → Int32) (vs : Nat → Int32) (bs : Nat → Int32) (ch : Nat → Int32) (tr : Nat → Int32) (en : Nat → Int32) (du : Nat → Int32) (ol : Nat → Int32) (ig : Nat → Int32) (ln : Nat → Int32) (sz : Nat → Int32) (it : Nat → Int64) (mo : Nat → Int64) (hi0 : ig 0 = nI (ig 0).toNatClampNeg) (hi1 : ig 1 = nI (ig 1).toNatClampNeg) (h0 : va_D (fun _ => True) (wM D o q1 q2 q3 q4 q5 q6 q7 q8 q9 q10 q11 q12 q13 q14 q15 q16 q17 q18 q19 q20 q21 q22 pe n la ri td ys ty ap wg rd sm bt up lw ii kd dy nd co od wo tp rk ry rn vs bs ch tr en du ol ig ln sz it mo)) : ct l yX7_restore cX7_restore 2 (some .int) 1 23 D [.ref o] (wM D o q1 q2 q3 q4 q5 q6 q7 q8 q9 q10 q11 q12 q13 q14 q15 q16 q17 q18 q19 q20 q21 q22 pe n la ri td ys ty ap wg rd sm bt up lw ii kd dy nd co od wo tp rk ry rn vs bs ch tr en du ol ig ln sz it mo) (wM D o q1 q2 q3 q4 q5 q6 q7 q8 q9 q10 q11 q12 q13 q14 q15 q16 q17 q18 q19 q20 q21 q22 (s_X7_restore pe n la ri td ys ii kd dy nd co od wo ig).2.1 (s_X7_restore pe n la ri td ys ii kd dy nd co od wo ig).2.2.1 (s_X7_restore pe n la ri td ys ii kd dy nd co od wo ig).2.2.2.1 (s_X7_restore pe n la ri td ys ii kd dy nd co od wo ig).2.2.2.2.1 (s_X7_restore pe n la ri td ys ii kd dy nd co od wo ig).2.2.2.2.2.1 (s_X7_restore pe n la ri td ys ii kd dy nd co od wo ig).2.2.2.2.2.2.1 ty ap wg rd sm bt up lw ii (s_X7_restore pe n la ri td ys ii kd dy nd co od wo ig).2.2.2.2.2.2.2.1 (s_X7_restore pe n la ri td ys ii kd dy nd co od wo ig).2.2.2.2.2.2.2.2.1 (s_X7_restore pe n la ri td ys ii kd dy nd co od wo ig).2.2.2.2.2.2.2.2.2.1 (s_X7_restore pe n la ri td ys ii kd dy nd co od wo ig).2.2.2.2.2.2.2.2.2.2.1 (s_X7_restore pe n la ri td ys ii kd dy nd co od wo ig).2.2.2.2.2.2.2.2.2.2.2.1 (s_X7_restore pe n la ri td ys ii kd dy nd co od wo ig).2.2.2.2.2.2.2.2.2.2.2.2 tp rk ry rn vs bs ch tr en du ol ig ln sz it mo) (Ad (wM D o q1 q2 q3 q4 q5 q6 q7 q8 q9 q10 q11 q12 q13 q14 q15 q16 q17 q18 q19 q20 q21 q22 pe n la ri td ys ty ap wg rd sm bt up lw ii kd dy nd co od wo tp rk ry rn vs bs ch tr en du ol ig ln sz it mo)) (some (Value.int (s_X7_restore pe n la ri td ys ii kd dy nd co od wo ig).1)) := by
  obtain ⟨V, hv⟩ : ∃ V, s_X7_restore pe n la ri td ys ii kd dy nd co od wo ig = V := ⟨_, rfl⟩
  rw [hv]
  refine ct_intro (own := RX7) (lv := [(0, .ref o)]) (by decide) rfl (Nat.le_of_ble_eq_true rfl) rfl ?_
  intro p_ e_ s_ m_ below_ meth_ c_ C
  have hv : (if ii = (0 : Int32) then ((-4 : Int32), pe, n, la, ri, td, ys, kd, dy, nd, co, od, wo) else ((1 : Int32), (ig 0).toNatClampNeg, (ig 1).toNatClampNeg, ig 2, ig 3, ig 4, ig 5, (s_X7_gives12 ig kd 6).2, (s_X7_gives12 ig dy 18).2, (s_X7_gives12 ig nd 30).2, (s_X7_gives12 ig co 42).2, (s_X7_gives12 ig od 54).2, (s_X7_gives48 ig wo 66).2)) = V := hv
  refine r_aln C dX7_restore_0 rfl 0 rfl ?_
  refine gf_X7_221 C 0 rfl rfl dX7_restore_1 ?_
  refine r_ifne C (tgt := 10) dX7_restore_4 (by decide) (fun c1 => ?_) (fun c1 => ?_)
  · rw [if_neg c1] at hv
    refine r_aln C dX7_restore_10 rfl 0 rfl ?_
    refine r_aln C dX7_restore_11 rfl 0 rfl ?_
    refine gf_X7_61 C 0 rfl rfl dX7_restore_12 ?_
    refine r_ic C (v := (0 : Int32)) dX7_restore_15 (by decide) ?_
    refine r_iald C 18 0 rfl rfl (by omega) (by decide) rfl dX7_restore_16 ?_
    refine r_top hi0 ?_
    refine pf_X7_77 C (ws2 := wM D o q1 q2 q3 q4 q5 q6 q7 q8 q9 q10 q11 q12 q13 q14 q15 q16 q17 q18 q19 q20 q21 q22 ((ig 0).toNatClampNeg) n la ri td ys ty ap wg rd sm bt up lw ii kd dy nd co od wo tp rk ry rn vs bs ch tr en du ol ig ln sz it mo) h0 rfl 0 rfl (Nat.le_of_ble_eq_true rfl) dX7_restore_17 rfl rfl ?_
    refine r_aln C dX7_restore_20 rfl 0 rfl ?_
    refine r_aln C dX7_restore_21 rfl 0 rfl ?_
    refine gf_X7_61 C 0 rfl rfl dX7_restore_22 ?_
    refine r_ic C (v := (1 : Int32)) dX7_restore_25 (by decide) ?_
    refine r_iald C 18 1 rfl rfl (by omega) (by decide) rfl dX7_restore_26 ?_
    refine r_top hi1 ?_
    refine pf_X7_84 C (ws2 := wM D o q1 q2 q3 q4 q5 q6 q7 q8 q9 q10 q11 q12 q13 q14 q15 q16 q17 q18 q19 q20 q21 q22 ((ig 0).toNatClampNeg) ((ig 1).toNatClampNeg) la ri td ys ty ap wg rd sm bt up lw ii kd dy nd co od wo tp rk ry rn vs bs ch tr en du ol ig ln sz it mo) h0 rfl 0 rfl (Nat.le_of_ble_eq_true rfl) dX7_restore_27 rfl rfl ?_
    refine r_aln C dX7_restore_30 rfl 0 rfl ?_
    refine r_aln C dX7_restore_31 rfl 0 rfl ?_
    refine gf_X7_61 C 0 rfl rfl dX7_restore_32 ?_
    refine r_ic C (v := (2 : Int32)) dX7_restore_35 (by decide) ?_
    refine r_iald C 18 2 rfl rfl (by omega) (by decide) rfl dX7_restore_36 ?_
    refine pf_X7_116 C (ws2 := wM D o q1 q2 q3 q4 q5 q6 q7 q8 q9 q10 q11 q12 q13 q14 q15 q16 q17 q18 q19 q20 q21 q22 ((ig 0).toNatClampNeg) ((ig 1).toNatClampNeg) (ig 2) ri td ys ty ap wg rd sm bt up lw ii kd dy nd co od wo tp rk ry rn vs bs ch tr en du ol ig ln sz it mo) h0 rfl 0 rfl (Nat.le_of_ble_eq_true rfl) dX7_restore_37 rfl rfl ?_
    refine r_aln C dX7_restore_40 rfl 0 rfl ?_
    refine r_aln C dX7_restore_41 rfl 0 rfl ?_
    refine gf_X7_61 C 0 rfl rfl dX7_restore_42 ?_
    refine r_ic C (v := (3 : Int32)) dX7_restore_45 (by decide) ?_
    refine r_iald C 18 3 rfl rfl (by omega) (by decide) rfl dX7_restore_46 ?_
    refine pf_X7_113 C (ws2 := wM D o q1 q2 q3 q4 q5 q6 q7 q8 q9 q10 q11 q12 q13 q14 q15 q16 q17 q18 q19 q20 q21 q22 ((ig 0).toNatClampNeg) ((ig 1).toNatClampNeg) (ig 2) (ig 3) td ys ty ap wg rd sm bt up lw ii kd dy nd co od wo tp rk ry rn vs bs ch tr en du ol ig ln sz it mo) h0 rfl 0 rfl (Nat.le_of_ble_eq_true rfl) dX7_restore_47 rfl rfl ?_
    refine r_aln C dX7_restore_50 rfl 0 rfl ?_
    refine r_aln C dX7_restore_51 rfl 0 rfl ?_
    refine gf_X7_61 C 0 rfl rfl dX7_restore_52 ?_
    refine r_ic C (v := (4 : Int32)) dX7_restore_55 (by decide) ?_
    refine r_iald C 18 4 rfl rfl (by omega) (by decide) rfl dX7_restore_56 ?_
    refine pf_X7_81 C (ws2 := wM D o q1 q2 q3 q4 q5 q6 q7 q8 q9 q10 q11 q12 q13 q14 q15 q16 q17 q18 q19 q20 q21 q22 ((ig 0).toNatClampNeg) ((ig 1).toNatClampNeg) (ig 2) (ig 3) (ig 4) ys ty ap wg rd sm bt up lw ii kd dy nd co od wo tp rk ry rn vs bs ch tr en du ol ig ln sz it mo) h0 rfl 0 rfl (Nat.le_of_ble_eq_true rfl) dX7_restore_57 rfl rfl ?_
    refine r_aln C dX7_restore_60 rfl 0 rfl ?_
    refine r_aln C dX7_restore_61 rfl 0 rfl ?_
    refine gf_X7_61 C 0 rfl rfl dX7_restore_62 ?_
    refine r_ic C (v := (5 : Int32)) dX7_restore_65 (by decide) ?_
    refine r_iald C 18 5 rfl rfl (by omega) (by decide) rfl dX7_restore_66 ?_
    refine pf_X7_131 C (ws2 := wM D o q1 q2 q3 q4 q5 q6 q7 q8 q9 q10 q11 q12 q13 q14 q15 q16 q17 q18 q19 q20 q21 q22 ((ig 0).toNatClampNeg) ((ig 1).toNatClampNeg) (ig 2) (ig 3) (ig 4) (ig 5) ty ap wg rd sm bt up lw ii kd dy nd co od wo tp rk ry rn vs bs ch tr en du ol ig ln sz it mo) h0 rfl 0 rfl (Nat.le_of_ble_eq_true rfl) dX7_restore_67 rfl rfl ?_
    refine r_aln C dX7_restore_70 rfl 0 rfl ?_
    refine r_bp C (v := (6 : Int32)) dX7_restore_71 (by decide) ?_
    refine r_aln C dX7_restore_73 rfl 0 rfl ?_
    refine gf_X7_7 C 0 rfl rfl dX7_restore_74 ?_
    refine r_stk (st2 := [.ref q1, .int (nI 6), .ref o]) (congrArg (fun (z : Int32) => ([.ref q1, .int z, .ref o] : List Value)) rfl) ?_
    refine aft_wr (ws2 := wM D o q1 q2 q3 q4 q5 q6 q7 q8 q9 q10 q11 q12 q13 q14 q15 q16 q17 q18 q19 q20 q21 q22 ((ig 0).toNatClampNeg) ((ig 1).toNatClampNeg) (ig 2) (ig 3) (ig 4) (ig 5) ty ap wg rd sm bt up lw ii ((s_X7_gives12 ig kd 6).2) dy nd co od wo tp rk ry rn vs bs ch tr en du ol ig ln sz it mo) (st' := [.int ((s_X7_gives12 ig kd 6).1)]) h0 rfl [0, 18, 1] (run_V (rest := []) C (c_X7_gives12 l D o q1 q2 q3 q4 q5 q6 q7 q8 q9 q10 q11 q12 q13 q14 q15 q16 q17 q18 q19 q20 q21 q22 q1 ((ig 0).toNatClampNeg) ((ig 1).toNatClampNeg) (ig 2) (ig 3) (ig 4) (ig 5) ty ap wg rd sm bt up lw ii ig kd 6 (by omega) (dis_sub h0 [0, 18, 1] (by decide) rfl)) ok_X7_gives wn_X7_gives wl_X7_gives wm_X7_224 [0, 18, 1] 0 rfl rfl rfl ⟨Nat.le_of_ble_eq_true rfl, Nat.le_of_ble_eq_true rfl⟩ rfl rfl (Nat.le_of_ble_eq_true rfl) dX7_restore_77) rfl rfl rfl rfl rfl ?_
    refine r_top (gv12_1 rfl) ?_
    refine r_isn C (lv' := [(1, .int (nI 18)), (0, .ref o)]) dX7_restore_80 rfl (by decide) rfl ?_
    refine r_aln C dX7_restore_81 rfl 1 rfl ?_
    refine r_iln C dX7_restore_82 rfl 0 rfl ?_
    refine r_aln C dX7_restore_83 rfl 1 rfl ?_
    refine gf_X7_13 C 0 rfl rfl dX7_restore_84 ?_
    refine aft_wr (ws2 := wM D o q1 q2 q3 q4 q5 q6 q7 q8 q9 q10 q11 q12 q13 q14 q15 q16 q17 q18 q19 q20 q21 q22 ((ig 0).toNatClampNeg) ((ig 1).toNatClampNeg) (ig 2) (ig 3) (ig 4) (ig 5) ty ap wg rd sm bt up lw ii ((s_X7_gives12 ig kd 6).2) ((s_X7_gives12 ig dy 18).2) nd co od wo tp rk ry rn vs bs ch tr en du ol ig ln sz it mo) (st' := [.int ((s_X7_gives12 ig dy 18).1)]) h0 rfl [0, 18, 2] (run_V (rest := []) C (c_X7_gives12 l D o q1 q2 q3 q4 q5 q6 q7 q8 q9 q10 q11 q12 q13 q14 q15 q16 q17 q18 q19 q20 q21 q22 q2 ((ig 0).toNatClampNeg) ((ig 1).toNatClampNeg) (ig 2) (ig 3) (ig 4) (ig 5) ty ap wg rd sm bt up lw ii ig dy 18 (by omega) (dis_sub h0 [0, 18, 2] (by decide) rfl)) ok_X7_gives wn_X7_gives wl_X7_gives wm_X7_224 [0, 18, 2] 0 rfl rfl rfl ⟨Nat.le_of_ble_eq_true rfl, Nat.le_of_ble_eq_true rfl⟩ rfl rfl (Nat.le_of_ble_eq_true rfl) dX7_restore_87) rfl rfl rfl rfl rfl ?_
    refine r_top (gv12_1 rfl) ?_
    refine r_isn C (lv' := [(1, .int (nI 30)), (0, .ref o)]) dX7_restore_90 rfl (by decide) rfl ?_
    refine r_aln C dX7_restore_91 rfl 1 rfl ?_
    refine r_iln C dX7_restore_92 rfl 0 rfl ?_
    refine r_aln C dX7_restore_93 rfl 1 rfl ?_
    refine gf_X7_16 C 0 rfl rfl dX7_restore_94 ?_
    refine aft_wr (ws2 := wM D o q1 q2 q3 q4 q5 q6 q7 q8 q9 q10 q11 q12 q13 q14 q15 q16 q17 q18 q19 q20 q21 q22 ((ig 0).toNatClampNeg) ((ig 1).toNatClampNeg) (ig 2) (ig 3) (ig 4) (ig 5) ty ap wg rd sm bt up lw ii ((s_X7_gives12 ig kd 6).2) ((s_X7_gives12 ig dy 18).2) ((s_X7_gives12 ig nd 30).2) co od wo tp rk ry rn vs bs ch tr en du ol ig ln sz it mo) (st' := [.int ((s_X7_gives12 ig nd 30).1)]) h0 rfl [0, 18, 3] (run_V (rest := []) C (c_X7_gives12 l D o q1 q2 q3 q4 q5 q6 q7 q8 q9 q10 q11 q12 q13 q14 q15 q16 q17 q18 q19 q20 q21 q22 q3 ((ig 0).toNatClampNeg) ((ig 1).toNatClampNeg) (ig 2) (ig 3) (ig 4) (ig 5) ty ap wg rd sm bt up lw ii ig nd 30 (by omega) (dis_sub h0 [0, 18, 3] (by decide) rfl)) ok_X7_gives wn_X7_gives wl_X7_gives wm_X7_224 [0, 18, 3] 0 rfl rfl rfl ⟨Nat.le_of_ble_eq_true rfl, Nat.le_of_ble_eq_true rfl⟩ rfl rfl (Nat.le_of_ble_eq_true rfl) dX7_restore_97) rfl rfl rfl rfl rfl ?_
    refine r_top (gv12_1 rfl) ?_
    refine r_isn C (lv' := [(1, .int (nI 42)), (0, .ref o)]) dX7_restore_100 rfl (by decide) rfl ?_
    refine r_aln C dX7_restore_101 rfl 1 rfl ?_
    refine r_iln C dX7_restore_102 rfl 0 rfl ?_
    refine r_aln C dX7_restore_103 rfl 1 rfl ?_
    refine gf_X7_19 C 0 rfl rfl dX7_restore_104 ?_
    refine aft_wr (ws2 := wM D o q1 q2 q3 q4 q5 q6 q7 q8 q9 q10 q11 q12 q13 q14 q15 q16 q17 q18 q19 q20 q21 q22 ((ig 0).toNatClampNeg) ((ig 1).toNatClampNeg) (ig 2) (ig 3) (ig 4) (ig 5) ty ap wg rd sm bt up lw ii ((s_X7_gives12 ig kd 6).2) ((s_X7_gives12 ig dy 18).2) ((s_X7_gives12 ig nd 30).2) ((s_X7_gives12 ig co 42).2) od wo tp rk ry rn vs bs ch tr en du ol ig ln sz it mo) (st' := [.int ((s_X7_gives12 ig co 42).1)]) h0 rfl [0, 18, 4] (run_V (rest := []) C (c_X7_gives12 l D o q1 q2 q3 q4 q5 q6 q7 q8 q9 q10 q11 q12 q13 q14 q15 q16 q17 q18 q19 q20 q21 q22 q4 ((ig 0).toNatClampNeg) ((ig 1).toNatClampNeg) (ig 2) (ig 3) (ig 4) (ig 5) ty ap wg rd sm bt up lw ii ig co 42 (by omega) (dis_sub h0 [0, 18, 4] (by decide) rfl)) ok_X7_gives wn_X7_gives wl_X7_gives wm_X7_224 [0, 18, 4] 0 rfl rfl rfl ⟨Nat.le_of_ble_eq_true rfl, Nat.le_of_ble_eq_true rfl⟩ rfl rfl (Nat.le_of_ble_eq_true rfl) dX7_restore_107) rfl rfl rfl rfl rfl ?_
    refine r_top (gv12_1 rfl) ?_
    refine r_isn C (lv' := [(1, .int (nI 54)), (0, .ref o)]) dX7_restore_110 rfl (by decide) rfl ?_
    refine r_aln C dX7_restore_111 rfl 1 rfl ?_
    refine r_iln C dX7_restore_112 rfl 0 rfl ?_
    refine r_aln C dX7_restore_113 rfl 1 rfl ?_
    refine gf_X7_22 C 0 rfl rfl dX7_restore_114 ?_
    refine aft_wr (ws2 := wM D o q1 q2 q3 q4 q5 q6 q7 q8 q9 q10 q11 q12 q13 q14 q15 q16 q17 q18 q19 q20 q21 q22 ((ig 0).toNatClampNeg) ((ig 1).toNatClampNeg) (ig 2) (ig 3) (ig 4) (ig 5) ty ap wg rd sm bt up lw ii ((s_X7_gives12 ig kd 6).2) ((s_X7_gives12 ig dy 18).2) ((s_X7_gives12 ig nd 30).2) ((s_X7_gives12 ig co 42).2) ((s_X7_gives12 ig od 54).2) wo tp rk ry rn vs bs ch tr en du ol ig ln sz it mo) (st' := [.int ((s_X7_gives12 ig od 54).1)]) h0 rfl [0, 18, 5] (run_V (rest := []) C (c_X7_gives12 l D o q1 q2 q3 q4 q5 q6 q7 q8 q9 q10 q11 q12 q13 q14 q15 q16 q17 q18 q19 q20 q21 q22 q5 ((ig 0).toNatClampNeg) ((ig 1).toNatClampNeg) (ig 2) (ig 3) (ig 4) (ig 5) ty ap wg rd sm bt up lw ii ig od 54 (by omega) (dis_sub h0 [0, 18, 5] (by decide) rfl)) ok_X7_gives wn_X7_gives wl_X7_gives wm_X7_224 [0, 18, 5] 0 rfl rfl rfl ⟨Nat.le_of_ble_eq_true rfl, Nat.le_of_ble_eq_true rfl⟩ rfl rfl (Nat.le_of_ble_eq_true rfl) dX7_restore_117) rfl rfl rfl rfl rfl ?_
    refine r_top (gv12_1 rfl) ?_
    refine r_isn C (lv' := [(1, .int (nI 66)), (0, .ref o)]) dX7_restore_120 rfl (by decide) rfl ?_
    refine r_aln C dX7_restore_121 rfl 1 rfl ?_
    refine r_iln C dX7_restore_122 rfl 0 rfl ?_
    refine r_aln C dX7_restore_123 rfl 1 rfl ?_
    refine gf_X7_25 C 0 rfl rfl dX7_restore_124 ?_
    refine aft_wr (ws2 := wM D o q1 q2 q3 q4 q5 q6 q7 q8 q9 q10 q11 q12 q13 q14 q15 q16 q17 q18 q19 q20 q21 q22 ((ig 0).toNatClampNeg) ((ig 1).toNatClampNeg) (ig 2) (ig 3) (ig 4) (ig 5) ty ap wg rd sm bt up lw ii ((s_X7_gives12 ig kd 6).2) ((s_X7_gives12 ig dy 18).2) ((s_X7_gives12 ig nd 30).2) ((s_X7_gives12 ig co 42).2) ((s_X7_gives12 ig od 54).2) ((s_X7_gives48 ig wo 66).2) tp rk ry rn vs bs ch tr en du ol ig ln sz it mo) (st' := [.int ((s_X7_gives48 ig wo 66).1)]) h0 rfl [0, 18, 6] (run_V (rest := []) C (c_X7_gives48 l D o q1 q2 q3 q4 q5 q6 q7 q8 q9 q10 q11 q12 q13 q14 q15 q16 q17 q18 q19 q20 q21 q22 q6 ((ig 0).toNatClampNeg) ((ig 1).toNatClampNeg) (ig 2) (ig 3) (ig 4) (ig 5) ty ap wg rd sm bt up lw ii ig wo 66 (by omega) (dis_sub h0 [0, 18, 6] (by decide) rfl)) ok_X7_gives wn_X7_gives wl_X7_gives wm_X7_224 [0, 18, 6] 0 rfl rfl rfl ⟨Nat.le_of_ble_eq_true rfl, Nat.le_of_ble_eq_true rfl⟩ rfl rfl (Nat.le_of_ble_eq_true rfl) dX7_restore_127) rfl rfl rfl rfl rfl ?_
    refine r_pop C dX7_restore_130 rfl ?_
    refine r_ic C (v := (1 : Int32)) dX7_restore_131 (by decide) ?_
    exact r_iret rfl C (by rw [← hv]) (by rw [← hv]) dX7_restore_132
  · rw [if_pos c1] at hv
    refine r_bp C (v := (-4 : Int32)) dX7_restore_7 (by decide) ?_
    exact r_iret rfl C (by rw [← hv]) (by rw [← hv]) dX7_restore_9

