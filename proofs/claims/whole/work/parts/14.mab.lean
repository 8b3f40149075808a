def s_X7_ahead_L5 (f : Nat → Int32) (day : Int32) : Nat → Nat → Int32 → Int32
  | 0, _, set_3 => set_3
  | k1 + 1, d2, set_3 => (if day < f d2 then (s_X7_ahead_L5 f day k1 (d2 + 1) (set_3 ||| (0 : Int32))) else (s_X7_ahead_L5 f day k1 (d2 + 1) (set_3 ||| ((1 : Int32) <<< ((nI d2) &&& 31)))))
def s_X7_ahead (f : Nat → Int32) (num : Nat) (day : Int32) : Int32 := (s_X7_ahead_L5 f day num 0 (0 : Int32))
set_option maxHeartbeats 8000000 in
set_option maxRecDepth 100000 in
theorem c_X7_ahead (l : Launch) (D : va_G) (a : Nat) (f : Nat → Int32) (num : Nat) (day : Int32) (hd : num ≤ 12) : ct l yX7_ahead cX7_ahead 5 (some .int) 0 0 D [.int (nI num), .int day, .ref a] (wA12 D a f) (wA12 D a f) (fun _ => False) (some (Value.int (s_X7_ahead f num day))) := by
  obtain ⟨V, hv⟩ : ∃ V, s_X7_ahead f num day = V := ⟨_, rfl⟩
  rw [hv]
  refine ct_intro (own := RX7) (lv := [(0, .int (nI num)), (1, .int day), (2, .ref a)]) (by decide) rfl (Nat.le_of_ble_eq_true rfl) rfl ?_
  intro p_ e_ s_ m_ below_ meth_ c_ C
  have hv : (s_X7_ahead_L5 f day num 0 (0 : Int32)) = V := hv
  refine r_ic C (v := (0 : Int32)) dX7_ahead_0 (by decide) ?_
  refine r_isn C (lv' := [(3, .int (0 : Int32)), (0, .int (nI num)), (1, .int day), (2, .ref a)]) dX7_ahead_1 rfl (by decide) rfl ?_
  refine r_ic C (v := (0 : Int32)) dX7_ahead_2 (by decide) ?_
  refine r_is C (lv' := [(4, .int (0 : Int32)), (3, .int (0 : Int32)), (0, .int (nI num)), (1, .int day), (2, .ref a)]) dX7_ahead_3 (by decide) rfl ?_
  have L8 : ∀ (k1 : Nat) (d2 : Nat) (set_3 : Int32), (d2 + k1 = num) → (s_X7_ahead_L5 f day k1 d2 set_3) = V → GM p_ l e_ s_ m_ below_ meth_ c_ D 0 0 5 [.int (nI num), .int day, .ref a] (wA12 D a f) (fun _ => False) (some (Value.int V)) (wA12 D a f) 5 [(4, .int (nI d2)), (3, .int set_3), (0, .int (nI num)), (1, .int day), (2, .ref a)] [] := by
    intro k1
    induction k1 with
    | zero =>
      intro d2 set_3 hk hv
      have hv : set_3 = V := hv
      refine r_il C dX7_ahead_5 0 rfl ?_
      refine r_iln C dX7_ahead_7 rfl 2 rfl ?_
      refine r_icge C (tgt := 36) dX7_ahead_8 (by decide) (fun c4 => ?_) (fun c4 => ?_)
      · skip
        refine r_iln C dX7_ahead_36 rfl 1 rfl ?_
        exact r_iret rfl C (congrArg (fun z => some (Value.int z)) hv) rfl dX7_ahead_37
      · exact absurd c4 (fun z => absurd ((nv_lt (a := d2) (b := num) rfl rfl (by omega) (by omega)).mp z) (by omega))
    | succ k1 ih5 =>
      intro d2 set_3 hk hv
      have hv : (if day < f d2 then (s_X7_ahead_L5 f day k1 (d2 + 1) (set_3 ||| (0 : Int32))) else (s_X7_ahead_L5 f day k1 (d2 + 1) (set_3 ||| ((1 : Int32) <<< ((nI d2) &&& 31))))) = V := hv
      refine r_il C dX7_ahead_5 0 rfl ?_
      refine r_iln C dX7_ahead_7 rfl 2 rfl ?_
      refine r_icge C (tgt := 36) dX7_ahead_8 (by decide) (fun c6 => ?_) (fun c6 => ?_)
      · exact absurd ((nv_lt (a := d2) (b := num) rfl rfl (by omega) (by omega)).mpr (by omega)) c6
      · skip
        refine r_iln C dX7_ahead_11 rfl 1 rfl ?_
        refine r_aln C dX7_ahead_12 rfl 4 rfl ?_
        refine r_il C dX7_ahead_13 0 rfl ?_
        refine r_iald C 0 d2 rfl rfl (by omega) (by decide) rfl dX7_ahead_15 ?_
        refine r_iln C dX7_ahead_16 rfl 3 rfl ?_
        refine r_icgt C (tgt := 27) dX7_ahead_17 (by decide) (fun c7 => ?_) (fun c7 => ?_)
        · rw [if_pos c7] at hv
          refine r_ic C (v := (0 : Int32)) dX7_ahead_27 (by decide) ?_
          refine r_ior C dX7_ahead_28 ?_
          refine r_isn C (lv' := [(3, .int (set_3 ||| (0 : Int32))), (4, .int (nI d2)), (0, .int (nI num)), (1, .int day), (2, .ref a)]) dX7_ahead_29 rfl (by decide) rfl ?_
          refine r_inc C (v := nI (d2 + 1)) (lv' := [(4, .int (nI (d2 + 1))), (3, .int (set_3 ||| (0 : Int32))), (0, .int (nI num)), (1, .int day), (2, .ref a)]) dX7_ahead_30 1 rfl (inc_nI d2) (by decide) rfl ?_
          refine r_goto C (tgt := 5) dX7_ahead_33 (by decide) ?_
          exact ih5 (d2 + 1) (set_3 ||| (0 : Int32)) (by omega) hv
        · rw [if_neg c7] at hv
          refine r_ic C (v := (1 : Int32)) dX7_ahead_20 (by decide) ?_
          refine r_il C dX7_ahead_21 0 rfl ?_
          refine r_ishl C dX7_ahead_23 ?_
          refine r_goto C (tgt := 28) dX7_ahead_24 (by decide) ?_
          refine r_ior C dX7_ahead_28 ?_
          refine r_isn C (lv' := [(3, .int (set_3 ||| ((1 : Int32) <<< ((nI d2) &&& 31)))), (4, .int (nI d2)), (0, .int (nI num)), (1, .int day), (2, .ref a)]) dX7_ahead_29 rfl (by decide) rfl ?_
          refine r_inc C (v := nI (d2 + 1)) (lv' := [(4, .int (nI (d2 + 1))), (3, .int (set_3 ||| ((1 : Int32) <<< ((nI d2) &&& 31)))), (0, .int (nI num)), (1, .int day), (2, .ref a)]) dX7_ahead_30 1 rfl (inc_nI d2) (by decide) rfl ?_
          refine r_goto C (tgt := 5) dX7_ahead_33 (by decide) ?_
          exact ih5 (d2 + 1) (set_3 ||| ((1 : Int32) <<< ((nI d2) &&& 31))) (by omega) hv
  refine r_lve (lv2 := [(4, .int (nI 0)), (3, .int (0 : Int32)), (0, .int (nI num)), (1, .int day), (2, .ref a)]) (congrArg (fun (z : Int32) => ([(4, .int z), (3, .int (0 : Int32)), (0, .int (nI num)), (1, .int day), (2, .ref a)] : List (Nat × Value))) rfl) ?_
  exact L8 num 0 (0 : Int32) (by omega) hv

def s_X7_adds_L53 (n : Nat) : Nat → Nat → (Nat → Int32) → (Nat → Int32)
  | 0, _, wo_3 => wo_3
  | k1 + 1, d2, wo_3 => (s_X7_adds_L53 n k1 (d2 + 1) (upd wo_3 ((4 * n) + d2) (0 : Int32)))
def s_X7_adds (n : Nat) (kd : Nat → Int32) (dy : Nat → Int32) (nd : Nat → Int32) (co : Nat → Int32) (od : Nat → Int32) (wo : Nat → Int32) (kind : Int32) (when0 : Int32) (need : Int32) : Nat × (Nat → Int32) × (Nat → Int32) × (Nat → Int32) × (Nat → Int32) × (Nat → Int32) × (Nat → Int32) := (n + 1, upd kd n kind, upd dy n when0, upd nd n need, upd co n (1 : Int32), upd od n (4 : Int32), (s_X7_adds_L53 n 4 0 wo))
set_option maxHeartbeats 8000000 in
set_option maxRecDepth 100000 in
theorem c_X7_adds (l : Launch) (D : va_G) (o : Nat) (q1 : Nat) (q2 : Nat) (q3 : Nat) (q4 : Nat) (q5 : Nat) (q6 : Nat) (q7 : Nat) (q8 : Nat) (q9 : Nat) (q10 : Nat) (q11 : Nat) (q12 : Nat) (q13 : Nat) (q14 : Nat) (q15 : Nat) (q16 : Nat) (q17 : Nat) (q18 : Nat) (q19 : Nat) (q20 : Nat) (q21 : Nat) (q22 : Nat) (pe : Nat) (n : Nat) (la : Int32) (ri : Int32) (td : Int32) (ys : Int32) (ty : Nat) (ap : Nat) (wg : Int32) (rd : Nat) (sm : Int32) (bt : Int32) (up : Int64) (lw : Int64) (ii : Int32) (kd : Nat → Int32) (dy : Nat → Int32) (nd : Nat → Int32) (co : Nat → Int32) (od : Nat → Int32) (wo : Nat → Int32) (tp : Nat → Int32) (rk : Nat → Int32) (ry : Nat → Int32) (rn : Nat → Int32) (vs : Nat → Int32) (bs : Nat → Int32) (ch : Nat → Int32) (tr : Nat → Int32) (en : Nat → Int32) (du : Nat → Int32) (ol : Nat → Int32) (ig : Nat → Int32) (ln : Nat → Int32) (sz : Nat → Int32) (it : Nat → Int64) (mo : Nat → Int64) (kind : Int32) (when0 : Int32) (need : Int32) (hn1 : n < 12) (h0 : va_D (fun _ => True) (wM D o q1 q2 q3 q4 q5 q6 q7 q8 q9 q10 q11 q12 q13 q14 q15 q16 q17 q18 q19 q20 q21 q22 pe n la ri td ys ty ap wg rd sm bt up lw ii kd dy nd co od wo tp rk ry rn vs bs ch tr en du ol ig ln sz it mo)) : ct l yX7_adds cX7_adds 5 none 0 0 D [.ref o, .int kind, .int when0, .int need] (wM D o q1 q2 q3 q4 q5 q6 q7 q8 q9 q10 q11 q12 q13 q14 q15 q16 q17 q18 q19 q20 q21 q22 pe n la ri td ys ty ap wg rd sm bt up lw ii kd dy nd co od wo tp rk ry rn vs bs ch tr en du ol ig ln sz it mo) (wM D o q1 q2 q3 q4 q5 q6 q7 q8 q9 q10 q11 q12 q13 q14 q15 q16 q17 q18 q19 q20 q21 q22 pe (s_X7_adds n kd dy nd co od wo kind when0 need).1 la ri td ys ty ap wg rd sm bt up lw ii (s_X7_adds n kd dy nd co od wo kind when0 need).2.1 (s_X7_adds n kd dy nd co od wo kind when0 need).2.2.1 (s_X7_adds n kd dy nd co od wo kind when0 need).2.2.2.1 (s_X7_adds n kd dy nd co od wo kind when0 need).2.2.2.2.1 (s_X7_adds n kd dy nd co od wo kind when0 need).2.2.2.2.2.1 (s_X7_adds n kd dy nd co od wo kind when0 need).2.2.2.2.2.2 tp rk ry rn vs bs ch tr en du ol ig ln sz it mo) (Ad (wM D o q1 q2 q3 q4 q5 q6 q7 q8 q9 q10 q11 q12 q13 q14 q15 q16 q17 q18 q19 q20 q21 q22 pe n la ri td ys ty ap wg rd sm bt up lw ii kd dy nd co od wo tp rk ry rn vs bs ch tr en du ol ig ln sz it mo)) (none) := by
  obtain ⟨V, hv⟩ : ∃ V, s_X7_adds n kd dy nd co od wo kind when0 need = V := ⟨_, rfl⟩
  rw [hv]
  refine ct_intro (own := RX7) (lv := [(0, .ref o), (1, .int kind), (2, .int when0), (3, .int need)]) (by decide) rfl (Nat.le_of_ble_eq_true rfl) rfl ?_
  intro p_ e_ s_ m_ below_ meth_ c_ C
  have hv : (n + 1, upd kd n kind, upd dy n when0, upd nd n need, upd co n (1 : Int32), upd od n (4 : Int32), (s_X7_adds_L53 n 4 0 wo)) = V := hv
  refine r_aln C dX7_adds_0 rfl 0 rfl ?_
  refine gf_X7_7 C 0 rfl rfl dX7_adds_1 ?_
  refine r_aln C dX7_adds_4 rfl 0 rfl ?_
  refine gf_X7_84 C 0 rfl rfl dX7_adds_5 ?_
  refine r_iln C dX7_adds_8 rfl 1 rfl ?_
  refine r_iast C (ws2 := wM D o q1 q2 q3 q4 q5 q6 q7 q8 q9 q10 q11 q12 q13 q14 q15 q16 q17 q18 q19 q20 q21 q22 pe n la ri td ys ty ap wg rd sm bt up lw ii (upd kd n kind) dy nd co od wo tp rk ry rn vs bs ch tr en du ol ig ln sz it mo) h0 rfl 1 n rfl rfl (by omega) (by decide) dX7_adds_9 rfl rfl ?_
  refine r_aln C dX7_adds_10 rfl 0 rfl ?_
  refine gf_X7_13 C 0 rfl rfl dX7_adds_11 ?_
  refine r_aln C dX7_adds_14 rfl 0 rfl ?_
  refine gf_X7_84 C 0 rfl rfl dX7_adds_15 ?_
  refine r_iln C dX7_adds_18 rfl 2 rfl ?_
  refine r_iast C (ws2 := wM D o q1 q2 q3 q4 q5 q6 q7 q8 q9 q10 q11 q12 q13 q14 q15 q16 q17 q18 q19 q20 q21 q22 pe n la ri td ys ty ap wg rd sm bt up lw ii (upd kd n kind) (upd dy n when0) nd co od wo tp rk ry rn vs bs ch tr en du ol ig ln sz it mo) h0 rfl 2 n rfl rfl (by omega) (by decide) dX7_adds_19 rfl rfl ?_
  refine r_aln C dX7_adds_20 rfl 0 rfl ?_
  refine gf_X7_16 C 0 rfl rfl dX7_adds_21 ?_
  refine r_aln C dX7_adds_24 rfl 0 rfl ?_
  refine gf_X7_84 C 0 rfl rfl dX7_adds_25 ?_
  refine r_iln C dX7_adds_28 rfl 3 rfl ?_
  refine r_iast C (ws2 := wM D o q1 q2 q3 q4 q5 q6 q7 q8 q9 q10 q11 q12 q13 q14 q15 q16 q17 q18 q19 q20 q21 q22 pe n la ri td ys ty ap wg rd sm bt up lw ii (upd kd n kind) (upd dy n when0) (upd nd n need) co od wo tp rk ry rn vs bs ch tr en du ol ig ln sz it mo) h0 rfl 3 n rfl rfl (by omega) (by decide) dX7_adds_29 rfl rfl ?_
  refine r_aln C dX7_adds_30 rfl 0 rfl ?_
  refine gf_X7_19 C 0 rfl rfl dX7_adds_31 ?_
  refine r_aln C dX7_adds_34 rfl 0 rfl ?_
  refine gf_X7_84 C 0 rfl rfl dX7_adds_35 ?_
  refine r_ic C (v := (1 : Int32)) dX7_adds_38 (by decide) ?_
  refine r_iast C (ws2 := wM D o q1 q2 q3 q4 q5 q6 q7 q8 q9 q10 q11 q12 q13 q14 q15 q16 q17 q18 q19 q20 q21 q22 pe n la ri td ys ty ap wg rd sm bt up lw ii (upd kd n kind) (upd dy n when0) (upd nd n need) (upd co n (1 : Int32)) od wo tp rk ry rn vs bs ch tr en du ol ig ln sz it mo) h0 rfl 4 n rfl rfl (by omega) (by decide) dX7_adds_39 rfl rfl ?_
  refine r_aln C dX7_adds_40 rfl 0 rfl ?_
  refine gf_X7_22 C 0 rfl rfl dX7_adds_41 ?_
  refine r_aln C dX7_adds_44 rfl 0 rfl ?_
  refine gf_X7_84 C 0 rfl rfl dX7_adds_45 ?_
  refine r_ic C (v := (4 : Int32)) dX7_adds_48 (by decide) ?_
  refine r_iast C (ws2 := wM D o q1 q2 q3 q4 q5 q6 q7 q8 q9 q10 q11 q12 q13 q14 q15 q16 q17 q18 q19 q20 q21 q22 pe n la ri td ys ty ap wg rd sm bt up lw ii (upd kd n kind) (upd dy n when0) (upd nd n need) (upd co n (1 : Int32)) (upd od n (4 : Int32)) wo tp rk ry rn vs bs ch tr en du ol ig ln sz it mo) h0 rfl 5 n rfl rfl (by omega) (by decide) dX7_adds_49 rfl rfl ?_
  refine r_ic C (v := (0 : Int32)) dX7_adds_50 (by decide) ?_
  refine r_is C (lv' := [(4, .int (0 : Int32)), (0, .ref o), (1, .int kind), (2, .int when0), (3, .int need)]) dX7_adds_51 (by decide) rfl ?_
  have L7 : ∀ (k1 : Nat) (d2 : Nat) (wo_3 : Nat → Int32), (d2 + k1 = 4) → (n + 1, upd kd n kind, upd dy n when0, upd nd n need, upd co n (1 : Int32), upd od n (4 : Int32), (s_X7_adds_L53 n k1 d2 wo_3)) = V → GM p_ l e_ s_ m_ below_ meth_ c_ D 0 0 5 [.ref o, .int kind, .int when0, .int need] (wM D o q1 q2 q3 q4 q5 q6 q7 q8 q9 q10 q11 q12 q13 q14 q15 q16 q17 q18 q19 q20 q21 q22 pe V.1 la ri td ys ty ap wg rd sm bt up lw ii V.2.1 V.2.2.1 V.2.2.2.1 V.2.2.2.2.1 V.2.2.2.2.2.1 V.2.2.2.2.2.2 tp rk ry rn vs bs ch tr en du ol ig ln sz it mo) (Ad (wM D o q1 q2 q3 q4 q5 q6 q7 q8 q9 q10 q11 q12 q13 q14 q15 q16 q17 q18 q19 q20 q21 q22 pe n la ri td ys ty ap wg rd sm bt up lw ii kd dy nd co od wo tp rk ry rn vs bs ch tr en du ol ig ln sz it mo)) (none) (wM D o q1 q2 q3 q4 q5 q6 q7 q8 q9 q10 q11 q12 q13 q14 q15 q16 q17 q18 q19 q20 q21 q22 pe n la ri td ys ty ap wg rd sm bt up lw ii (upd kd n kind) (upd dy n when0) (upd nd n need) (upd co n (1 : Int32)) (upd od n (4 : Int32)) wo_3 tp rk ry rn vs bs ch tr en du ol ig ln sz it mo) 53 [(4, .int (nI d2)), (0, .ref o), (1, .int kind), (2, .int when0), (3, .int need)] [] := by
    intro k1
    induction k1 with
    | zero =>
      intro d2 wo_3 hk hv
      have hv : (n + 1, upd kd n kind, upd dy n when0, upd nd n need, upd co n (1 : Int32), upd od n (4 : Int32), wo_3) = V := hv
      refine r_il C dX7_adds_53 0 rfl ?_
      refine r_ic C (v := (4 : Int32)) dX7_adds_55 (by decide) ?_
      refine r_icge C (tgt := 80) dX7_adds_56 (by decide) (fun c4 => ?_) (fun c4 => ?_)
      · skip
        refine r_aln C dX7_adds_80 rfl 1 rfl ?_
        refine r_dup C dX7_adds_81 rfl ?_
        refine gf_X7_84 C 0 rfl rfl dX7_adds_82 ?_
        refine r_ic C (v := (1 : Int32)) dX7_adds_85 (by decide) ?_
        refine r_iadd C dX7_adds_86 ?_
        refine r_top (nv_add rfl rfl) ?_
        refine pf_X7_84 C (ws2 := wM D o q1 q2 q3 q4 q5 q6 q7 q8 q9 q10 q11 q12 q13 q14 q15 q16 q17 q18 q19 q20 q21 q22 pe (n + 1) la ri td ys ty ap wg rd sm bt up lw ii (upd kd n kind) (upd dy n when0) (upd nd n need) (upd co n (1 : Int32)) (upd od n (4 : Int32)) wo_3 tp rk ry rn vs bs ch tr en du ol ig ln sz it mo) h0 rfl 0 rfl (Nat.le_of_ble_eq_true rfl) dX7_adds_87 rfl rfl ?_
        exact r_vret rfl C (by rw [← hv]) dX7_adds_90
      · exact absurd c4 (fun z => absurd ((nv_lt (a := d2) (b := 4) rfl rfl (by omega) (by omega)).mp z) (by omega))
    | succ k1 ih5 =>
      intro d2 wo_3 hk hv
      have hv : (n + 1, upd kd n kind, upd dy n when0, upd nd n need, upd co n (1 : Int32), upd od n (4 : Int32), (s_X7_adds_L53 n k1 (d2 + 1) (upd wo_3 ((4 * n) + d2) (0 : Int32)))) = V := hv
      refine r_il C dX7_adds_53 0 rfl ?_
      refine r_ic C (v := (4 : Int32)) dX7_adds_55 (by decide) ?_
      refine r_icge C (tgt := 80) dX7_adds_56 (by decide) (fun c6 => ?_) (fun c6 => ?_)
      · exact absurd ((nv_lt (a := d2) (b := 4) rfl rfl (by omega) (by omega)).mpr (by omega)) c6
      · skip
        refine r_aln C dX7_adds_59 rfl 1 rfl ?_
        refine gf_X7_25 C 0 rfl rfl dX7_adds_60 ?_
        refine r_ic C (v := (4 : Int32)) dX7_adds_63 (by decide) ?_
        refine r_aln C dX7_adds_64 rfl 1 rfl ?_
        refine gf_X7_84 C 0 rfl rfl dX7_adds_65 ?_
        refine r_imul C dX7_adds_68 ?_
        refine r_il C dX7_adds_69 0 rfl ?_
        refine r_iadd C dX7_adds_71 ?_
        refine r_ic C (v := (0 : Int32)) dX7_adds_72 (by decide) ?_
        refine r_iast C (ws2 := wM D o q1 q2 q3 q4 q5 q6 q7 q8 q9 q10 q11 q12 q13 q14 q15 q16 q17 q18 q19 q20 q21 q22 pe n la ri td ys ty ap wg rd sm bt up lw ii (upd kd n kind) (upd dy n when0) (upd nd n need) (upd co n (1 : Int32)) (upd od n (4 : Int32)) (upd wo_3 ((4 * n) + d2) (0 : Int32)) tp rk ry rn vs bs ch tr en du ol ig ln sz it mo) h0 rfl 6 ((4 * n) + d2) rfl (nv_add (nv_mul rfl rfl) rfl) (by omega) (by decide) dX7_adds_73 rfl rfl ?_
        refine r_inc C (v := nI (d2 + 1)) (lv' := [(4, .int (nI (d2 + 1))), (0, .ref o), (1, .int kind), (2, .int when0), (3, .int need)]) dX7_adds_74 0 rfl (inc_nI d2) (by decide) rfl ?_
        refine r_goto C (tgt := 53) dX7_adds_77 (by decide) ?_
        exact ih5 (d2 + 1) (upd wo_3 ((4 * n) + d2) (0 : Int32)) (by omega) hv
  refine r_lve (lv2 := [(4, .int (nI 0)), (0, .ref o), (1, .int kind), (2, .int when0), (3, .int need)]) (congrArg (fun (z : Int32) => ([(4, .int z), (0, .ref o), (1, .int kind), (2, .int when0), (3, .int need)] : List (Nat × Value))) rfl) ?_
  exact L7 4 0 wo (by omega) hv

def s_X7_deed (n : Nat) (kd : Nat → Int32) (dy : Nat → Int32) (nd : Nat → Int32) (co : Nat → Int32) (od : Nat → Int32) (wo : Nat → Int32) (kind : Int32) (when0 : Int32) (need : Int32) : Int32 × Nat × (Nat → Int32) × (Nat → Int32) × (Nat → Int32) × (Nat → Int32) × (Nat → Int32) × (Nat → Int32) := (if s_X7_in kind.toInt64 (0 : Int64) (3 : Int64) = (0 : Int32) then ((-1 : Int32), n, kd, dy, nd, co, od, wo) else (if s_X7_in when0.toInt64 (0 : Int64) (11 : Int64) = (0 : Int32) then ((-1 : Int32), n, kd, dy, nd, co, od, wo) else (if need &&& ((s_X7_ahead dy n when0) ^^^ (-1 : Int32)) = (0 : Int32) then (if nI n = (12 : Int32) then ((-3 : Int32), n, kd, dy, nd, co, od, wo) else ((nI ((s_X7_adds n kd dy nd co od wo kind when0 need).1)) - (1 : Int32), (s_X7_adds n kd dy nd co od wo kind when0 need).1, (s_X7_adds n kd dy nd co od wo kind when0 need).2.1, (s_X7_adds n kd dy nd co od wo kind when0 need).2.2.1, (s_X7_adds n kd dy nd co od wo kind when0 need).2.2.2.1, (s_X7_adds n kd dy nd co od wo kind when0 need).2.2.2.2.1, (s_X7_adds n kd dy nd co od wo kind when0 need).2.2.2.2.2.1, (s_X7_adds n kd dy nd co od wo kind when0 need).2.2.2.2.2.2)) else ((-1 : Int32), n, kd, dy, nd, co, od, wo))))
set_option maxHeartbeats 8000000 in
set_option maxRecDepth 100000 in
theorem c_X7_deed (l : Launch) (D : va_G) (o : Nat) (q1 : Nat) (q2 : Nat) (q3 : Nat) (q4 : Nat) (q5 : Nat) (q6 : Nat) (q7 : Nat) (q8 : Nat) (q9 : Nat) (q10 : Nat) (q11 : Nat) (q12 : Nat) (q13 : Nat) (q14 : Nat) (q15 : Nat) (q16 : Nat) (q17 : Nat) (q18 : Nat) (q19 : Nat) (q20 : Nat) (q21 : Nat) (q22 : Nat) (pe : Nat) (n : Nat) (la : Int32) (ri : Int32) (td : Int32) (ys : Int32) (ty : Nat) (ap : Nat) (wg : Int32) (rd : Nat) (sm : Int32) (bt : Int32) (up : Int64) (lw : Int64) (ii : Int32) (kd : Nat → Int32) (dy : Nat → Int32) (nd : Nat → Int32) (co : Nat → Int32) (od : Nat → Int32) (wo : Nat → Int32) (tp : Nat → Int32) (rk : Nat → Int32) (ry : Nat → Int32) (rn : Nat → Int32) (vs : Nat → Int32) (bs : Nat → Int32) (ch : Nat → Int32) (tr : Nat → Int32) (en : Nat → Int32) (du : Nat → Int32) (ol : Nat → Int32) (ig : Nat → Int32) (ln : Nat → Int32) (sz : Nat → Int32) (it : Nat → Int64) (mo : Nat → Int64) (kind : Int32) (when0 : Int32) (need : Int32) (hn : n ≤ 12) (h0 : va_D (fun _ => True) (wM D o q1 q2 q3 q4 q5 q6 q7 q8 q9 q10 q11 q12 q13 q14 q15 q16 q17 q18 q19 q20 q21 q22 pe n la ri td ys ty ap wg rd sm bt up lw ii kd dy nd co od wo tp rk ry rn vs bs ch tr en du ol ig ln sz it mo)) : ct l yX7_deed cX7_deed 4 (some .int) 1 25 D [.ref o, .int kind, .int when0, .int need] (wM D o q1 q2 q3 q4 q5 q6 q7 q8 q9 q10 q11 q12 q13 q14 q15 q16 q17 q18 q19 q20 q21 q22 pe n la ri td ys ty ap wg rd sm bt up lw ii kd dy nd co od wo tp rk ry rn vs bs ch tr en du ol ig ln sz it mo) (wM D o q1 q2 q3 q4 q5 q6 q7 q8 q9 q10 q11 q12 q13 q14 q15 q16 q17 q18 q19 q20 q21 q22 pe (s_X7_deed n kd dy nd co od wo kind when0 need).2.1 la ri td ys ty ap wg rd sm bt up lw ii (s_X7_deed n kd dy nd co od wo kind when0 need).2.2.1 (s_X7_deed n kd dy nd co od wo kind when0 need).2.2.2.1 (s_X7_deed n kd dy nd co od wo kind when0 need).2.2.2.2.1 (s_X7_deed n kd dy nd co od wo kind when0 need).2.2.2.2.2.1 (s_X7_deed n kd dy nd co od wo kind when0 need).2.2.2.2.2.2.1 (s_X7_deed n kd dy nd co od wo kind when0 need).2.2.2.2.2.2.2 tp rk ry rn vs bs ch tr en du ol ig ln sz it mo) (Ad (wM D o q1 q2 q3 q4 q5 q6 q7 q8 q9 q10 q11 q12 q13 q14 q15 q16 q17 q18 q19 q20 q21 q22 pe n la ri td ys ty ap wg rd sm bt up lw ii kd dy nd co od wo tp rk ry rn vs bs ch tr en du ol ig ln sz it mo)) (some (Value.int (s_X7_deed n kd dy nd co od wo kind when0 need).1)) := by
  obtain ⟨V, hv⟩ : ∃ V, s_X7_deed n kd dy nd co od wo kind when0 need = V := ⟨_, rfl⟩
  rw [hv]
  refine ct_intro (own := RX7) (lv := [(0, .ref o), (1, .int kind), (2, .int when0), (3, .int need)]) (by decide) rfl (Nat.le_of_ble_eq_true rfl) rfl ?_
  intro p_ e_ s_ m_ below_ meth_ c_ C
  have hv : (if s_X7_in kind.toInt64 (0 : Int64) (3 : Int64) = (0 : Int32) then ((-1 : Int32), n, kd, dy, nd, co, od, wo) else (if s_X7_in when0.toInt64 (0 : Int64) (11 : Int64) = (0 : Int32) then ((-1 : Int32), n, kd, dy, nd, co, od, wo) else (if need &&& ((s_X7_ahead dy n when0) ^^^ (-1 : Int32)) = (0 : Int32) then (if nI n = (12 : Int32) then ((-3 : Int32), n, kd, dy, nd, co, od, wo) else ((nI ((s_X7_adds n kd dy nd co od wo kind when0 need).1)) - (1 : Int32), (s_X7_adds n kd dy nd co od wo kind when0 need).1, (s_X7_adds n kd dy nd co od wo kind when0 need).2.1, (s_X7_adds n kd dy nd co od wo kind when0 need).2.2.1, (s_X7_adds n kd dy nd co od wo kind when0 need).2.2.2.1, (s_X7_adds n kd dy nd co od wo kind when0 need).2.2.2.2.1, (s_X7_adds n kd dy nd co od wo kind when0 need).2.2.2.2.2.1, (s_X7_adds n kd dy nd co od wo kind when0 need).2.2.2.2.2.2)) else ((-1 : Int32), n, kd, dy, nd, co, od, wo)))) = V := hv
  refine r_iln C dX7_deed_0 rfl 1 rfl ?_
  refine r_i2l C dX7_deed_1 ?_
  refine r_lc C (v := (0 : Int64)) dX7_deed_2 (by decide) ?_
  refine r_ldc2 C wc_X7_93 dX7_deed_3 ?_
  refine aft_rd (st' := [.int (s_X7_in kind.toInt64 (0 : Int64) (3 : Int64))]) (run_S (rest := []) C (c_X7_in l D kind.toInt64 (0 : Int64) (3 : Int64) ) ok_X7_in ws_X7_in wm_X7_87 [] rfl ⟨Nat.le_of_ble_eq_true rfl, Nat.le_of_ble_eq_true rfl⟩ rfl rfl (Nat.le_of_ble_eq_true rfl) dX7_deed_6) rfl ?_
  refine r_ifeq C (tgt := 43) dX7_deed_9 (by decide) (fun c1 => ?_) (fun c1 => ?_)
  · rw [if_pos c1] at hv
    refine r_ic C (v := (-1 : Int32)) dX7_deed_43 (by decide) ?_
    exact r_iret rfl C (by rw [← hv]) (by rw [← hv]) dX7_deed_44
  · rw [if_neg c1] at hv
    refine r_iln C dX7_deed_12 rfl 2 rfl ?_
    refine r_i2l C dX7_deed_13 ?_
    refine r_lc C (v := (0 : Int64)) dX7_deed_14 (by decide) ?_
    refine r_ldc2 C wc_X7_95 dX7_deed_15 ?_
    refine aft_rd (st' := [.int (s_X7_in when0.toInt64 (0 : Int64) (11 : Int64))]) (run_S (rest := []) C (c_X7_in l D when0.toInt64 (0 : Int64) (11 : Int64) ) ok_X7_in ws_X7_in wm_X7_87 [] rfl ⟨Nat.le_of_ble_eq_true rfl, Nat.le_of_ble_eq_true rfl⟩ rfl rfl (Nat.le_of_ble_eq_true rfl) dX7_deed_18) rfl ?_
    refine r_ifeq C (tgt := 43) dX7_deed_21 (by decide) (fun c2 => ?_) (fun c2 => ?_)
    · rw [if_pos c2] at hv
      refine r_ic C (v := (-1 : Int32)) dX7_deed_43 (by decide) ?_
      exact r_iret rfl C (by rw [← hv]) (by rw [← hv]) dX7_deed_44
    · rw [if_neg c2] at hv
      refine r_iln C dX7_deed_24 rfl 3 rfl ?_
      refine r_aln C dX7_deed_25 rfl 0 rfl ?_
      refine gf_X7_84 C 0 rfl rfl dX7_deed_26 ?_
      refine r_iln C dX7_deed_29 rfl 2 rfl ?_
      refine r_aln C dX7_deed_30 rfl 0 rfl ?_
      refine gf_X7_13 C 0 rfl rfl dX7_deed_31 ?_
      refine aft_rd (st' := [.int (s_X7_ahead dy n when0), .int need]) (run_S (rest := [.int need]) C (c_X7_ahead l D q2 dy n when0 (by omega)) ok_X7_ahead ws_X7_ahead wm_X7_97 [2] rfl ⟨Nat.le_of_ble_eq_true rfl, Nat.le_of_ble_eq_true rfl⟩ rfl rfl (Nat.le_of_ble_eq_true rfl) dX7_deed_34) rfl ?_
      refine r_ic C (v := (-1 : Int32)) dX7_deed_37 (by decide) ?_
      refine r_ixor C dX7_deed_38 ?_
      refine r_iand C dX7_deed_39 ?_
      refine r_ifeq C (tgt := 45) dX7_deed_40 (by decide) (fun c3 => ?_) (fun c3 => ?_)
      · rw [if_pos c3] at hv
        refine r_aln C dX7_deed_45 rfl 0 rfl ?_
        refine gf_X7_84 C 0 rfl rfl dX7_deed_46 ?_
        refine r_bp C (v := (12 : Int32)) dX7_deed_49 (by decide) ?_
        refine r_icne C (tgt := 57) dX7_deed_51 (by decide) (fun c4 => ?_) (fun c4 => ?_)
        · rw [if_neg c4] at hv
          have fc4 : ¬ (n = 12) := fun z => c4 ((nv_eq (a := n) (b := 12) rfl rfl (by omega) (by omega)).mpr z)
          refine r_aln C dX7_deed_57 rfl 0 rfl ?_
          refine r_iln C dX7_deed_58 rfl 1 rfl ?_
          refine r_iln C dX7_deed_59 rfl 2 rfl ?_
          refine r_iln C dX7_deed_60 rfl 3 rfl ?_
          refine aft_wa (ws2 := wM D o q1 q2 q3 q4 q5 q6 q7 q8 q9 q10 q11 q12 q13 q14 q15 q16 q17 q18 q19 q20 q21 q22 pe ((s_X7_adds n kd dy nd co od wo kind when0 need).1) la ri td ys ty ap wg rd sm bt up lw ii ((s_X7_adds n kd dy nd co od wo kind when0 need).2.1) ((s_X7_adds n kd dy nd co od wo kind when0 need).2.2.1) ((s_X7_adds n kd dy nd co od wo kind when0 need).2.2.2.1) ((s_X7_adds n kd dy nd co od wo kind when0 need).2.2.2.2.1) ((s_X7_adds n kd dy nd co od wo kind when0 need).2.2.2.2.2.1) ((s_X7_adds n kd dy nd co od wo kind when0 need).2.2.2.2.2.2) tp rk ry rn vs bs ch tr en du ol ig ln sz it mo) (st' := []) h0 rfl rfl (run_V (rest := []) C (c_X7_adds l D o q1 q2 q3 q4 q5 q6 q7 q8 q9 q10 q11 q12 q13 q14 q15 q16 q17 q18 q19 q20 q21 q22 pe n la ri td ys ty ap wg rd sm bt up lw ii kd dy nd co od wo tp rk ry rn vs bs ch tr en du ol ig ln sz it mo kind when0 need (by omega) (dis_all h0 rfl)) ok_X7_adds wn_X7_adds wl_X7_adds wm_X7_101 _ 0 rfl rfl rfl ⟨Nat.le_of_ble_eq_true rfl, Nat.le_of_ble_eq_true rfl⟩ fm_all rfl (Nat.le_of_ble_eq_true rfl) dX7_deed_61) rfl rfl ?_
          refine r_aln C dX7_deed_64 rfl 0 rfl ?_
          refine gf_X7_84 C 0 rfl rfl dX7_deed_65 ?_
          refine r_ic C (v := (1 : Int32)) dX7_deed_68 (by decide) ?_
          refine r_isub C dX7_deed_69 ?_
          exact r_iret rfl C (by rw [← hv]) (by rw [← hv]) dX7_deed_70
        · rw [if_pos c4] at hv
          have fc4 : n = 12 := (nv_eq (a := n) (b := 12) rfl rfl (by omega) (by omega)).mp c4
          refine r_bp C (v := (-3 : Int32)) dX7_deed_54 (by decide) ?_
          exact r_iret rfl C (by rw [← hv]) (by rw [← hv]) dX7_deed_56
      · rw [if_neg c3] at hv
        refine r_ic C (v := (-1 : Int32)) dX7_deed_43 (by decide) ?_
        exact r_iret rfl C (by rw [← hv]) (by rw [← hv]) dX7_deed_44

