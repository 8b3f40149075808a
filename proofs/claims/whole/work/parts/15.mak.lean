def s_X7_expects_m219_0 (all_7 : Int64) : Int64 := (if lg_cmp all_7 (0 : Int64) < (0 : Int32) then (-all_7) else all_7)
def s_X7_expects_L224  : Nat → Int64 → Int64 → Int64 × Int64
  | 0, x_12, y_13 => (x_12, y_13)
  | k10 + 1, x_12, y_13 => (if (0 : Int32) < lg_cmp x_12 (0 : Int64) then (s_X7_expects_L224  k10 (y_13 - y_13 / x_12 * x_12) x_12) else (x_12, y_13))
def s_X7_expects_m76_0 (d6 : Nat) (d23 : Nat) : Nat := (if ((nI d6) >>> ((nI d23) &&& 31)) &&& (1 : Int32) = (1 : Int32) then 1 else 0)
def s_X7_expects_m143_0 (la : Int32) (kd : Nat → Int32) (nd : Nat → Int32) (od : Nat → Int32) (d6 : Nat) (d23 : Nat) : Int64 := (if s_X7_is kd nd d23 ((nI d6) &&& (((1 : Int32) <<< ((nI d23) &&& 31)) - (1 : Int32))) la = (0 : Int32) then (if nI (s_X7_expects_m76_0 d6 d23) = (0 : Int32) then (4 : Int64) else (0 : Int64)) else (if nI (s_X7_expects_m76_0 d6 d23) = (0 : Int32) then (((4 : Int32) - (od d23)).toInt64) else ((od d23).toInt64)))
def s_X7_expects_L149 (wo : Nat → Int32) (d6 : Nat) (d23 : Nat) : Nat → Nat → Int32 → Int32
  | 0, _, has_35 => has_35
  | k33 + 1, d34, has_35 => (if nI (s_X7_expects_m76_0 d6 d23) = (0 : Int32) then has_35 else (s_X7_expects_L149 wo d6 d23 k33 (d34 + 1) (has_35 + (wo ((4 * d23) + d34)))))
def s_X7_expects_L51 (pe : Nat) (la : Int32) (kd : Nat → Int32) (nd : Nat → Int32) (od : Nat → Int32) (wo : Nat → Int32) (d6 : Nat) : Nat → Nat → Int64 → Int32 → Int64 × Int32
  | 0, _, part_24, has_25 => (part_24, has_25)
  | k22 + 1, d23, part_24, has_25 => (s_X7_expects_L51 pe la kd nd od wo d6 k22 (d23 + 1) (part_24 * (s_X7_expects_m143_0 la kd nd od d6 d23)) (s_X7_expects_L149 wo d6 d23 pe 0 has_25))
def s_X7_expects_L31 (pe : Nat) (n : Nat) (la : Int32) (kd : Nat → Int32) (nd : Nat → Int32) (od : Nat → Int32) (wo : Nat → Int32) : Nat → Nat → Int64 → Int64
  | 0, _, all_7 => all_7
  | k5 + 1, d6, all_7 => (s_X7_expects_L31 pe n la kd nd od wo k5 (d6 + 1) (all_7 + (((s_X7_expects_L51 pe la kd nd od wo d6 n 0 (1 : Int64) (0 : Int32)).1) * ((s_X7_expects_L51 pe la kd nd od wo d6 n 0 (1 : Int64) (0 : Int32)).2).toInt64)))
def s_X7_expects_L7  : Nat → Nat → Int64 → Int64
  | 0, _, of_3 => of_3
  | k1 + 1, d2, of_3 => (s_X7_expects_L7  k1 (d2 + 1) (of_3 * (4 : Int64)))
def s_X7_expects (pe : Nat) (n : Nat) (la : Int32) (kd : Nat → Int32) (nd : Nat → Int32) (od : Nat → Int32) (wo : Nat → Int32) : Int64 × Int64 := ((s_X7_expects_L31 pe n la kd nd od wo (2 ^ n) 0 (0 : Int64)) / ((s_X7_expects_L224  ((s_X7_expects_m219_0 (s_X7_expects_L31 pe n la kd nd od wo (2 ^ n) 0 (0 : Int64))).toNatClampNeg) (s_X7_expects_m219_0 (s_X7_expects_L31 pe n la kd nd od wo (2 ^ n) 0 (0 : Int64))) (s_X7_expects_L7  n 0 (1 : Int64))).2), (s_X7_expects_L7  n 0 (1 : Int64)) / ((s_X7_expects_L224  ((s_X7_expects_m219_0 (s_X7_expects_L31 pe n la kd nd od wo (2 ^ n) 0 (0 : Int64))).toNatClampNeg) (s_X7_expects_m219_0 (s_X7_expects_L31 pe n la kd nd od wo (2 ^ n) 0 (0 : Int64))) (s_X7_expects_L7  n 0 (1 : Int64))).2))
set_option maxHeartbeats 8000000 in
set_option maxRecDepth 100000 in
theorem c_X7_expects (l : Launch) (D : va_G) (o : Nat) (q1 : Nat) (q2 : Nat) (q3 : Nat) (q4 : Nat) (q5 : Nat) (q6 : Nat) (q7 : Nat) (q8 : Nat) (q9 : Nat) (q10 : Nat) (q11 : Nat) (q12 : Nat) (q13 : Nat) (q14 : Nat) (q15 : Nat) (q16 : Nat) (q17 : Nat) (q18 : Nat) (q19 : Nat) (q20 : Nat) (q21 : Nat) (q22 : Nat) (pe : Nat) (n : Nat) (la : Int32) (ri : Int32) (td : Int32) (ys : Int32) (ty : Nat) (ap : Nat) (wg : Int32) (rd : Nat) (sm : Int32) (bt : Int32) (up : Int64) (lw : Int64) (ii : Int32) (kd : Nat → Int32) (dy : Nat → Int32) (nd : Nat → Int32) (co : Nat → Int32) (od : Nat → Int32) (wo : Nat → Int32) (tp : Nat → Int32) (rk : Nat → Int32) (ry : Nat → Int32) (rn : Nat → Int32) (vs : Nat → Int32) (bs : Nat → Int32) (ch : Nat → Int32) (tr : Nat → Int32) (en : Nat → Int32) (du : Nat → Int32) (ol : Nat → Int32) (ig : Nat → Int32) (ln : Nat → Int32) (sz : Nat → Int32) (it : Nat → Int64) (mo : Nat → Int64) (hn : n ≤ 12) (hp : 1 ≤ pe ∧ pe ≤ 4) (h0 : va_D (fun _ => True) (wM D o q1 q2 q3 q4 q5 q6 q7 q8 q9 q10 q11 q12 q13 q14 q15 q16 q17 q18 q19 q20 q21 q22 pe n la ri td ys ty ap wg rd sm bt up lw ii kd dy nd co od wo tp rk ry rn vs bs ch tr en du ol ig ln sz it mo)) : ct l yX7_expects cX7_expects 12 none 1 24 D [.ref o] (wM D o q1 q2 q3 q4 q5 q6 q7 q8 q9 q10 q11 q12 q13 q14 q15 q16 q17 q18 q19 q20 q21 q22 pe n la ri td ys ty ap wg rd sm bt up lw ii kd dy nd co od wo tp rk ry rn vs bs ch tr en du ol ig ln sz it mo) (wM D o q1 q2 q3 q4 q5 q6 q7 q8 q9 q10 q11 q12 q13 q14 q15 q16 q17 q18 q19 q20 q21 q22 pe n la ri td ys ty ap wg rd sm bt (s_X7_expects pe n la kd nd od wo).1 (s_X7_expects pe n la kd nd od wo).2 ii kd dy nd co od wo tp rk ry rn vs bs ch tr en du ol ig ln sz it mo) (Ad (wM D o q1 q2 q3 q4 q5 q6 q7 q8 q9 q10 q11 q12 q13 q14 q15 q16 q17 q18 q19 q20 q21 q22 pe n la ri td ys ty ap wg rd sm bt up lw ii kd dy nd co od wo tp rk ry rn vs bs ch tr en du ol ig ln sz it mo)) (none) := by
  obtain ⟨V, hv⟩ : ∃ V, s_X7_expects pe n la kd nd od wo = V := ⟨_, rfl⟩
  rw [hv]
  refine ct_intro (own := RX7) (lv := [(0, .ref o)]) (by decide) rfl (Nat.le_of_ble_eq_true rfl) rfl ?_
  intro p_ e_ s_ m_ below_ meth_ c_ C
  have hv : ((s_X7_expects_L31 pe n la kd nd od wo (2 ^ n) 0 (0 : Int64)) / ((s_X7_expects_L224  ((s_X7_expects_m219_0 (s_X7_expects_L31 pe n la kd nd od wo (2 ^ n) 0 (0 : Int64))).toNatClampNeg) (s_X7_expects_m219_0 (s_X7_expects_L31 pe n la kd nd od wo (2 ^ n) 0 (0 : Int64))) (s_X7_expects_L7  n 0 (1 : Int64))).2), (s_X7_expects_L7  n 0 (1 : Int64)) / ((s_X7_expects_L224  ((s_X7_expects_m219_0 (s_X7_expects_L31 pe n la kd nd od wo (2 ^ n) 0 (0 : Int64))).toNatClampNeg) (s_X7_expects_m219_0 (s_X7_expects_L31 pe n la kd nd od wo (2 ^ n) 0 (0 : Int64))) (s_X7_expects_L7  n 0 (1 : Int64))).2)) = V := hv
  refine r_lc C (v := (0 : Int64)) dX7_expects_0 (by decide) ?_
  refine r_lsn C (lv' := [(1, .long (0 : Int64)), (0, .ref o)]) dX7_expects_1 rfl (by decide) rfl ?_
  refine r_lc C (v := (1 : Int64)) dX7_expects_2 (by decide) ?_
  refine r_lsn C (lv' := [(3, .long (1 : Int64)), (1, .long (0 : Int64)), (0, .ref o)]) dX7_expects_3 rfl (by decide) rfl ?_
  refine r_ic C (v := (0 : Int32)) dX7_expects_4 (by decide) ?_
  refine r_is C (lv' := [(5, .int (0 : Int32)), (3, .long (1 : Int64)), (1, .long (0 : Int64)), (0, .ref o)]) dX7_expects_5 (by decide) rfl ?_
  have L48 : ∀ (k1 : Nat) (d2 : Nat) (of_3 : Int64), (d2 + k1 = n) → (of_3 = lN (4 ^ d2) ∧ d2 ≤ 12) → ((s_X7_expects_L31 pe n la kd nd od wo (2 ^ n) 0 (0 : Int64)) / ((s_X7_expects_L224  ((s_X7_expects_m219_0 (s_X7_expects_L31 pe n la kd nd od wo (2 ^ n) 0 (0 : Int64))).toNatClampNeg) (s_X7_expects_m219_0 (s_X7_expects_L31 pe n la kd nd od wo (2 ^ n) 0 (0 : Int64))) (s_X7_expects_L7  k1 d2 of_3)).2), (s_X7_expects_L7  k1 d2 of_3) / ((s_X7_expects_L224  ((s_X7_expects_m219_0 (s_X7_expects_L31 pe n la kd nd od wo (2 ^ n) 0 (0 : Int64))).toNatClampNeg) (s_X7_expects_m219_0 (s_X7_expects_L31 pe n la kd nd od wo (2 ^ n) 0 (0 : Int64))) (s_X7_expects_L7  k1 d2 of_3)).2)) = V → GM p_ l e_ s_ m_ below_ meth_ c_ D 1 24 12 [.ref o] (wM D o q1 q2 q3 q4 q5 q6 q7 q8 q9 q10 q11 q12 q13 q14 q15 q16 q17 q18 q19 q20 q21 q22 pe n la ri td ys ty ap wg rd sm bt V.1 V.2 ii kd dy nd co od wo tp rk ry rn vs bs ch tr en du ol ig ln sz it mo) (Ad (wM D o q1 q2 q3 q4 q5 q6 q7 q8 q9 q10 q11 q12 q13 q14 q15 q16 q17 q18 q19 q20 q21 q22 pe n la ri td ys ty ap wg rd sm bt up lw ii kd dy nd co od wo tp rk ry rn vs bs ch tr en du ol ig ln sz it mo)) (none) (wM D o q1 q2 q3 q4 q5 q6 q7 q8 q9 q10 q11 q12 q13 q14 q15 q16 q17 q18 q19 q20 q21 q22 pe n la ri td ys ty ap wg rd sm bt up lw ii kd dy nd co od wo tp rk ry rn vs bs ch tr en du ol ig ln sz it mo) 7 [(5, .int (nI d2)), (3, .long of_3), (1, .long (0 : Int64)), (0, .ref o)] [] := by
    intro k1
    induction k1 with
    | zero =>
      intro d2 of_3 hk ho hv
      have hv : ((s_X7_expects_L31 pe n la kd nd od wo (2 ^ n) 0 (0 : Int64)) / ((s_X7_expects_L224  ((s_X7_expects_m219_0 (s_X7_expects_L31 pe n la kd nd od wo (2 ^ n) 0 (0 : Int64))).toNatClampNeg) (s_X7_expects_m219_0 (s_X7_expects_L31 pe n la kd nd od wo (2 ^ n) 0 (0 : Int64))) of_3).2), of_3 / ((s_X7_expects_L224  ((s_X7_expects_m219_0 (s_X7_expects_L31 pe n la kd nd od wo (2 ^ n) 0 (0 : Int64))).toNatClampNeg) (s_X7_expects_m219_0 (s_X7_expects_L31 pe n la kd nd od wo (2 ^ n) 0 (0 : Int64))) of_3).2)) = V := hv
      refine r_il C dX7_expects_7 0 rfl ?_
      refine r_aln C dX7_expects_9 rfl 3 rfl ?_
      refine gf_X7_84 C 0 rfl rfl dX7_expects_10 ?_
      refine r_icge C (tgt := 28) dX7_expects_13 (by decide) (fun c4 => ?_) (fun c4 => ?_)
      · skip
        have hpn := pw_le hn
        refine r_ic C (v := (0 : Int32)) dX7_expects_28 (by decide) ?_
        refine r_is C (lv' := [(5, .int (0 : Int32)), (3, .long of_3), (1, .long (0 : Int64)), (0, .ref o)]) dX7_expects_29 (by decide) rfl ?_
        have L45 : ∀ (k5 : Nat) (d6 : Nat) (all_7 : Int64), (d6 + k5 = 2 ^ n) → ((s_X7_expects_L31 pe n la kd nd od wo k5 d6 all_7) / ((s_X7_expects_L224  ((s_X7_expects_m219_0 (s_X7_expects_L31 pe n la kd nd od wo k5 d6 all_7)).toNatClampNeg) (s_X7_expects_m219_0 (s_X7_expects_L31 pe n la kd nd od wo k5 d6 all_7)) of_3).2), of_3 / ((s_X7_expects_L224  ((s_X7_expects_m219_0 (s_X7_expects_L31 pe n la kd nd od wo k5 d6 all_7)).toNatClampNeg) (s_X7_expects_m219_0 (s_X7_expects_L31 pe n la kd nd od wo k5 d6 all_7)) of_3).2)) = V → GM p_ l e_ s_ m_ below_ meth_ c_ D 1 24 12 [.ref o] (wM D o q1 q2 q3 q4 q5 q6 q7 q8 q9 q10 q11 q12 q13 q14 q15 q16 q17 q18 q19 q20 q21 q22 pe n la ri td ys ty ap wg rd sm bt V.1 V.2 ii kd dy nd co od wo tp rk ry rn vs bs ch tr en du ol ig ln sz it mo) (Ad (wM D o q1 q2 q3 q4 q5 q6 q7 q8 q9 q10 q11 q12 q13 q14 q15 q16 q17 q18 q19 q20 q21 q22 pe n la ri td ys ty ap wg rd sm bt up lw ii kd dy nd co od wo tp rk ry rn vs bs ch tr en du ol ig ln sz it mo)) (none) (wM D o q1 q2 q3 q4 q5 q6 q7 q8 q9 q10 q11 q12 q13 q14 q15 q16 q17 q18 q19 q20 q21 q22 pe n la ri td ys ty ap wg rd sm bt up lw ii kd dy nd co od wo tp rk ry rn vs bs ch tr en du ol ig ln sz it mo) 31 [(5, .int (nI d6)), (3, .long of_3), (1, .long all_7), (0, .ref o)] [] := by
          intro k5
          induction k5 with
          | zero =>
            intro d6 all_7 hk hv
            have hv : (all_7 / ((s_X7_expects_L224  ((s_X7_expects_m219_0 all_7).toNatClampNeg) (s_X7_expects_m219_0 all_7) of_3).2), of_3 / ((s_X7_expects_L224  ((s_X7_expects_m219_0 all_7).toNatClampNeg) (s_X7_expects_m219_0 all_7) of_3).2)) = V := hv
            refine r_il C dX7_expects_31 0 rfl ?_
            refine r_ic C (v := (1 : Int32)) dX7_expects_33 (by decide) ?_
            refine r_aln C dX7_expects_34 rfl 3 rfl ?_
            refine gf_X7_84 C 0 rfl rfl dX7_expects_35 ?_
            refine r_ishl C dX7_expects_38 ?_
            refine r_top (sh1 n (by omega)) ?_
            refine r_icge C (tgt := 207) dX7_expects_39 (by decide) (fun c8 => ?_) (fun c8 => ?_)
            · skip
              refine r_lln C dX7_expects_207 rfl 2 rfl ?_
              refine r_lc C (v := (0 : Int64)) dX7_expects_208 (by decide) ?_
              refine r_lcmp C dX7_expects_209 ?_
              have J19 : GM p_ l e_ s_ m_ below_ meth_ c_ D 1 24 12 [.ref o] (wM D o q1 q2 q3 q4 q5 q6 q7 q8 q9 q10 q11 q12 q13 q14 q15 q16 q17 q18 q19 q20 q21 q22 pe n la ri td ys ty ap wg rd sm bt V.1 V.2 ii kd dy nd co od wo tp rk ry rn vs bs ch tr en du ol ig ln sz it mo) (Ad (wM D o q1 q2 q3 q4 q5 q6 q7 q8 q9 q10 q11 q12 q13 q14 q15 q16 q17 q18 q19 q20 q21 q22 pe n la ri td ys ty ap wg rd sm bt up lw ii kd dy nd co od wo tp rk ry rn vs bs ch tr en du ol ig ln sz it mo)) (none) (wM D o q1 q2 q3 q4 q5 q6 q7 q8 q9 q10 q11 q12 q13 q14 q15 q16 q17 q18 q19 q20 q21 q22 pe n la ri td ys ty ap wg rd sm bt up lw ii kd dy nd co od wo tp rk ry rn vs bs ch tr en du ol ig ln sz it mo) 219 [(5, .int (nI d6)), (3, .long of_3), (1, .long all_7), (0, .ref o)] [.long (s_X7_expects_m219_0 all_7)] := by
                refine r_ls C (lv' := [(5, .long (s_X7_expects_m219_0 all_7)), (3, .long of_3), (1, .long all_7), (0, .ref o)]) dX7_expects_219 (by decide) rfl ?_
                refine r_lln C dX7_expects_221 rfl 1 rfl ?_
                refine r_ls C (lv' := [(7, .long of_3), (5, .long (s_X7_expects_m219_0 all_7)), (3, .long of_3), (1, .long all_7), (0, .ref o)]) dX7_expects_222 (by decide) rfl ?_
                have X14 : ∀ (x_12 : Int64) (y_13 : Int64), ((0 : Int64) < y_13) → (all_7 / y_13, of_3 / y_13) = V → GM p_ l e_ s_ m_ below_ meth_ c_ D 1 24 12 [.ref o] (wM D o q1 q2 q3 q4 q5 q6 q7 q8 q9 q10 q11 q12 q13 q14 q15 q16 q17 q18 q19 q20 q21 q22 pe n la ri td ys ty ap wg rd sm bt V.1 V.2 ii kd dy nd co od wo tp rk ry rn vs bs ch tr en du ol ig ln sz it mo) (Ad (wM D o q1 q2 q3 q4 q5 q6 q7 q8 q9 q10 q11 q12 q13 q14 q15 q16 q17 q18 q19 q20 q21 q22 pe n la ri td ys ty ap wg rd sm bt up lw ii kd dy nd co od wo tp rk ry rn vs bs ch tr en du ol ig ln sz it mo)) (none) (wM D o q1 q2 q3 q4 q5 q6 q7 q8 q9 q10 q11 q12 q13 q14 q15 q16 q17 q18 q19 q20 q21 q22 pe n la ri td ys ty ap wg rd sm bt up lw ii kd dy nd co od wo tp rk ry rn vs bs ch tr en du ol ig ln sz it mo) 249 [(7, .long y_13), (5, .long x_12), (3, .long of_3), (1, .long all_7), (0, .ref o)] [] := by
                  intro x_12 y_13 hyx hv
                  refine r_aln C dX7_expects_249 rfl 4 rfl ?_
                  refine r_lln C dX7_expects_250 rfl 3 rfl ?_
                  refine r_ll C dX7_expects_251 0 rfl ?_
                  refine r_ldiv C dX7_expects_253 (i64_pos_ne hyx) ?_
                  refine pf_X7_207 C (ws2 := wM D o q1 q2 q3 q4 q5 q6 q7 q8 q9 q10 q11 q12 q13 q14 q15 q16 q17 q18 q19 q20 q21 q22 pe n la ri td ys ty ap wg rd sm bt (all_7 / y_13) lw ii kd dy nd co od wo tp rk ry rn vs bs ch tr en du ol ig ln sz it mo) h0 rfl 0 rfl (Nat.le_of_ble_eq_true rfl) dX7_expects_254 rfl rfl ?_
                  refine r_aln C dX7_expects_257 rfl 4 rfl ?_
                  refine r_lln C dX7_expects_258 rfl 2 rfl ?_
                  refine r_ll C dX7_expects_259 0 rfl ?_
                  refine r_ldiv C dX7_expects_261 (i64_pos_ne hyx) ?_
                  refine pf_X7_211 C (ws2 := wM D o q1 q2 q3 q4 q5 q6 q7 q8 q9 q10 q11 q12 q13 q14 q15 q16 q17 q18 q19 q20 q21 q22 pe n la ri td ys ty ap wg rd sm bt (all_7 / y_13) (of_3 / y_13) ii kd dy nd co od wo tp rk ry rn vs bs ch tr en du ol ig ln sz it mo) h0 rfl 0 rfl (Nat.le_of_ble_eq_true rfl) dX7_expects_262 rfl rfl ?_
                  exact r_vret rfl C (by rw [← hv]) dX7_expects_265
                have L18 : ∀ (k10 : Nat) (x_12 : Int64) (y_13 : Int64), (x_12.toNatClampNeg ≤ k10) → ((0 : Int64) < y_13) → (all_7 / ((s_X7_expects_L224  k10 x_12 y_13).2), of_3 / ((s_X7_expects_L224  k10 x_12 y_13).2)) = V → GM p_ l e_ s_ m_ below_ meth_ c_ D 1 24 12 [.ref o] (wM D o q1 q2 q3 q4 q5 q6 q7 q8 q9 q10 q11 q12 q13 q14 q15 q16 q17 q18 q19 q20 q21 q22 pe n la ri td ys ty ap wg rd sm bt V.1 V.2 ii kd dy nd co od wo tp rk ry rn vs bs ch tr en du ol ig ln sz it mo) (Ad (wM D o q1 q2 q3 q4 q5 q6 q7 q8 q9 q10 q11 q12 q13 q14 q15 q16 q17 q18 q19 q20 q21 q22 pe n la ri td ys ty ap wg rd sm bt up lw ii kd dy nd co od wo tp rk ry rn vs bs ch tr en du ol ig ln sz it mo)) (none) (wM D o q1 q2 q3 q4 q5 q6 q7 q8 q9 q10 q11 q12 q13 q14 q15 q16 q17 q18 q19 q20 q21 q22 pe n la ri td ys ty ap wg rd sm bt up lw ii kd dy nd co od wo tp rk ry rn vs bs ch tr en du ol ig ln sz it mo) 224 [(7, .long y_13), (5, .long x_12), (3, .long of_3), (1, .long all_7), (0, .ref o)] [] := by
                  intro k10
                  induction k10 with
                  | zero =>
                    intro x_12 y_13 hk hy hv
                    have hv : (all_7 / y_13, of_3 / y_13) = V := hv
                    refine r_ll C dX7_expects_224 1 rfl ?_
                    refine r_lc C (v := (0 : Int64)) dX7_expects_226 (by decide) ?_
                    refine r_lcmp C dX7_expects_227 ?_
                    refine r_ifle C (tgt := 249) dX7_expects_228 (by decide) (fun c15 => ?_) (fun c15 => ?_)
                    · skip
                      exact X14 x_12 y_13 hy hv
                    · exact absurd c15 (gcd_z hk)
                  | succ k10 ih16 =>
                    intro x_12 y_13 hk hy hv
                    have hv : (all_7 / ((if (0 : Int32) < lg_cmp x_12 (0 : Int64) then (s_X7_expects_L224  k10 (y_13 - y_13 / x_12 * x_12) x_12) else (x_12, y_13)).2), of_3 / ((if (0 : Int32) < lg_cmp x_12 (0 : Int64) then (s_X7_expects_L224  k10 (y_13 - y_13 / x_12 * x_12) x_12) else (x_12, y_13)).2)) = V := hv
                    refine r_ll C dX7_expects_224 1 rfl ?_
                    refine r_lc C (v := (0 : Int64)) dX7_expects_226 (by decide) ?_
                    refine r_lcmp C dX7_expects_227 ?_
                    refine r_ifle C (tgt := 249) dX7_expects_228 (by decide) (fun c17 => ?_) (fun c17 => ?_)
                    · rw [if_neg c17] at hv
                      exact X14 x_12 y_13 hy hv
                    · rw [if_pos c17] at hv
                      refine r_ll C dX7_expects_231 0 rfl ?_
                      refine r_ll C dX7_expects_233 1 rfl ?_
                      refine r_lrem C dX7_expects_235 (gcd_ne (by assumption)) ?_
                      refine r_ls C (lv' := [(9, .long (y_13 - y_13 / x_12 * x_12)), (7, .long y_13), (5, .long x_12), (3, .long of_3), (1, .long all_7), (0, .ref o)]) dX7_expects_236 (by decide) rfl ?_
                      refine r_ll C dX7_expects_238 2 rfl ?_
                      refine r_ls C (lv' := [(7, .long x_12), (9, .long (y_13 - y_13 / x_12 * x_12)), (5, .long x_12), (3, .long of_3), (1, .long all_7), (0, .ref o)]) dX7_expects_240 (by decide) rfl ?_
                      refine r_ll C dX7_expects_242 1 rfl ?_
                      refine r_ls C (lv' := [(5, .long (y_13 - y_13 / x_12 * x_12)), (7, .long x_12), (9, .long (y_13 - y_13 / x_12 * x_12)), (3, .long of_3), (1, .long all_7), (0, .ref o)]) dX7_expects_244 (by decide) rfl ?_
                      refine r_goto C (tgt := 224) dX7_expects_246 (by decide) ?_
                      refine r_lv [1, 0, 3, 4, 5] rfl ?_
                      exact ih16 (y_13 - y_13 / x_12 * x_12) x_12 (gcd_s (by assumption) hy hk) ((lcmp_gt _ _).mp (by assumption)) hv
                exact L18 ((s_X7_expects_m219_0 all_7).toNatClampNeg) (s_X7_expects_m219_0 all_7) of_3 (Nat.le_refl _) (four_pos ho) hv
              refine r_ifge C (tgt := 218) dX7_expects_210 (by decide) (fun c9 => ?_) (fun c9 => ?_)
              · skip
                refine r_lln C dX7_expects_218 rfl 2 rfl ?_
                refine r_lv [0, 1, 2, 3] rfl ?_
                exact (by have z := J19; rw [show (s_X7_expects_m219_0 all_7) = all_7 from (by unfold s_X7_expects_m219_0; first | rfl | ((try rw [if_neg (show ¬ (lg_cmp all_7 (0 : Int64) < (0 : Int32)) from by assumption)]); (try rfl); done) | (simp only [if_pos, if_neg, *, not_false_eq_true, ite_true, ite_false, if_true, if_false]; done) | (simp [*]; done))] at z; exact z)
              · skip
                refine r_lln C dX7_expects_213 rfl 2 rfl ?_
                refine r_lneg C dX7_expects_214 ?_
                refine r_goto C (tgt := 219) dX7_expects_215 (by decide) ?_
                refine r_lv [0, 1, 2, 3] rfl ?_
                exact (by have z := J19; rw [show (s_X7_expects_m219_0 all_7) = -all_7 from (by unfold s_X7_expects_m219_0; first | rfl | ((try rw [if_pos (show lg_cmp all_7 (0 : Int64) < (0 : Int32) from by assumption)]); (try rfl); done) | (simp only [if_pos, if_neg, *, not_false_eq_true, ite_true, ite_false, if_true, if_false]; done) | (simp [*]; done))] at z; exact z)
            · exact absurd c8 (fun z => absurd ((nv_lt (a := d6) (b := 2 ^ n) rfl rfl (by omega) (by omega)).mp z) (by omega))
          | succ k5 ih20 =>
            intro d6 all_7 hk hv
            have hv : ((s_X7_expects_L31 pe n la kd nd od wo k5 (d6 + 1) (all_7 + (((s_X7_expects_L51 pe la kd nd od wo d6 n 0 (1 : Int64) (0 : Int32)).1) * ((s_X7_expects_L51 pe la kd nd od wo d6 n 0 (1 : Int64) (0 : Int32)).2).toInt64))) / ((s_X7_expects_L224  ((s_X7_expects_m219_0 (s_X7_expects_L31 pe n la kd nd od wo k5 (d6 + 1) (all_7 + (((s_X7_expects_L51 pe la kd nd od wo d6 n 0 (1 : Int64) (0 : Int32)).1) * ((s_X7_expects_L51 pe la kd nd od wo d6 n 0 (1 : Int64) (0 : Int32)).2).toInt64)))).toNatClampNeg) (s_X7_expects_m219_0 (s_X7_expects_L31 pe n la kd nd od wo k5 (d6 + 1) (all_7 + (((s_X7_expects_L51 pe la kd nd od wo d6 n 0 (1 : Int64) (0 : Int32)).1) * ((s_X7_expects_L51 pe la kd nd od wo d6 n 0 (1 : Int64) (0 : Int32)).2).toInt64)))) of_3).2), of_3 / ((s_X7_expects_L224  ((s_X7_expects_m219_0 (s_X7_expects_L31 pe n la kd nd od wo k5 (d6 + 1) (all_7 + (((s_X7_expects_L51 pe la kd nd od wo d6 n 0 (1 : Int64) (0 : Int32)).1) * ((s_X7_expects_L51 pe la kd nd od wo d6 n 0 (1 : Int64) (0 : Int32)).2).toInt64)))).toNatClampNeg) (s_X7_expects_m219_0 (s_X7_expects_L31 pe n la kd nd od wo k5 (d6 + 1) (all_7 + (((s_X7_expects_L51 pe la kd nd od wo d6 n 0 (1 : Int64) (0 : Int32)).1) * ((s_X7_expects_L51 pe la kd nd od wo d6 n 0 (1 : Int64) (0 : Int32)).2).toInt64)))) of_3).2)) = V := hv
            refine r_il C dX7_expects_31 0 rfl ?_
            refine r_ic C (v := (1 : Int32)) dX7_expects_33 (by decide) ?_
            refine r_aln C dX7_expects_34 rfl 3 rfl ?_
            refine gf_X7_84 C 0 rfl rfl dX7_expects_35 ?_
            refine r_ishl C dX7_expects_38 ?_
            refine r_top (sh1 n (by omega)) ?_
            refine r_icge C (tgt := 207) dX7_expects_39 (by decide) (fun c21 => ?_) (fun c21 => ?_)
            · exact absurd ((nv_lt (a := d6) (b := 2 ^ n) rfl rfl (by omega) (by omega)).mpr (by omega)) c21
            · skip
              refine r_lc C (v := (1 : Int64)) dX7_expects_42 (by decide) ?_
              refine r_ls C (lv' := [(6, .long (1 : Int64)), (5, .int (nI d6)), (3, .long of_3), (1, .long all_7), (0, .ref o)]) dX7_expects_43 (by decide) rfl ?_
              refine r_ic C (v := (0 : Int32)) dX7_expects_45 (by decide) ?_
              refine r_is C (lv' := [(8, .int (0 : Int32)), (6, .long (1 : Int64)), (5, .int (nI d6)), (3, .long of_3), (1, .long all_7), (0, .ref o)]) dX7_expects_46 (by decide) rfl ?_
              refine r_ic C (v := (0 : Int32)) dX7_expects_48 (by decide) ?_
              refine r_is C (lv' := [(9, .int (0 : Int32)), (8, .int (0 : Int32)), (6, .long (1 : Int64)), (5, .int (nI d6)), (3, .long of_3), (1, .long all_7), (0, .ref o)]) dX7_expects_49 (by decide) rfl ?_
              have L44 : ∀ (k22 : Nat) (d23 : Nat) (part_24 : Int64) (has_25 : Int32), (d23 + k22 = n) → ((s_X7_expects_L31 pe n la kd nd od wo k5 (d6 + 1) (all_7 + (((s_X7_expects_L51 pe la kd nd od wo d6 k22 d23 part_24 has_25).1) * ((s_X7_expects_L51 pe la kd nd od wo d6 k22 d23 part_24 has_25).2).toInt64))) / ((s_X7_expects_L224  ((s_X7_expects_m219_0 (s_X7_expects_L31 pe n la kd nd od wo k5 (d6 + 1) (all_7 + (((s_X7_expects_L51 pe la kd nd od wo d6 k22 d23 part_24 has_25).1) * ((s_X7_expects_L51 pe la kd nd od wo d6 k22 d23 part_24 has_25).2).toInt64)))).toNatClampNeg) (s_X7_expects_m219_0 (s_X7_expects_L31 pe n la kd nd od wo k5 (d6 + 1) (all_7 + (((s_X7_expects_L51 pe la kd nd od wo d6 k22 d23 part_24 has_25).1) * ((s_X7_expects_L51 pe la kd nd od wo d6 k22 d23 part_24 has_25).2).toInt64)))) of_3).2), of_3 / ((s_X7_expects_L224  ((s_X7_expects_m219_0 (s_X7_expects_L31 pe n la kd nd od wo k5 (d6 + 1) (all_7 + (((s_X7_expects_L51 pe la kd nd od wo d6 k22 d23 part_24 has_25).1) * ((s_X7_expects_L51 pe la kd nd od wo d6 k22 d23 part_24 has_25).2).toInt64)))).toNatClampNeg) (s_X7_expects_m219_0 (s_X7_expects_L31 pe n la kd nd od wo k5 (d6 + 1) (all_7 + (((s_X7_expects_L51 pe la kd nd od wo d6 k22 d23 part_24 has_25).1) * ((s_X7_expects_L51 pe la kd nd od wo d6 k22 d23 part_24 has_25).2).toInt64)))) of_3).2)) = V → GM p_ l e_ s_ m_ below_ meth_ c_ D 1 24 12 [.ref o] (wM D o q1 q2 q3 q4 q5 q6 q7 q8 q9 q10 q11 q12 q13 q14 q15 q16 q17 q18 q19 q20 q21 q22 pe n la ri td ys ty ap wg rd sm bt V.1 V.2 ii kd dy nd co od wo tp rk ry rn vs bs ch tr en du ol ig ln sz it mo) (Ad (wM D o q1 q2 q3 q4 q5 q6 q7 q8 q9 q10 q11 q12 q13 q14 q15 q16 q17 q18 q19 q20 q21 q22 pe n la ri td ys ty ap wg rd sm bt up lw ii kd dy nd co od wo tp rk ry rn vs bs ch tr en du ol ig ln sz it mo)) (none) (wM D o q1 q2 q3 q4 q5 q6 q7 q8 q9 q10 q11 q12 q13 q14 q15 q16 q17 q18 q19 q20 q21 q22 pe n la ri td ys ty ap wg rd sm bt up lw ii kd dy nd co od wo tp rk ry rn vs bs ch tr en du ol ig ln sz it mo) 51 [(9, .int (nI d23)), (8, .int has_25), (6, .long part_24), (5, .int (nI d6)), (3, .long of_3), (1, .long all_7), (0, .ref o)] [] := by
                intro k22
                induction k22 with
                | zero =>
                  intro d23 part_24 has_25 hk hv
                  have hv : ((s_X7_expects_L31 pe n la kd nd od wo k5 (d6 + 1) (all_7 + (part_24 * has_25.toInt64))) / ((s_X7_expects_L224  ((s_X7_expects_m219_0 (s_X7_expects_L31 pe n la kd nd od wo k5 (d6 + 1) (all_7 + (part_24 * has_25.toInt64)))).toNatClampNeg) (s_X7_expects_m219_0 (s_X7_expects_L31 pe n la kd nd od wo k5 (d6 + 1) (all_7 + (part_24 * has_25.toInt64)))) of_3).2), of_3 / ((s_X7_expects_L224  ((s_X7_expects_m219_0 (s_X7_expects_L31 pe n la kd nd od wo k5 (d6 + 1) (all_7 + (part_24 * has_25.toInt64)))).toNatClampNeg) (s_X7_expects_m219_0 (s_X7_expects_L31 pe n la kd nd od wo k5 (d6 + 1) (all_7 + (part_24 * has_25.toInt64)))) of_3).2)) = V := hv
                  refine r_il C dX7_expects_51 0 rfl ?_
                  refine r_aln C dX7_expects_53 rfl 6 rfl ?_
                  refine gf_X7_84 C 0 rfl rfl dX7_expects_54 ?_
                  refine r_icge C (tgt := 192) dX7_expects_57 (by decide) (fun c26 => ?_) (fun c26 => ?_)
                  · skip
                    refine r_lln C dX7_expects_192 rfl 5 rfl ?_
                    refine r_ll C dX7_expects_193 2 rfl ?_
                    refine r_il C dX7_expects_195 1 rfl ?_
                    refine r_i2l C dX7_expects_197 ?_
                    refine r_lmul C dX7_expects_198 ?_
                    refine r_ladd C dX7_expects_199 ?_
                    refine r_lsn C (lv' := [(1, .long (all_7 + (part_24 * has_25.toInt64))), (9, .int (nI d23)), (8, .int has_25), (6, .long part_24), (5, .int (nI d6)), (3, .long of_3), (0, .ref o)]) dX7_expects_200 rfl (by decide) rfl ?_
                    refine r_inc C (v := nI (d6 + 1)) (lv' := [(5, .int (nI (d6 + 1))), (1, .long (all_7 + (part_24 * has_25.toInt64))), (9, .int (nI d23)), (8, .int has_25), (6, .long part_24), (3, .long of_3), (0, .ref o)]) dX7_expects_201 4 rfl (inc_nI d6) (by decide) rfl ?_
                    refine r_goto C (tgt := 31) dX7_expects_204 (by decide) ?_
                    refine r_lv [0, 5, 1, 6] rfl ?_
                    exact ih20 (d6 + 1) (all_7 + (part_24 * has_25.toInt64)) (by omega) hv
                  · exact absurd c26 (fun z => absurd ((nv_lt (a := d23) (b := n) rfl rfl (by omega) (by omega)).mp z) (by omega))
                | succ k22 ih27 =>
                  intro d23 part_24 has_25 hk hv
                  have hv : ((s_X7_expects_L31 pe n la kd nd od wo k5 (d6 + 1) (all_7 + (((s_X7_expects_L51 pe la kd nd od wo d6 k22 (d23 + 1) (part_24 * (s_X7_expects_m143_0 la kd nd od d6 d23)) (s_X7_expects_L149 wo d6 d23 pe 0 has_25)).1) * ((s_X7_expects_L51 pe la kd nd od wo d6 k22 (d23 + 1) (part_24 * (s_X7_expects_m143_0 la kd nd od d6 d23)) (s_X7_expects_L149 wo d6 d23 pe 0 has_25)).2).toInt64))) / ((s_X7_expects_L224  ((s_X7_expects_m219_0 (s_X7_expects_L31 pe n la kd nd od wo k5 (d6 + 1) (all_7 + (((s_X7_expects_L51 pe la kd nd od wo d6 k22 (d23 + 1) (part_24 * (s_X7_expects_m143_0 la kd nd od d6 d23)) (s_X7_expects_L149 wo d6 d23 pe 0 has_25)).1) * ((s_X7_expects_L51 pe la kd nd od wo d6 k22 (d23 + 1) (part_24 * (s_X7_expects_m143_0 la kd nd od d6 d23)) (s_X7_expects_L149 wo d6 d23 pe 0 has_25)).2).toInt64)))).toNatClampNeg) (s_X7_expects_m219_0 (s_X7_expects_L31 pe n la kd nd od wo k5 (d6 + 1) (all_7 + (((s_X7_expects_L51 pe la kd nd od wo d6 k22 (d23 + 1) (part_24 * (s_X7_expects_m143_0 la kd nd od d6 d23)) (s_X7_expects_L149 wo d6 d23 pe 0 has_25)).1) * ((s_X7_expects_L51 pe la kd nd od wo d6 k22 (d23 + 1) (part_24 * (s_X7_expects_m143_0 la kd nd od d6 d23)) (s_X7_expects_L149 wo d6 d23 pe 0 has_25)).2).toInt64)))) of_3).2), of_3 / ((s_X7_expects_L224  ((s_X7_expects_m219_0 (s_X7_expects_L31 pe n la kd nd od wo k5 (d6 + 1) (all_7 + (((s_X7_expects_L51 pe la kd nd od wo d6 k22 (d23 + 1) (part_24 * (s_X7_expects_m143_0 la kd nd od d6 d23)) (s_X7_expects_L149 wo d6 d23 pe 0 has_25)).1) * ((s_X7_expects_L51 pe la kd nd od wo d6 k22 (d23 + 1) (part_24 * (s_X7_expects_m143_0 la kd nd od d6 d23)) (s_X7_expects_L149 wo d6 d23 pe 0 has_25)).2).toInt64)))).toNatClampNeg) (s_X7_expects_m219_0 (s_X7_expects_L31 pe n la kd nd od wo k5 (d6 + 1) (all_7 + (((s_X7_expects_L51 pe la kd nd od wo d6 k22 (d23 + 1) (part_24 * (s_X7_expects_m143_0 la kd nd od d6 d23)) (s_X7_expects_L149 wo d6 d23 pe 0 has_25)).1) * ((s_X7_expects_L51 pe la kd nd od wo d6 k22 (d23 + 1) (part_24 * (s_X7_expects_m143_0 la kd nd od d6 d23)) (s_X7_expects_L149 wo d6 d23 pe 0 has_25)).2).toInt64)))) of_3).2)) = V := hv
                  refine r_il C dX7_expects_51 0 rfl ?_
                  refine r_aln C dX7_expects_53 rfl 6 rfl ?_
                  refine gf_X7_84 C 0 rfl rfl dX7_expects_54 ?_
                  refine r_icge C (tgt := 192) dX7_expects_57 (by decide) (fun c28 => ?_) (fun c28 => ?_)
                  · exact absurd ((nv_lt (a := d23) (b := n) rfl rfl (by omega) (by omega)).mpr (by omega)) c28
                  · skip
                    refine r_il C dX7_expects_60 3 rfl ?_
                    refine r_il C dX7_expects_62 0 rfl ?_
                    refine r_ishr C dX7_expects_64 ?_
                    refine r_ic C (v := (1 : Int32)) dX7_expects_65 (by decide) ?_
                    refine r_iand C dX7_expects_66 ?_
                    refine r_ic C (v := (1 : Int32)) dX7_expects_67 (by decide) ?_
                    have J43 : GM p_ l e_ s_ m_ below_ meth_ c_ D 1 24 12 [.ref o] (wM D o q1 q2 q3 q4 q5 q6 q7 q8 q9 q10 q11 q12 q13 q14 q15 q16 q17 q18 q19 q20 q21 q22 pe n la ri td ys ty ap wg rd sm bt V.1 V.2 ii kd dy nd co od wo tp rk ry rn vs bs ch tr en du ol ig ln sz it mo) (Ad (wM D o q1 q2 q3 q4 q5 q6 q7 q8 q9 q10 q11 q12 q13 q14 q15 q16 q17 q18 q19 q20 q21 q22 pe n la ri td ys ty ap wg rd sm bt up lw ii kd dy nd co od wo tp rk ry rn vs bs ch tr en du ol ig ln sz it mo)) (none) (wM D o q1 q2 q3 q4 q5 q6 q7 q8 q9 q10 q11 q12 q13 q14 q15 q16 q17 q18 q19 q20 q21 q22 pe n la ri td ys ty ap wg rd sm bt up lw ii kd dy nd co od wo tp rk ry rn vs bs ch tr en du ol ig ln sz it mo) 76 [(9, .int (nI d23)), (8, .int has_25), (6, .long part_24), (5, .int (nI d6)), (3, .long of_3), (1, .long all_7), (0, .ref o)] [.int (nI (s_X7_expects_m76_0 d6 d23))] := by
                      refine r_is C (lv' := [(10, .int (nI (s_X7_expects_m76_0 d6 d23))), (9, .int (nI d23)), (8, .int has_25), (6, .long part_24), (5, .int (nI d6)), (3, .long of_3), (1, .long all_7), (0, .ref o)]) dX7_expects_76 (by decide) rfl ?_
                      refine r_ll C dX7_expects_78 3 rfl ?_
                      refine r_aln C dX7_expects_80 rfl 7 rfl ?_
                      refine r_il C dX7_expects_81 1 rfl ?_
                      refine r_il C dX7_expects_83 4 rfl ?_
                      refine r_ic C (v := (1 : Int32)) dX7_expects_85 (by decide) ?_
                      refine r_il C dX7_expects_86 1 rfl ?_
                      refine r_ishl C dX7_expects_88 ?_
                      refine r_ic C (v := (1 : Int32)) dX7_expects_89 (by decide) ?_
                      refine r_isub C dX7_expects_90 ?_
                      refine r_iand C dX7_expects_91 ?_
                      refine r_aln C dX7_expects_92 rfl 7 rfl ?_
                      refine gf_X7_116 C 0 rfl rfl dX7_expects_93 ?_
                      refine aft_rd (st' := [.int (s_X7_is kd nd d23 ((nI d6) &&& (((1 : Int32) <<< ((nI d23) &&& 31)) - (1 : Int32))) la), .long part_24]) (run_V (rest := [.long part_24]) C (c_X7_is l D o q1 q2 q3 q4 q5 q6 q7 q8 q9 q10 q11 q12 q13 q14 q15 q16 q17 q18 q19 q20 q21 q22 pe n la ri td ys ty ap wg rd sm bt up lw ii kd dy nd co od wo tp rk ry rn vs bs ch tr en du ol ig ln sz it mo d23 ((nI d6) &&& (((1 : Int32) <<< ((nI d23) &&& 31)) - (1 : Int32))) la (by omega)) ok_X7_is wn_X7_is wl_X7_is wm_X7_105 _ 0 rfl rfl rfl ⟨Nat.le_of_ble_eq_true rfl, Nat.le_of_ble_eq_true rfl⟩ fm_all rfl (Nat.le_of_ble_eq_true rfl) dX7_expects_96) rfl ?_
                      have J42 : GM p_ l e_ s_ m_ below_ meth_ c_ D 1 24 12 [.ref o] (wM D o q1 q2 q3 q4 q5 q6 q7 q8 q9 q10 q11 q12 q13 q14 q15 q16 q17 q18 q19 q20 q21 q22 pe n la ri td ys ty ap wg rd sm bt V.1 V.2 ii kd dy nd co od wo tp rk ry rn vs bs ch tr en du ol ig ln sz it mo) (Ad (wM D o q1 q2 q3 q4 q5 q6 q7 q8 q9 q10 q11 q12 q13 q14 q15 q16 q17 q18 q19 q20 q21 q22 pe n la ri td ys ty ap wg rd sm bt up lw ii kd dy nd co od wo tp rk ry rn vs bs ch tr en du ol ig ln sz it mo)) (none) (wM D o q1 q2 q3 q4 q5 q6 q7 q8 q9 q10 q11 q12 q13 q14 q15 q16 q17 q18 q19 q20 q21 q22 pe n la ri td ys ty ap wg rd sm bt up lw ii kd dy nd co od wo tp rk ry rn vs bs ch tr en du ol ig ln sz it mo) 143 [(10, .int (nI (s_X7_expects_m76_0 d6 d23))), (9, .int (nI d23)), (8, .int has_25), (6, .long part_24), (5, .int (nI d6)), (3, .long of_3), (1, .long all_7), (0, .ref o)] [.long (s_X7_expects_m143_0 la kd nd od d6 d23), .long part_24] := by
                        refine r_lmul C dX7_expects_143 ?_
                        refine r_ls C (lv' := [(6, .long (part_24 * (s_X7_expects_m143_0 la kd nd od d6 d23))), (10, .int (nI (s_X7_expects_m76_0 d6 d23))), (9, .int (nI d23)), (8, .int has_25), (5, .int (nI d6)), (3, .long of_3), (1, .long all_7), (0, .ref o)]) dX7_expects_144 (by decide) rfl ?_
                        refine r_ic C (v := (0 : Int32)) dX7_expects_146 (by decide) ?_
                        refine r_is C (lv' := [(11, .int (0 : Int32)), (6, .long (part_24 * (s_X7_expects_m143_0 la kd nd od d6 d23))), (10, .int (nI (s_X7_expects_m76_0 d6 d23))), (9, .int (nI d23)), (8, .int has_25), (5, .int (nI d6)), (3, .long of_3), (1, .long all_7), (0, .ref o)]) dX7_expects_147 (by decide) rfl ?_
                        have X36 : ∀ (has_35 : Int32), ((s_X7_expects_L31 pe n la kd nd od wo k5 (d6 + 1) (all_7 + (((s_X7_expects_L51 pe la kd nd od wo d6 k22 (d23 + 1) (part_24 * (s_X7_expects_m143_0 la kd nd od d6 d23)) has_35).1) * ((s_X7_expects_L51 pe la kd nd od wo d6 k22 (d23 + 1) (part_24 * (s_X7_expects_m143_0 la kd nd od d6 d23)) has_35).2).toInt64))) / ((s_X7_expects_L224  ((s_X7_expects_m219_0 (s_X7_expects_L31 pe n la kd nd od wo k5 (d6 + 1) (all_7 + (((s_X7_expects_L51 pe la kd nd od wo d6 k22 (d23 + 1) (part_24 * (s_X7_expects_m143_0 la kd nd od d6 d23)) has_35).1) * ((s_X7_expects_L51 pe la kd nd od wo d6 k22 (d23 + 1) (part_24 * (s_X7_expects_m143_0 la kd nd od d6 d23)) has_35).2).toInt64)))).toNatClampNeg) (s_X7_expects_m219_0 (s_X7_expects_L31 pe n la kd nd od wo k5 (d6 + 1) (all_7 + (((s_X7_expects_L51 pe la kd nd od wo d6 k22 (d23 + 1) (part_24 * (s_X7_expects_m143_0 la kd nd od d6 d23)) has_35).1) * ((s_X7_expects_L51 pe la kd nd od wo d6 k22 (d23 + 1) (part_24 * (s_X7_expects_m143_0 la kd nd od d6 d23)) has_35).2).toInt64)))) of_3).2), of_3 / ((s_X7_expects_L224  ((s_X7_expects_m219_0 (s_X7_expects_L31 pe n la kd nd od wo k5 (d6 + 1) (all_7 + (((s_X7_expects_L51 pe la kd nd od wo d6 k22 (d23 + 1) (part_24 * (s_X7_expects_m143_0 la kd nd od d6 d23)) has_35).1) * ((s_X7_expects_L51 pe la kd nd od wo d6 k22 (d23 + 1) (part_24 * (s_X7_expects_m143_0 la kd nd od d6 d23)) has_35).2).toInt64)))).toNatClampNeg) (s_X7_expects_m219_0 (s_X7_expects_L31 pe n la kd nd od wo k5 (d6 + 1) (all_7 + (((s_X7_expects_L51 pe la kd nd od wo d6 k22 (d23 + 1) (part_24 * (s_X7_expects_m143_0 la kd nd od d6 d23)) has_35).1) * ((s_X7_expects_L51 pe la kd nd od wo d6 k22 (d23 + 1) (part_24 * (s_X7_expects_m143_0 la kd nd od d6 d23)) has_35).2).toInt64)))) of_3).2)) = V → GM p_ l e_ s_ m_ below_ meth_ c_ D 1 24 12 [.ref o] (wM D o q1 q2 q3 q4 q5 q6 q7 q8 q9 q10 q11 q12 q13 q14 q15 q16 q17 q18 q19 q20 q21 q22 pe n la ri td ys ty ap wg rd sm bt V.1 V.2 ii kd dy nd co od wo tp rk ry rn vs bs ch tr en du ol ig ln sz it mo) (Ad (wM D o q1 q2 q3 q4 q5 q6 q7 q8 q9 q10 q11 q12 q13 q14 q15 q16 q17 q18 q19 q20 q21 q22 pe n la ri td ys ty ap wg rd sm bt up lw ii kd dy nd co od wo tp rk ry rn vs bs ch tr en du ol ig ln sz it mo)) (none) (wM D o q1 q2 q3 q4 q5 q6 q7 q8 q9 q10 q11 q12 q13 q14 q15 q16 q17 q18 q19 q20 q21 q22 pe n la ri td ys ty ap wg rd sm bt up lw ii kd dy nd co od wo tp rk ry rn vs bs ch tr en du ol ig ln sz it mo) 186 [(6, .long (part_24 * (s_X7_expects_m143_0 la kd nd od d6 d23))), (10, .int (nI (s_X7_expects_m76_0 d6 d23))), (9, .int (nI d23)), (8, .int has_35), (5, .int (nI d6)), (3, .long of_3), (1, .long all_7), (0, .ref o)] [] := by
                          intro has_35 hv
                          refine r_inc C (v := nI (d23 + 1)) (lv' := [(9, .int (nI (d23 + 1))), (6, .long (part_24 * (s_X7_expects_m143_0 la kd nd od d6 d23))), (10, .int (nI (s_X7_expects_m76_0 d6 d23))), (8, .int has_35), (5, .int (nI d6)), (3, .long of_3), (1, .long all_7), (0, .ref o)]) dX7_expects_186 2 rfl (inc_nI d23) (by decide) rfl ?_
                          refine r_goto C (tgt := 51) dX7_expects_189 (by decide) ?_
                          refine r_lv [0, 3, 1, 4, 5, 6, 7] rfl ?_
                          exact ih27 (d23 + 1) (part_24 * (s_X7_expects_m143_0 la kd nd od d6 d23)) has_35 (by omega) hv
                        have L41 : ∀ (k33 : Nat) (d34 : Nat) (has_35 : Int32), (d34 + k33 = pe) → ((s_X7_expects_L31 pe n la kd nd od wo k5 (d6 + 1) (all_7 + (((s_X7_expects_L51 pe la kd nd od wo d6 k22 (d23 + 1) (part_24 * (s_X7_expects_m143_0 la kd nd od d6 d23)) (s_X7_expects_L149 wo d6 d23 k33 d34 has_35)).1) * ((s_X7_expects_L51 pe la kd nd od wo d6 k22 (d23 + 1) (part_24 * (s_X7_expects_m143_0 la kd nd od d6 d23)) (s_X7_expects_L149 wo d6 d23 k33 d34 has_35)).2).toInt64))) / ((s_X7_expects_L224  ((s_X7_expects_m219_0 (s_X7_expects_L31 pe n la kd nd od wo k5 (d6 + 1) (all_7 + (((s_X7_expects_L51 pe la kd nd od wo d6 k22 (d23 + 1) (part_24 * (s_X7_expects_m143_0 la kd nd od d6 d23)) (s_X7_expects_L149 wo d6 d23 k33 d34 has_35)).1) * ((s_X7_expects_L51 pe la kd nd od wo d6 k22 (d23 + 1) (part_24 * (s_X7_expects_m143_0 la kd nd od d6 d23)) (s_X7_expects_L149 wo d6 d23 k33 d34 has_35)).2).toInt64)))).toNatClampNeg) (s_X7_expects_m219_0 (s_X7_expects_L31 pe n la kd nd od wo k5 (d6 + 1) (all_7 + (((s_X7_expects_L51 pe la kd nd od wo d6 k22 (d23 + 1) (part_24 * (s_X7_expects_m143_0 la kd nd od d6 d23)) (s_X7_expects_L149 wo d6 d23 k33 d34 has_35)).1) * ((s_X7_expects_L51 pe la kd nd od wo d6 k22 (d23 + 1) (part_24 * (s_X7_expects_m143_0 la kd nd od d6 d23)) (s_X7_expects_L149 wo d6 d23 k33 d34 has_35)).2).toInt64)))) of_3).2), of_3 / ((s_X7_expects_L224  ((s_X7_expects_m219_0 (s_X7_expects_L31 pe n la kd nd od wo k5 (d6 + 1) (all_7 + (((s_X7_expects_L51 pe la kd nd od wo d6 k22 (d23 + 1) (part_24 * (s_X7_expects_m143_0 la kd nd od d6 d23)) (s_X7_expects_L149 wo d6 d23 k33 d34 has_35)).1) * ((s_X7_expects_L51 pe la kd nd od wo d6 k22 (d23 + 1) (part_24 * (s_X7_expects_m143_0 la kd nd od d6 d23)) (s_X7_expects_L149 wo d6 d23 k33 d34 has_35)).2).toInt64)))).toNatClampNeg) (s_X7_expects_m219_0 (s_X7_expects_L31 pe n la kd nd od wo k5 (d6 + 1) (all_7 + (((s_X7_expects_L51 pe la kd nd od wo d6 k22 (d23 + 1) (part_24 * (s_X7_expects_m143_0 la kd nd od d6 d23)) (s_X7_expects_L149 wo d6 d23 k33 d34 has_35)).1) * ((s_X7_expects_L51 pe la kd nd od wo d6 k22 (d23 + 1) (part_24 * (s_X7_expects_m143_0 la kd nd od d6 d23)) (s_X7_expects_L149 wo d6 d23 k33 d34 has_35)).2).toInt64)))) of_3).2)) = V → GM p_ l e_ s_ m_ below_ meth_ c_ D 1 24 12 [.ref o] (wM D o q1 q2 q3 q4 q5 q6 q7 q8 q9 q10 q11 q12 q13 q14 q15 q16 q17 q18 q19 q20 q21 q22 pe n la ri td ys ty ap wg rd sm bt V.1 V.2 ii kd dy nd co od wo tp rk ry rn vs bs ch tr en du ol ig ln sz it mo) (Ad (wM D o q1 q2 q3 q4 q5 q6 q7 q8 q9 q10 q11 q12 q13 q14 q15 q16 q17 q18 q19 q20 q21 q22 pe n la ri td ys ty ap wg rd sm bt up lw ii kd dy nd co od wo tp rk ry rn vs bs ch tr en du ol ig ln sz it mo)) (none) (wM D o q1 q2 q3 q4 q5 q6 q7 q8 q9 q10 q11 q12 q13 q14 q15 q16 q17 q18 q19 q20 q21 q22 pe n la ri td ys ty ap wg rd sm bt up lw ii kd dy nd co od wo tp rk ry rn vs bs ch tr en du ol ig ln sz it mo) 149 [(11, .int (nI d34)), (6, .long (part_24 * (s_X7_expects_m143_0 la kd nd od d6 d23))), (10, .int (nI (s_X7_expects_m76_0 d6 d23))), (9, .int (nI d23)), (8, .int has_35), (5, .int (nI d6)), (3, .long of_3), (1, .long all_7), (0, .ref o)] [] := by
                          intro k33
                          induction k33 with
                          | zero =>
                            intro d34 has_35 hk hv
                            have hv : ((s_X7_expects_L31 pe n la kd nd od wo k5 (d6 + 1) (all_7 + (((s_X7_expects_L51 pe la kd nd od wo d6 k22 (d23 + 1) (part_24 * (s_X7_expects_m143_0 la kd nd od d6 d23)) has_35).1) * ((s_X7_expects_L51 pe la kd nd od wo d6 k22 (d23 + 1) (part_24 * (s_X7_expects_m143_0 la kd nd od d6 d23)) has_35).2).toInt64))) / ((s_X7_expects_L224  ((s_X7_expects_m219_0 (s_X7_expects_L31 pe n la kd nd od wo k5 (d6 + 1) (all_7 + (((s_X7_expects_L51 pe la kd nd od wo d6 k22 (d23 + 1) (part_24 * (s_X7_expects_m143_0 la kd nd od d6 d23)) has_35).1) * ((s_X7_expects_L51 pe la kd nd od wo d6 k22 (d23 + 1) (part_24 * (s_X7_expects_m143_0 la kd nd od d6 d23)) has_35).2).toInt64)))).toNatClampNeg) (s_X7_expects_m219_0 (s_X7_expects_L31 pe n la kd nd od wo k5 (d6 + 1) (all_7 + (((s_X7_expects_L51 pe la kd nd od wo d6 k22 (d23 + 1) (part_24 * (s_X7_expects_m143_0 la kd nd od d6 d23)) has_35).1) * ((s_X7_expects_L51 pe la kd nd od wo d6 k22 (d23 + 1) (part_24 * (s_X7_expects_m143_0 la kd nd od d6 d23)) has_35).2).toInt64)))) of_3).2), of_3 / ((s_X7_expects_L224  ((s_X7_expects_m219_0 (s_X7_expects_L31 pe n la kd nd od wo k5 (d6 + 1) (all_7 + (((s_X7_expects_L51 pe la kd nd od wo d6 k22 (d23 + 1) (part_24 * (s_X7_expects_m143_0 la kd nd od d6 d23)) has_35).1) * ((s_X7_expects_L51 pe la kd nd od wo d6 k22 (d23 + 1) (part_24 * (s_X7_expects_m143_0 la kd nd od d6 d23)) has_35).2).toInt64)))).toNatClampNeg) (s_X7_expects_m219_0 (s_X7_expects_L31 pe n la kd nd od wo k5 (d6 + 1) (all_7 + (((s_X7_expects_L51 pe la kd nd od wo d6 k22 (d23 + 1) (part_24 * (s_X7_expects_m143_0 la kd nd od d6 d23)) has_35).1) * ((s_X7_expects_L51 pe la kd nd od wo d6 k22 (d23 + 1) (part_24 * (s_X7_expects_m143_0 la kd nd od d6 d23)) has_35).2).toInt64)))) of_3).2)) = V := hv
                            refine r_il C dX7_expects_149 0 rfl ?_
                            refine r_aln C dX7_expects_151 rfl 8 rfl ?_
                            refine gf_X7_77 C 0 rfl rfl dX7_expects_152 ?_
                            refine r_icge C (tgt := 186) dX7_expects_155 (by decide) (fun c37 => ?_) (fun c37 => ?_)
                            · skip
                              refine r_lv [1, 2, 3, 4, 5, 6, 7, 8] rfl ?_
                              exact X36 has_35 hv
                            · exact absurd c37 (fun z => absurd ((nv_lt (a := d34) (b := pe) rfl rfl (by omega) (by omega)).mp z) (by omega))
                          | succ k33 ih38 =>
                            intro d34 has_35 hk hv
                            have hv : ((s_X7_expects_L31 pe n la kd nd od wo k5 (d6 + 1) (all_7 + (((s_X7_expects_L51 pe la kd nd od wo d6 k22 (d23 + 1) (part_24 * (s_X7_expects_m143_0 la kd nd od d6 d23)) (if nI (s_X7_expects_m76_0 d6 d23) = (0 : Int32) then has_35 else (s_X7_expects_L149 wo d6 d23 k33 (d34 + 1) (has_35 + (wo ((4 * d23) + d34)))))).1) * ((s_X7_expects_L51 pe la kd nd od wo d6 k22 (d23 + 1) (part_24 * (s_X7_expects_m143_0 la kd nd od d6 d23)) (if nI (s_X7_expects_m76_0 d6 d23) = (0 : Int32) then has_35 else (s_X7_expects_L149 wo d6 d23 k33 (d34 + 1) (has_35 + (wo ((4 * d23) + d34)))))).2).toInt64))) / ((s_X7_expects_L224  ((s_X7_expects_m219_0 (s_X7_expects_L31 pe n la kd nd od wo k5 (d6 + 1) (all_7 + (((s_X7_expects_L51 pe la kd nd od wo d6 k22 (d23 + 1) (part_24 * (s_X7_expects_m143_0 la kd nd od d6 d23)) (if nI (s_X7_expects_m76_0 d6 d23) = (0 : Int32) then has_35 else (s_X7_expects_L149 wo d6 d23 k33 (d34 + 1) (has_35 + (wo ((4 * d23) + d34)))))).1) * ((s_X7_expects_L51 pe la kd nd od wo d6 k22 (d23 + 1) (part_24 * (s_X7_expects_m143_0 la kd nd od d6 d23)) (if nI (s_X7_expects_m76_0 d6 d23) = (0 : Int32) then has_35 else (s_X7_expects_L149 wo d6 d23 k33 (d34 + 1) (has_35 + (wo ((4 * d23) + d34)))))).2).toInt64)))).toNatClampNeg) (s_X7_expects_m219_0 (s_X7_expects_L31 pe n la kd nd od wo k5 (d6 + 1) (all_7 + (((s_X7_expects_L51 pe la kd nd od wo d6 k22 (d23 + 1) (part_24 * (s_X7_expects_m143_0 la kd nd od d6 d23)) (if nI (s_X7_expects_m76_0 d6 d23) = (0 : Int32) then has_35 else (s_X7_expects_L149 wo d6 d23 k33 (d34 + 1) (has_35 + (wo ((4 * d23) + d34)))))).1) * ((s_X7_expects_L51 pe la kd nd od wo d6 k22 (d23 + 1) (part_24 * (s_X7_expects_m143_0 la kd nd od d6 d23)) (if nI (s_X7_expects_m76_0 d6 d23) = (0 : Int32) then has_35 else (s_X7_expects_L149 wo d6 d23 k33 (d34 + 1) (has_35 + (wo ((4 * d23) + d34)))))).2).toInt64)))) of_3).2), of_3 / ((s_X7_expects_L224  ((s_X7_expects_m219_0 (s_X7_expects_L31 pe n la kd nd od wo k5 (d6 + 1) (all_7 + (((s_X7_expects_L51 pe la kd nd od wo d6 k22 (d23 + 1) (part_24 * (s_X7_expects_m143_0 la kd nd od d6 d23)) (if nI (s_X7_expects_m76_0 d6 d23) = (0 : Int32) then has_35 else (s_X7_expects_L149 wo d6 d23 k33 (d34 + 1) (has_35 + (wo ((4 * d23) + d34)))))).1) * ((s_X7_expects_L51 pe la kd nd od wo d6 k22 (d23 + 1) (part_24 * (s_X7_expects_m143_0 la kd nd od d6 d23)) (if nI (s_X7_expects_m76_0 d6 d23) = (0 : Int32) then has_35 else (s_X7_expects_L149 wo d6 d23 k33 (d34 + 1) (has_35 + (wo ((4 * d23) + d34)))))).2).toInt64)))).toNatClampNeg) (s_X7_expects_m219_0 (s_X7_expects_L31 pe n la kd nd od wo k5 (d6 + 1) (all_7 + (((s_X7_expects_L51 pe la kd nd od wo d6 k22 (d23 + 1) (part_24 * (s_X7_expects_m143_0 la kd nd od d6 d23)) (if nI (s_X7_expects_m76_0 d6 d23) = (0 : Int32) then has_35 else (s_X7_expects_L149 wo d6 d23 k33 (d34 + 1) (has_35 + (wo ((4 * d23) + d34)))))).1) * ((s_X7_expects_L51 pe la kd nd od wo d6 k22 (d23 + 1) (part_24 * (s_X7_expects_m143_0 la kd nd od d6 d23)) (if nI (s_X7_expects_m76_0 d6 d23) = (0 : Int32) then has_35 else (s_X7_expects_L149 wo d6 d23 k33 (d34 + 1) (has_35 + (wo ((4 * d23) + d34)))))).2).toInt64)))) of_3).2)) = V := hv
                            refine r_il C dX7_expects_149 0 rfl ?_
                            refine r_aln C dX7_expects_151 rfl 8 rfl ?_
                            refine gf_X7_77 C 0 rfl rfl dX7_expects_152 ?_
                            refine r_icge C (tgt := 186) dX7_expects_155 (by decide) (fun c39 => ?_) (fun c39 => ?_)
                            · exact absurd ((nv_lt (a := d34) (b := pe) rfl rfl (by omega) (by omega)).mpr (by omega)) c39
                            · skip
                              refine r_il C dX7_expects_158 2 rfl ?_
                              refine r_ifeq C (tgt := 186) dX7_expects_160 (by decide) (fun c40 => ?_) (fun c40 => ?_)
                              · rw [if_pos c40] at hv
                                refine r_lv [1, 2, 3, 4, 5, 6, 7, 8] rfl ?_
                                exact X36 has_35 hv
                              · rw [if_neg c40] at hv
                                refine r_il C dX7_expects_163 4 rfl ?_
                                refine r_aln C dX7_expects_165 rfl 8 rfl ?_
                                refine gf_X7_25 C 0 rfl rfl dX7_expects_166 ?_
                                refine r_ic C (v := (4 : Int32)) dX7_expects_169 (by decide) ?_
                                refine r_il C dX7_expects_170 3 rfl ?_
                                refine r_imul C dX7_expects_172 ?_
                                refine r_il C dX7_expects_173 0 rfl ?_
                                refine r_iadd C dX7_expects_175 ?_
                                refine r_iald C 6 ((4 * d23) + d34) rfl (nv_add (nv_mul rfl rfl) rfl) (by omega) (by decide) rfl dX7_expects_176 ?_
                                refine r_iadd C dX7_expects_177 ?_
                                refine r_is C (lv' := [(8, .int (has_35 + (wo ((4 * d23) + d34)))), (11, .int (nI d34)), (6, .long (part_24 * (s_X7_expects_m143_0 la kd nd od d6 d23))), (10, .int (nI (s_X7_expects_m76_0 d6 d23))), (9, .int (nI d23)), (5, .int (nI d6)), (3, .long of_3), (1, .long all_7), (0, .ref o)]) dX7_expects_178 (by decide) rfl ?_
                                refine r_inc C (v := nI (d34 + 1)) (lv' := [(11, .int (nI (d34 + 1))), (8, .int (has_35 + (wo ((4 * d23) + d34)))), (6, .long (part_24 * (s_X7_expects_m143_0 la kd nd od d6 d23))), (10, .int (nI (s_X7_expects_m76_0 d6 d23))), (9, .int (nI d23)), (5, .int (nI d6)), (3, .long of_3), (1, .long all_7), (0, .ref o)]) dX7_expects_180 1 rfl (inc_nI d34) (by decide) rfl ?_
                                refine r_goto C (tgt := 149) dX7_expects_183 (by decide) ?_
                                refine r_lv [0, 2, 3, 4, 1, 5, 6, 7, 8] rfl ?_
                                exact ih38 (d34 + 1) (has_35 + (wo ((4 * d23) + d34))) (by omega) hv
                        refine r_lve (lv2 := [(11, .int (nI 0)), (6, .long (part_24 * (s_X7_expects_m143_0 la kd nd od d6 d23))), (10, .int (nI (s_X7_expects_m76_0 d6 d23))), (9, .int (nI d23)), (8, .int has_25), (5, .int (nI d6)), (3, .long of_3), (1, .long all_7), (0, .ref o)]) (congrArg (fun (z : Int32) => ([(11, .int z), (6, .long (part_24 * (s_X7_expects_m143_0 la kd nd od d6 d23))), (10, .int (nI (s_X7_expects_m76_0 d6 d23))), (9, .int (nI d23)), (8, .int has_25), (5, .int (nI d6)), (3, .long of_3), (1, .long all_7), (0, .ref o)] : List (Nat × Value))) rfl) ?_
                        exact L41 pe 0 has_25 (by omega) hv
                      refine r_ifeq C (tgt := 131) dX7_expects_99 (by decide) (fun c30 => ?_) (fun c30 => ?_)
                      · skip
                        refine r_il C dX7_expects_131 0 rfl ?_
                        refine r_ifeq C (tgt := 140) dX7_expects_133 (by decide) (fun c31 => ?_) (fun c31 => ?_)
                        · skip
                          refine r_ldc2 C wc_X7_91 dX7_expects_140 ?_
                          refine r_lv [0, 1, 2, 3, 4, 5, 6, 7] rfl ?_
                          exact (by have z := J42; rw [show (s_X7_expects_m143_0 la kd nd od d6 d23) = (4 : Int64) from (by unfold s_X7_expects_m143_0; first | rfl | ((try rw [if_pos (show s_X7_is kd nd d23 ((nI d6) &&& (((1 : Int32) <<< ((nI d23) &&& 31)) - (1 : Int32))) la = (0 : Int32) from by assumption)]); (try rw [if_pos (show nI (s_X7_expects_m76_0 d6 d23) = (0 : Int32) from by assumption)]); (try rfl); done) | (simp only [if_pos, if_neg, *, not_false_eq_true, ite_true, ite_false, if_true, if_false]; done) | (simp [*]; done))] at z; exact z)
                        · skip
                          refine r_lc C (v := (0 : Int64)) dX7_expects_136 (by decide) ?_
                          refine r_goto C (tgt := 143) dX7_expects_137 (by decide) ?_
                          refine r_lv [0, 1, 2, 3, 4, 5, 6, 7] rfl ?_
                          exact (by have z := J42; rw [show (s_X7_expects_m143_0 la kd nd od d6 d23) = (0 : Int64) from (by unfold s_X7_expects_m143_0; first | rfl | ((try rw [if_pos (show s_X7_is kd nd d23 ((nI d6) &&& (((1 : Int32) <<< ((nI d23) &&& 31)) - (1 : Int32))) la = (0 : Int32) from by assumption)]); (try rw [if_neg (show ¬ (nI (s_X7_expects_m76_0 d6 d23) = (0 : Int32)) from by assumption)]); (try rfl); done) | (simp only [if_pos, if_neg, *, not_false_eq_true, ite_true, ite_false, if_true, if_false]; done) | (simp [*]; done))] at z; exact z)
                      · skip
                        refine r_il C dX7_expects_102 0 rfl ?_
                        refine r_ifeq C (tgt := 118) dX7_expects_104 (by decide) (fun c32 => ?_) (fun c32 => ?_)
                        · skip
                          refine r_ic C (v := (4 : Int32)) dX7_expects_118 (by decide) ?_
                          refine r_aln C dX7_expects_119 rfl 7 rfl ?_
                          refine gf_X7_22 C 0 rfl rfl dX7_expects_120 ?_
                          refine r_il C dX7_expects_123 1 rfl ?_
                          refine r_iald C 5 d23 rfl rfl (by omega) (by decide) rfl dX7_expects_125 ?_
                          refine r_isub C dX7_expects_126 ?_
                          refine r_i2l C dX7_expects_127 ?_
                          refine r_goto C (tgt := 143) dX7_expects_128 (by decide) ?_
                          refine r_lv [0, 1, 2, 3, 4, 5, 6, 7] rfl ?_
                          exact (by have z := J42; rw [show (s_X7_expects_m143_0 la kd nd od d6 d23) = ((4 : Int32) - (od d23)).toInt64 from (by unfold s_X7_expects_m143_0; first | rfl | ((try rw [if_neg (show ¬ (s_X7_is kd nd d23 ((nI d6) &&& (((1 : Int32) <<< ((nI d23) &&& 31)) - (1 : Int32))) la = (0 : Int32)) from by assumption)]); (try rw [if_pos (show nI (s_X7_expects_m76_0 d6 d23) = (0 : Int32) from by assumption)]); (try rfl); done) | (simp only [if_pos, if_neg, *, not_false_eq_true, ite_true, ite_false, if_true, if_false]; done) | (simp [*]; done))] at z; exact z)
                        · skip
                          refine r_aln C dX7_expects_107 rfl 7 rfl ?_
                          refine gf_X7_22 C 0 rfl rfl dX7_expects_108 ?_
                          refine r_il C dX7_expects_111 1 rfl ?_
                          refine r_iald C 5 d23 rfl rfl (by omega) (by decide) rfl dX7_expects_113 ?_
                          refine r_i2l C dX7_expects_114 ?_
                          refine r_goto C (tgt := 143) dX7_expects_115 (by decide) ?_
                          refine r_lv [0, 1, 2, 3, 4, 5, 6, 7] rfl ?_
                          exact (by have z := J42; rw [show (s_X7_expects_m143_0 la kd nd od d6 d23) = (od d23).toInt64 from (by unfold s_X7_expects_m143_0; first | rfl | ((try rw [if_neg (show ¬ (s_X7_is kd nd d23 ((nI d6) &&& (((1 : Int32) <<< ((nI d23) &&& 31)) - (1 : Int32))) la = (0 : Int32)) from by assumption)]); (try rw [if_neg (show ¬ (nI (s_X7_expects_m76_0 d6 d23) = (0 : Int32)) from by assumption)]); (try rfl); done) | (simp only [if_pos, if_neg, *, not_false_eq_true, ite_true, ite_false, if_true, if_false]; done) | (simp [*]; done))] at z; exact z)
                    refine r_icne C (tgt := 75) dX7_expects_68 (by decide) (fun c29 => ?_) (fun c29 => ?_)
                    · skip
                      refine r_ic C (v := (0 : Int32)) dX7_expects_75 (by decide) ?_
                      refine r_lv [0, 1, 2, 3, 4, 5, 6] rfl ?_
                      refine r_lve (lv2 := [(9, .int (nI d23)), (8, .int has_25), (6, .long part_24), (5, .int (nI d6)), (3, .long of_3), (1, .long all_7), (0, .ref o)]) rfl ?_
                      refine r_stk (st2 := [.int (nI 0)]) rfl ?_
                      exact (by have z := J43; rw [show (s_X7_expects_m76_0 d6 d23) = 0 from (by unfold s_X7_expects_m76_0; first | rfl | ((try rw [if_neg (show ¬ (((nI d6) >>> ((nI d23) &&& 31)) &&& (1 : Int32) = (1 : Int32)) from by assumption)]); (try rfl); done) | (simp only [if_pos, if_neg, *, not_false_eq_true, ite_true, ite_false, if_true, if_false]; done) | (simp [*]; done))] at z; exact z)
                    · skip
                      refine r_ic C (v := (1 : Int32)) dX7_expects_71 (by decide) ?_
                      refine r_goto C (tgt := 76) dX7_expects_72 (by decide) ?_
                      refine r_lv [0, 1, 2, 3, 4, 5, 6] rfl ?_
                      refine r_lve (lv2 := [(9, .int (nI d23)), (8, .int has_25), (6, .long part_24), (5, .int (nI d6)), (3, .long of_3), (1, .long all_7), (0, .ref o)]) rfl ?_
                      refine r_stk (st2 := [.int (nI 1)]) rfl ?_
                      exact (by have z := J43; rw [show (s_X7_expects_m76_0 d6 d23) = 1 from (by unfold s_X7_expects_m76_0; first | rfl | ((try rw [if_pos (show ((nI d6) >>> ((nI d23) &&& 31)) &&& (1 : Int32) = (1 : Int32) from by assumption)]); (try rfl); done) | (simp only [if_pos, if_neg, *, not_false_eq_true, ite_true, ite_false, if_true, if_false]; done) | (simp [*]; done))] at z; exact z)
              refine r_lve (lv2 := [(9, .int (nI 0)), (8, .int (0 : Int32)), (6, .long (1 : Int64)), (5, .int (nI d6)), (3, .long of_3), (1, .long all_7), (0, .ref o)]) (congrArg (fun (z : Int32) => ([(9, .int z), (8, .int (0 : Int32)), (6, .long (1 : Int64)), (5, .int (nI d6)), (3, .long of_3), (1, .long all_7), (0, .ref o)] : List (Nat × Value))) rfl) ?_
              exact L44 n 0 (1 : Int64) (0 : Int32) (by omega) hv
        refine r_lve (lv2 := [(5, .int (nI 0)), (3, .long of_3), (1, .long (0 : Int64)), (0, .ref o)]) (congrArg (fun (z : Int32) => ([(5, .int z), (3, .long of_3), (1, .long (0 : Int64)), (0, .ref o)] : List (Nat × Value))) rfl) ?_
        exact L45 (2 ^ n) 0 (0 : Int64) (by omega) hv
      · exact absurd c4 (fun z => absurd ((nv_lt (a := d2) (b := n) rfl rfl (by omega) (by omega)).mp z) (by omega))
    | succ k1 ih46 =>
      intro d2 of_3 hk ho hv
      have hv : ((s_X7_expects_L31 pe n la kd nd od wo (2 ^ n) 0 (0 : Int64)) / ((s_X7_expects_L224  ((s_X7_expects_m219_0 (s_X7_expects_L31 pe n la kd nd od wo (2 ^ n) 0 (0 : Int64))).toNatClampNeg) (s_X7_expects_m219_0 (s_X7_expects_L31 pe n la kd nd od wo (2 ^ n) 0 (0 : Int64))) (s_X7_expects_L7  k1 (d2 + 1) (of_3 * (4 : Int64)))).2), (s_X7_expects_L7  k1 (d2 + 1) (of_3 * (4 : Int64))) / ((s_X7_expects_L224  ((s_X7_expects_m219_0 (s_X7_expects_L31 pe n la kd nd od wo (2 ^ n) 0 (0 : Int64))).toNatClampNeg) (s_X7_expects_m219_0 (s_X7_expects_L31 pe n la kd nd od wo (2 ^ n) 0 (0 : Int64))) (s_X7_expects_L7  k1 (d2 + 1) (of_3 * (4 : Int64)))).2)) = V := hv
      refine r_il C dX7_expects_7 0 rfl ?_
      refine r_aln C dX7_expects_9 rfl 3 rfl ?_
      refine gf_X7_84 C 0 rfl rfl dX7_expects_10 ?_
      refine r_icge C (tgt := 28) dX7_expects_13 (by decide) (fun c47 => ?_) (fun c47 => ?_)
      · exact absurd ((nv_lt (a := d2) (b := n) rfl rfl (by omega) (by omega)).mpr (by omega)) c47
      · skip
        refine r_lln C dX7_expects_16 rfl 1 rfl ?_
        refine r_ldc2 C wc_X7_91 dX7_expects_17 ?_
        refine r_lmul C dX7_expects_20 ?_
        refine r_lsn C (lv' := [(3, .long (of_3 * (4 : Int64))), (5, .int (nI d2)), (1, .long (0 : Int64)), (0, .ref o)]) dX7_expects_21 rfl (by decide) rfl ?_
        refine r_inc C (v := nI (d2 + 1)) (lv' := [(5, .int (nI (d2 + 1))), (3, .long (of_3 * (4 : Int64))), (1, .long (0 : Int64)), (0, .ref o)]) dX7_expects_22 1 rfl (inc_nI d2) (by decide) rfl ?_
        refine r_goto C (tgt := 7) dX7_expects_25 (by decide) ?_
        exact ih46 (d2 + 1) (of_3 * (4 : Int64)) (by omega) ⟨by rw [ho.1, four_s], by omega⟩ hv
  refine r_lve (lv2 := [(5, .int (nI 0)), (3, .long (1 : Int64)), (1, .long (0 : Int64)), (0, .ref o)]) (congrArg (fun (z : Int32) => ([(5, .int z), (3, .long (1 : Int64)), (1, .long (0 : Int64)), (0, .ref o)] : List (Nat × Value))) rfl) ?_
  exact L48 n 0 (1 : Int64) (by omega) ⟨rfl, by omega⟩ hv

