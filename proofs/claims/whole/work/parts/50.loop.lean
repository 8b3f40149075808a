section LAWL
variable {p : Program} {l : Launch} {e : Env} {s : State} {m : MethodId} {below : List Frame} {meth : Method} {c : Code} {D : va_G} {A : Nat → Prop} {Q : State → Prop} {b0 L : Nat} {xs : Nat → Int32}
theorem and63 (x : Int32) : ∃ v : Nat, v < 64 ∧ x &&& (63 : Int32) = nI v := pk_andE x 6 (by decide)
theorem wk_L_7 : Cond.classLink RL 7 RX6 ∈ TBL := tbl_tab 12 (by decide +kernel) rfl
theorem wk_L_10 : Cond.classLink RL 10 RX7 ∈ TBL := tbl_tab 555 (by decide +kernel) rfl
set_option maxHeartbeats 8000000 in
set_option maxRecDepth 100000 in
theorem law_step {i : Nat} (C : Cx p s m #[Value.ref b0] meth c code RL 4 ret D) (b : Nat) (h : Nat) (a1 : Nat) (a2 : Nat) (a3 : Nat) (a4 : Nat) (a5 : Nat) (a6 : Nat) (k0 : Nat) (k1 : Nat) (k2 : Nat) (k3 : Nat) (k4 : Nat) (k5 : Nat) (k6 : Nat) (g0 : Nat) (g1 : Nat) (g2 : Nat) (g3 : Nat) (g4 : Nat) (g5 : Nat) (g6 : Nat) (t0 : Nat) (t1 : Nat) (s0 : Nat) (s1 : Nat) (s2 : Nat) (s3 : Nat) (u1 : Nat) (u2 : Nat) (u3 : Nat) (o : Nat) (q1 : Nat) (q2 : Nat) (q3 : Nat) (q4 : Nat) (q5 : Nat) (q6 : Nat) (q7 : Nat) (q8 : Nat) (q9 : Nat) (q10 : Nat) (q11 : Nat) (q12 : Nat) (q13 : Nat) (q14 : Nat) (q15 : Nat) (q16 : Nat) (q17 : Nat) (q18 : Nat) (q19 : Nat) (q20 : Nat) (q21 : Nat) (q22 : Nat) (hX : va_X b0 L xs s s.heap) (hbl : b0 < s.heap.size) (hbA : ¬ A b0) (hL : L ≤ 448) (h7 : i + 7 ≤ L) (ws : va_W) (hLI : LI D b h a1 a2 a3 a4 a5 a6 k0 k1 k2 k3 k4 k5 k6 g0 g1 g2 g3 g4 g5 g6 t0 t1 s0 s1 s2 s3 u1 u2 u3 o q1 q2 q3 q4 q5 q6 q7 q8 q9 q10 q11 q12 q13 q14 q15 q16 q17 q18 q19 q20 q21 q22 ws) (next : ∀ ws' : va_W, LI D b h a1 a2 a3 a4 a5 a6 k0 k1 k2 k3 k4 k5 k6 g0 g1 g2 g3 g4 g5 g6 t0 t1 s0 s1 s2 s3 u1 u2 u3 o q1 q2 q3 q4 q5 q6 q7 q8 q9 q10 q11 q12 q13 q14 q15 q16 q17 q18 q19 q20 q21 q22 ws' → GI p l e room_1 s m #[Value.ref b0] below meth c D s.heap A 4 Q 54 1176 ws' 1287 [(3, .int (nI i)), (2, .ref o), (1, .ref b), (0, .ref b0)] []) (v : Nat) (hv : v < 64) (x : Int32) (hv2 : x = nI v) : GI p l e room_1 s m #[Value.ref b0] below meth c D s.heap A 4 Q 54 1176 ws 33 [(3, .int (nI i)), (2, .ref o), (1, .ref b), (0, .ref b0)] [.int x] := by
    obtain ⟨pe, n, td, ys, la, ri, kd, dy, nd, co, od, wo, pek, nk, tdk, ysk, lak, rik, kdk, dyk, ndk, cok, odk, wok, peg, ng, tdg, ysg, lag, rig, kdg, dyg, ndg, cog, odg, wog, ty, aw, tk, le, ln, sz, it, be, tl, du, im, ap7, wg7, rd7, sm7, bt7, up7, lw7, ii7, kd7, dy7, nd7, co7, od7, wo7, tp7, rk7, ry7, rn7, vs7, bs7, ch7, tr7, en7, du7, ol7, ig7, ln7, sz7, it7, mo7, rfl, hN, hK, hT, hS⟩ := hLI
    by_cases v0 : v = 0
    · subst v0
      rw [hv2]
      refine i_tabIn C (off := 155) (tgt := 188) dL_law_33 (by decide) (by decide) (by decide) (by decide) ?_
      exact law_people C b h a1 a2 a3 a4 a5 a6 k0 k1 k2 k3 k4 k5 k6 g0 g1 g2 g3 g4 g5 g6 t0 t1 s0 s1 s2 s3 u1 u2 u3 o q1 q2 q3 q4 q5 q6 q7 q8 q9 q10 q11 q12 q13 q14 q15 q16 q17 q18 q19 q20 q21 q22 hX hbl hbA hL h7 pe n td ys la ri kd dy nd co od wo pek nk tdk ysk lak rik kdk dyk ndk cok odk wok peg ng tdg ysg lag rig kdg dyg ndg cog odg wog ty aw tk le ln sz it be tl du im ap7 wg7 rd7 sm7 bt7 up7 lw7 ii7 kd7 dy7 nd7 co7 od7 wo7 tp7 rk7 ry7 rn7 vs7 bs7 ch7 tr7 en7 du7 ol7 ig7 ln7 sz7 it7 mo7 hN hK hT hS next
    by_cases v1 : v = 1
    · subst v1
      rw [hv2]
      refine i_tabIn C (off := 178) (tgt := 211) dL_law_33 (by decide) (by decide) (by decide) (by decide) ?_
      exact law_deed C b h a1 a2 a3 a4 a5 a6 k0 k1 k2 k3 k4 k5 k6 g0 g1 g2 g3 g4 g5 g6 t0 t1 s0 s1 s2 s3 u1 u2 u3 o q1 q2 q3 q4 q5 q6 q7 q8 q9 q10 q11 q12 q13 q14 q15 q16 q17 q18 q19 q20 q21 q22 hX hbl hbA hL h7 pe n td ys la ri kd dy nd co od wo pek nk tdk ysk lak rik kdk dyk ndk cok odk wok peg ng tdg ysg lag rig kdg dyg ndg cog odg wog ty aw tk le ln sz it be tl du im ap7 wg7 rd7 sm7 bt7 up7 lw7 ii7 kd7 dy7 nd7 co7 od7 wo7 tp7 rk7 ry7 rn7 vs7 bs7 ch7 tr7 en7 du7 ol7 ig7 ln7 sz7 it7 mo7 hN hK hT hS next
    by_cases v2 : v = 2
    · subst v2
      rw [hv2]
      refine i_tabIn C (off := 221) (tgt := 254) dL_law_33 (by decide) (by decide) (by decide) (by decide) ?_
      exact law_told C b h a1 a2 a3 a4 a5 a6 k0 k1 k2 k3 k4 k5 k6 g0 g1 g2 g3 g4 g5 g6 t0 t1 s0 s1 s2 s3 u1 u2 u3 o q1 q2 q3 q4 q5 q6 q7 q8 q9 q10 q11 q12 q13 q14 q15 q16 q17 q18 q19 q20 q21 q22 hX hbl hbA hL h7 pe n td ys la ri kd dy nd co od wo pek nk tdk ysk lak rik kdk dyk ndk cok odk wok peg ng tdg ysg lag rig kdg dyg ndg cog odg wog ty aw tk le ln sz it be tl du im ap7 wg7 rd7 sm7 bt7 up7 lw7 ii7 kd7 dy7 nd7 co7 od7 wo7 tp7 rk7 ry7 rn7 vs7 bs7 ch7 tr7 en7 du7 ol7 ig7 ln7 sz7 it7 mo7 hN hK hT hS next
    by_cases v3 : v = 3
    · subst v3
      rw [hv2]
      refine i_tabIn C (off := 254) (tgt := 287) dL_law_33 (by decide) (by decide) (by decide) (by decide) ?_
      exact law_set C b h a1 a2 a3 a4 a5 a6 k0 k1 k2 k3 k4 k5 k6 g0 g1 g2 g3 g4 g5 g6 t0 t1 s0 s1 s2 s3 u1 u2 u3 o q1 q2 q3 q4 q5 q6 q7 q8 q9 q10 q11 q12 q13 q14 q15 q16 q17 q18 q19 q20 q21 q22 hX hbl hbA hL h7 pe n td ys la ri kd dy nd co od wo pek nk tdk ysk lak rik kdk dyk ndk cok odk wok peg ng tdg ysg lag rig kdg dyg ndg cog odg wog ty aw tk le ln sz it be tl du im ap7 wg7 rd7 sm7 bt7 up7 lw7 ii7 kd7 dy7 nd7 co7 od7 wo7 tp7 rk7 ry7 rn7 vs7 bs7 ch7 tr7 en7 du7 ol7 ig7 ln7 sz7 it7 mo7 hN hK hT hS next
    by_cases v4 : v = 4
    · subst v4
      rw [hv2]
      refine i_tabIn C (off := 297) (tgt := 330) dL_law_33 (by decide) (by decide) (by decide) (by decide) ?_
      exact law_worth C b h a1 a2 a3 a4 a5 a6 k0 k1 k2 k3 k4 k5 k6 g0 g1 g2 g3 g4 g5 g6 t0 t1 s0 s1 s2 s3 u1 u2 u3 o q1 q2 q3 q4 q5 q6 q7 q8 q9 q10 q11 q12 q13 q14 q15 q16 q17 q18 q19 q20 q21 q22 hX hbl hbA hL h7 pe n td ys la ri kd dy nd co od wo pek nk tdk ysk lak rik kdk dyk ndk cok odk wok peg ng tdg ysg lag rig kdg dyg ndg cog odg wog ty aw tk le ln sz it be tl du im ap7 wg7 rd7 sm7 bt7 up7 lw7 ii7 kd7 dy7 nd7 co7 od7 wo7 tp7 rk7 ry7 rn7 vs7 bs7 ch7 tr7 en7 du7 ol7 ig7 ln7 sz7 it7 mo7 hN hK hT hS next
    by_cases v5 : v = 5
    · subst v5
      rw [hv2]
      refine i_tabIn C (off := 340) (tgt := 373) dL_law_33 (by decide) (by decide) (by decide) (by decide) ?_
      exact law_worthOf C b h a1 a2 a3 a4 a5 a6 k0 k1 k2 k3 k4 k5 k6 g0 g1 g2 g3 g4 g5 g6 t0 t1 s0 s1 s2 s3 u1 u2 u3 o q1 q2 q3 q4 q5 q6 q7 q8 q9 q10 q11 q12 q13 q14 q15 q16 q17 q18 q19 q20 q21 q22 hX hbl hbA hL h7 pe n td ys la ri kd dy nd co od wo pek nk tdk ysk lak rik kdk dyk ndk cok odk wok peg ng tdg ysg lag rig kdg dyg ndg cog odg wog ty aw tk le ln sz it be tl du im ap7 wg7 rd7 sm7 bt7 up7 lw7 ii7 kd7 dy7 nd7 co7 od7 wo7 tp7 rk7 ry7 rn7 vs7 bs7 ch7 tr7 en7 du7 ol7 ig7 ln7 sz7 it7 mo7 hN hK hT hS next
    by_cases v6 : v = 6
    · subst v6
      rw [hv2]
      refine i_tabIn C (off := 373) (tgt := 406) dL_law_33 (by decide) (by decide) (by decide) (by decide) ?_
      exact law_last C b h a1 a2 a3 a4 a5 a6 k0 k1 k2 k3 k4 k5 k6 g0 g1 g2 g3 g4 g5 g6 t0 t1 s0 s1 s2 s3 u1 u2 u3 o q1 q2 q3 q4 q5 q6 q7 q8 q9 q10 q11 q12 q13 q14 q15 q16 q17 q18 q19 q20 q21 q22 hX hbl hbA hL h7 pe n td ys la ri kd dy nd co od wo pek nk tdk ysk lak rik kdk dyk ndk cok odk wok peg ng tdg ysg lag rig kdg dyg ndg cog odg wog ty aw tk le ln sz it be tl du im ap7 wg7 rd7 sm7 bt7 up7 lw7 ii7 kd7 dy7 nd7 co7 od7 wo7 tp7 rk7 ry7 rn7 vs7 bs7 ch7 tr7 en7 du7 ol7 ig7 ln7 sz7 it7 mo7 hN hK hT hS next
    by_cases v7 : v = 7
    · subst v7
      rw [hv2]
      refine i_tabIn C (off := 396) (tgt := 429) dL_law_33 (by decide) (by decide) (by decide) (by decide) ?_
      exact law_type C b h a1 a2 a3 a4 a5 a6 k0 k1 k2 k3 k4 k5 k6 g0 g1 g2 g3 g4 g5 g6 t0 t1 s0 s1 s2 s3 u1 u2 u3 o q1 q2 q3 q4 q5 q6 q7 q8 q9 q10 q11 q12 q13 q14 q15 q16 q17 q18 q19 q20 q21 q22 hX hbl hbA hL h7 pe n td ys la ri kd dy nd co od wo pek nk tdk ysk lak rik kdk dyk ndk cok odk wok peg ng tdg ysg lag rig kdg dyg ndg cog odg wog ty aw tk le ln sz it be tl du im ap7 wg7 rd7 sm7 bt7 up7 lw7 ii7 kd7 dy7 nd7 co7 od7 wo7 tp7 rk7 ry7 rn7 vs7 bs7 ch7 tr7 en7 du7 ol7 ig7 ln7 sz7 it7 mo7 hN hK hT hS next
    by_cases v8 : v = 8
    · subst v8
      rw [hv2]
      refine i_tabIn C (off := 419) (tgt := 452) dL_law_33 (by decide) (by decide) (by decide) (by decide) ?_
      exact law_text C b h a1 a2 a3 a4 a5 a6 k0 k1 k2 k3 k4 k5 k6 g0 g1 g2 g3 g4 g5 g6 t0 t1 s0 s1 s2 s3 u1 u2 u3 o q1 q2 q3 q4 q5 q6 q7 q8 q9 q10 q11 q12 q13 q14 q15 q16 q17 q18 q19 q20 q21 q22 hX hbl hbA hL h7 pe n td ys la ri kd dy nd co od wo pek nk tdk ysk lak rik kdk dyk ndk cok odk wok peg ng tdg ysg lag rig kdg dyg ndg cog odg wog ty aw tk le ln sz it be tl du im ap7 wg7 rd7 sm7 bt7 up7 lw7 ii7 kd7 dy7 nd7 co7 od7 wo7 tp7 rk7 ry7 rn7 vs7 bs7 ch7 tr7 en7 du7 ol7 ig7 ln7 sz7 it7 mo7 hN hK hT hS next
    by_cases v9 : v = 9
    · subst v9
      rw [hv2]
      refine i_tabIn C (off := 432) (tgt := 465) dL_law_33 (by decide) (by decide) (by decide) (by decide) ?_
      exact law_count C b h a1 a2 a3 a4 a5 a6 k0 k1 k2 k3 k4 k5 k6 g0 g1 g2 g3 g4 g5 g6 t0 t1 s0 s1 s2 s3 u1 u2 u3 o q1 q2 q3 q4 q5 q6 q7 q8 q9 q10 q11 q12 q13 q14 q15 q16 q17 q18 q19 q20 q21 q22 hX hbl hbA hL h7 pe n td ys la ri kd dy nd co od wo pek nk tdk ysk lak rik kdk dyk ndk cok odk wok peg ng tdg ysg lag rig kdg dyg ndg cog odg wog ty aw tk le ln sz it be tl du im ap7 wg7 rd7 sm7 bt7 up7 lw7 ii7 kd7 dy7 nd7 co7 od7 wo7 tp7 rk7 ry7 rn7 vs7 bs7 ch7 tr7 en7 du7 ol7 ig7 ln7 sz7 it7 mo7 hN hK hT hS next
    by_cases v10 : v = 10
    · subst v10
      rw [hv2]
      refine i_tabIn C (off := 455) (tgt := 488) dL_law_33 (by decide) (by decide) (by decide) (by decide) ?_
      exact law_right C b h a1 a2 a3 a4 a5 a6 k0 k1 k2 k3 k4 k5 k6 g0 g1 g2 g3 g4 g5 g6 t0 t1 s0 s1 s2 s3 u1 u2 u3 o q1 q2 q3 q4 q5 q6 q7 q8 q9 q10 q11 q12 q13 q14 q15 q16 q17 q18 q19 q20 q21 q22 hX hbl hbA hL h7 pe n td ys la ri kd dy nd co od wo pek nk tdk ysk lak rik kdk dyk ndk cok odk wok peg ng tdg ysg lag rig kdg dyg ndg cog odg wog ty aw tk le ln sz it be tl du im ap7 wg7 rd7 sm7 bt7 up7 lw7 ii7 kd7 dy7 nd7 co7 od7 wo7 tp7 rk7 ry7 rn7 vs7 bs7 ch7 tr7 en7 du7 ol7 ig7 ln7 sz7 it7 mo7 hN hK hT hS next
    by_cases v11 : v = 11
    · subst v11
      rw [hv2]
      refine i_tabIn C (off := 478) (tgt := 511) dL_law_33 (by decide) (by decide) (by decide) (by decide) ?_
      exact law_back C b h a1 a2 a3 a4 a5 a6 k0 k1 k2 k3 k4 k5 k6 g0 g1 g2 g3 g4 g5 g6 t0 t1 s0 s1 s2 s3 u1 u2 u3 o q1 q2 q3 q4 q5 q6 q7 q8 q9 q10 q11 q12 q13 q14 q15 q16 q17 q18 q19 q20 q21 q22 hX hbl hbA hL h7 pe n td ys la ri kd dy nd co od wo pek nk tdk ysk lak rik kdk dyk ndk cok odk wok peg ng tdg ysg lag rig kdg dyg ndg cog odg wog ty aw tk le ln sz it be tl du im ap7 wg7 rd7 sm7 bt7 up7 lw7 ii7 kd7 dy7 nd7 co7 od7 wo7 tp7 rk7 ry7 rn7 vs7 bs7 ch7 tr7 en7 du7 ol7 ig7 ln7 sz7 it7 mo7 hN hK hT hS next
    by_cases v12 : v = 12
    · subst v12
      rw [hv2]
      refine i_tabIn C (off := 491) (tgt := 524) dL_law_33 (by decide) (by decide) (by decide) (by decide) ?_
      exact law_year C b h a1 a2 a3 a4 a5 a6 k0 k1 k2 k3 k4 k5 k6 g0 g1 g2 g3 g4 g5 g6 t0 t1 s0 s1 s2 s3 u1 u2 u3 o q1 q2 q3 q4 q5 q6 q7 q8 q9 q10 q11 q12 q13 q14 q15 q16 q17 q18 q19 q20 q21 q22 hX hbl hbA hL h7 pe n td ys la ri kd dy nd co od wo pek nk tdk ysk lak rik kdk dyk ndk cok odk wok peg ng tdg ysg lag rig kdg dyg ndg cog odg wog ty aw tk le ln sz it be tl du im ap7 wg7 rd7 sm7 bt7 up7 lw7 ii7 kd7 dy7 nd7 co7 od7 wo7 tp7 rk7 ry7 rn7 vs7 bs7 ch7 tr7 en7 du7 ol7 ig7 ln7 sz7 it7 mo7 hN hK hT hS next
    by_cases v13 : v = 13
    · subst v13
      rw [hv2]
      refine i_tabIn C (off := 504) (tgt := 537) dL_law_33 (by decide) (by decide) (by decide) (by decide) ?_
      exact law_value C b h a1 a2 a3 a4 a5 a6 k0 k1 k2 k3 k4 k5 k6 g0 g1 g2 g3 g4 g5 g6 t0 t1 s0 s1 s2 s3 u1 u2 u3 o q1 q2 q3 q4 q5 q6 q7 q8 q9 q10 q11 q12 q13 q14 q15 q16 q17 q18 q19 q20 q21 q22 hX hbl hbA hL h7 pe n td ys la ri kd dy nd co od wo pek nk tdk ysk lak rik kdk dyk ndk cok odk wok peg ng tdg ysg lag rig kdg dyg ndg cog odg wog ty aw tk le ln sz it be tl du im ap7 wg7 rd7 sm7 bt7 up7 lw7 ii7 kd7 dy7 nd7 co7 od7 wo7 tp7 rk7 ry7 rn7 vs7 bs7 ch7 tr7 en7 du7 ol7 ig7 ln7 sz7 it7 mo7 hN hK hT hS next
    by_cases v14 : v = 14
    · subst v14
      rw [hv2]
      refine i_tabIn C (off := 527) (tgt := 560) dL_law_33 (by decide) (by decide) (by decide) (by decide) ?_
      exact law_bears C b h a1 a2 a3 a4 a5 a6 k0 k1 k2 k3 k4 k5 k6 g0 g1 g2 g3 g4 g5 g6 t0 t1 s0 s1 s2 s3 u1 u2 u3 o q1 q2 q3 q4 q5 q6 q7 q8 q9 q10 q11 q12 q13 q14 q15 q16 q17 q18 q19 q20 q21 q22 hX hbl hbA hL h7 pe n td ys la ri kd dy nd co od wo pek nk tdk ysk lak rik kdk dyk ndk cok odk wok peg ng tdg ysg lag rig kdg dyg ndg cog odg wog ty aw tk le ln sz it be tl du im ap7 wg7 rd7 sm7 bt7 up7 lw7 ii7 kd7 dy7 nd7 co7 od7 wo7 tp7 rk7 ry7 rn7 vs7 bs7 ch7 tr7 en7 du7 ol7 ig7 ln7 sz7 it7 mo7 hN hK hT hS next
    by_cases v15 : v = 15
    · subst v15
      rw [hv2]
      refine i_tabIn C (off := 550) (tgt := 583) dL_law_33 (by decide) (by decide) (by decide) (by decide) ?_
      exact law_best C b h a1 a2 a3 a4 a5 a6 k0 k1 k2 k3 k4 k5 k6 g0 g1 g2 g3 g4 g5 g6 t0 t1 s0 s1 s2 s3 u1 u2 u3 o q1 q2 q3 q4 q5 q6 q7 q8 q9 q10 q11 q12 q13 q14 q15 q16 q17 q18 q19 q20 q21 q22 hX hbl hbA hL h7 pe n td ys la ri kd dy nd co od wo pek nk tdk ysk lak rik kdk dyk ndk cok odk wok peg ng tdg ysg lag rig kdg dyg ndg cog odg wog ty aw tk le ln sz it be tl du im ap7 wg7 rd7 sm7 bt7 up7 lw7 ii7 kd7 dy7 nd7 co7 od7 wo7 tp7 rk7 ry7 rn7 vs7 bs7 ch7 tr7 en7 du7 ol7 ig7 ln7 sz7 it7 mo7 hN hK hT hS next
    by_cases v16 : v = 16
    · subst v16
      rw [hv2]
      refine i_tabIn C (off := 593) (tgt := 626) dL_law_33 (by decide) (by decide) (by decide) (by decide) ?_
      exact law_wanted C b h a1 a2 a3 a4 a5 a6 k0 k1 k2 k3 k4 k5 k6 g0 g1 g2 g3 g4 g5 g6 t0 t1 s0 s1 s2 s3 u1 u2 u3 o q1 q2 q3 q4 q5 q6 q7 q8 q9 q10 q11 q12 q13 q14 q15 q16 q17 q18 q19 q20 q21 q22 hX hbl hbA hL h7 pe n td ys la ri kd dy nd co od wo pek nk tdk ysk lak rik kdk dyk ndk cok odk wok peg ng tdg ysg lag rig kdg dyg ndg cog odg wog ty aw tk le ln sz it be tl du im ap7 wg7 rd7 sm7 bt7 up7 lw7 ii7 kd7 dy7 nd7 co7 od7 wo7 tp7 rk7 ry7 rn7 vs7 bs7 ch7 tr7 en7 du7 ol7 ig7 ln7 sz7 it7 mo7 hN hK hT hS next
    by_cases v17 : v = 17
    · subst v17
      rw [hv2]
      refine i_tabIn C (off := 626) (tgt := 659) dL_law_33 (by decide) (by decide) (by decide) (by decide) ?_
      exact law_self C b h a1 a2 a3 a4 a5 a6 k0 k1 k2 k3 k4 k5 k6 g0 g1 g2 g3 g4 g5 g6 t0 t1 s0 s1 s2 s3 u1 u2 u3 o q1 q2 q3 q4 q5 q6 q7 q8 q9 q10 q11 q12 q13 q14 q15 q16 q17 q18 q19 q20 q21 q22 hX hbl hbA hL h7 pe n td ys la ri kd dy nd co od wo pek nk tdk ysk lak rik kdk dyk ndk cok odk wok peg ng tdg ysg lag rig kdg dyg ndg cog odg wog ty aw tk le ln sz it be tl du im ap7 wg7 rd7 sm7 bt7 up7 lw7 ii7 kd7 dy7 nd7 co7 od7 wo7 tp7 rk7 ry7 rn7 vs7 bs7 ch7 tr7 en7 du7 ol7 ig7 ln7 sz7 it7 mo7 hN hK hT hS next
    by_cases v18 : v = 18
    · subst v18
      rw [hv2]
      refine i_tabIn C (off := 639) (tgt := 672) dL_law_33 (by decide) (by decide) (by decide) (by decide) ?_
      exact law_turn C b h a1 a2 a3 a4 a5 a6 k0 k1 k2 k3 k4 k5 k6 g0 g1 g2 g3 g4 g5 g6 t0 t1 s0 s1 s2 s3 u1 u2 u3 o q1 q2 q3 q4 q5 q6 q7 q8 q9 q10 q11 q12 q13 q14 q15 q16 q17 q18 q19 q20 q21 q22 hX hbl hbA hL h7 pe n td ys la ri kd dy nd co od wo pek nk tdk ysk lak rik kdk dyk ndk cok odk wok peg ng tdg ysg lag rig kdg dyg ndg cog odg wog ty aw tk le ln sz it be tl du im ap7 wg7 rd7 sm7 bt7 up7 lw7 ii7 kd7 dy7 nd7 co7 od7 wo7 tp7 rk7 ry7 rn7 vs7 bs7 ch7 tr7 en7 du7 ol7 ig7 ln7 sz7 it7 mo7 hN hK hT hS next
    by_cases v19 : v = 19
    · subst v19
      rw [hv2]
      refine i_tabIn C (off := 662) (tgt := 695) dL_law_33 (by decide) (by decide) (by decide) (by decide) ?_
      exact law_bargain C b h a1 a2 a3 a4 a5 a6 k0 k1 k2 k3 k4 k5 k6 g0 g1 g2 g3 g4 g5 g6 t0 t1 s0 s1 s2 s3 u1 u2 u3 o q1 q2 q3 q4 q5 q6 q7 q8 q9 q10 q11 q12 q13 q14 q15 q16 q17 q18 q19 q20 q21 q22 hX hbl hbA hL h7 pe n td ys la ri kd dy nd co od wo pek nk tdk ysk lak rik kdk dyk ndk cok odk wok peg ng tdg ysg lag rig kdg dyg ndg cog odg wog ty aw tk le ln sz it be tl du im ap7 wg7 rd7 sm7 bt7 up7 lw7 ii7 kd7 dy7 nd7 co7 od7 wo7 tp7 rk7 ry7 rn7 vs7 bs7 ch7 tr7 en7 du7 ol7 ig7 ln7 sz7 it7 mo7 hN hK hT hS next
    by_cases v20 : v = 20
    · subst v20
      rw [hv2]
      refine i_tabIn C (off := 715) (tgt := 748) dL_law_33 (by decide) (by decide) (by decide) (by decide) ?_
      exact law_due C b h a1 a2 a3 a4 a5 a6 k0 k1 k2 k3 k4 k5 k6 g0 g1 g2 g3 g4 g5 g6 t0 t1 s0 s1 s2 s3 u1 u2 u3 o q1 q2 q3 q4 q5 q6 q7 q8 q9 q10 q11 q12 q13 q14 q15 q16 q17 q18 q19 q20 q21 q22 hX hbl hbA hL h7 pe n td ys la ri kd dy nd co od wo pek nk tdk ysk lak rik kdk dyk ndk cok odk wok peg ng tdg ysg lag rig kdg dyg ndg cog odg wog ty aw tk le ln sz it be tl du im ap7 wg7 rd7 sm7 bt7 up7 lw7 ii7 kd7 dy7 nd7 co7 od7 wo7 tp7 rk7 ry7 rn7 vs7 bs7 ch7 tr7 en7 du7 ol7 ig7 ln7 sz7 it7 mo7 hN hK hT hS next
    by_cases v21 : v = 21
    · subst v21
      rw [hv2]
      refine i_tabIn C (off := 738) (tgt := 771) dL_law_33 (by decide) (by decide) (by decide) (by decide) ?_
      exact law_payments C b h a1 a2 a3 a4 a5 a6 k0 k1 k2 k3 k4 k5 k6 g0 g1 g2 g3 g4 g5 g6 t0 t1 s0 s1 s2 s3 u1 u2 u3 o q1 q2 q3 q4 q5 q6 q7 q8 q9 q10 q11 q12 q13 q14 q15 q16 q17 q18 q19 q20 q21 q22 hX hbl hbA hL h7 pe n td ys la ri kd dy nd co od wo pek nk tdk ysk lak rik kdk dyk ndk cok odk wok peg ng tdg ysg lag rig kdg dyg ndg cog odg wog ty aw tk le ln sz it be tl du im ap7 wg7 rd7 sm7 bt7 up7 lw7 ii7 kd7 dy7 nd7 co7 od7 wo7 tp7 rk7 ry7 rn7 vs7 bs7 ch7 tr7 en7 du7 ol7 ig7 ln7 sz7 it7 mo7 hN hK hT hS next
    by_cases v22 : v = 22
    · subst v22
      rw [hv2]
      refine i_tabIn C (off := 751) (tgt := 784) dL_law_33 (by decide) (by decide) (by decide) (by decide) ?_
      exact law_forgotten C b h a1 a2 a3 a4 a5 a6 k0 k1 k2 k3 k4 k5 k6 g0 g1 g2 g3 g4 g5 g6 t0 t1 s0 s1 s2 s3 u1 u2 u3 o q1 q2 q3 q4 q5 q6 q7 q8 q9 q10 q11 q12 q13 q14 q15 q16 q17 q18 q19 q20 q21 q22 hX hbl hbA hL h7 pe n td ys la ri kd dy nd co od wo pek nk tdk ysk lak rik kdk dyk ndk cok odk wok peg ng tdg ysg lag rig kdg dyg ndg cog odg wog ty aw tk le ln sz it be tl du im ap7 wg7 rd7 sm7 bt7 up7 lw7 ii7 kd7 dy7 nd7 co7 od7 wo7 tp7 rk7 ry7 rn7 vs7 bs7 ch7 tr7 en7 du7 ol7 ig7 ln7 sz7 it7 mo7 hN hK hT hS next
    by_cases v23 : v = 23
    · subst v23
      rw [hv2]
      refine i_tabIn C (off := 794) (tgt := 827) dL_law_33 (by decide) (by decide) (by decide) (by decide) ?_
      exact law_upper C b h a1 a2 a3 a4 a5 a6 k0 k1 k2 k3 k4 k5 k6 g0 g1 g2 g3 g4 g5 g6 t0 t1 s0 s1 s2 s3 u1 u2 u3 o q1 q2 q3 q4 q5 q6 q7 q8 q9 q10 q11 q12 q13 q14 q15 q16 q17 q18 q19 q20 q21 q22 hX hbl hbA hL h7 pe n td ys la ri kd dy nd co od wo pek nk tdk ysk lak rik kdk dyk ndk cok odk wok peg ng tdg ysg lag rig kdg dyg ndg cog odg wog ty aw tk le ln sz it be tl du im ap7 wg7 rd7 sm7 bt7 up7 lw7 ii7 kd7 dy7 nd7 co7 od7 wo7 tp7 rk7 ry7 rn7 vs7 bs7 ch7 tr7 en7 du7 ol7 ig7 ln7 sz7 it7 mo7 hN hK hT hS next
    by_cases v24 : v = 24
    · subst v24
      rw [hv2]
      refine i_tabIn C (off := 808) (tgt := 841) dL_law_33 (by decide) (by decide) (by decide) (by decide) ?_
      exact law_lower C b h a1 a2 a3 a4 a5 a6 k0 k1 k2 k3 k4 k5 k6 g0 g1 g2 g3 g4 g5 g6 t0 t1 s0 s1 s2 s3 u1 u2 u3 o q1 q2 q3 q4 q5 q6 q7 q8 q9 q10 q11 q12 q13 q14 q15 q16 q17 q18 q19 q20 q21 q22 hX hbl hbA hL h7 pe n td ys la ri kd dy nd co od wo pek nk tdk ysk lak rik kdk dyk ndk cok odk wok peg ng tdg ysg lag rig kdg dyg ndg cog odg wog ty aw tk le ln sz it be tl du im ap7 wg7 rd7 sm7 bt7 up7 lw7 ii7 kd7 dy7 nd7 co7 od7 wo7 tp7 rk7 ry7 rn7 vs7 bs7 ch7 tr7 en7 du7 ol7 ig7 ln7 sz7 it7 mo7 hN hK hT hS next
    by_cases v25 : v = 25
    · subst v25
      rw [hv2]
      refine i_tabIn C (off := 822) (tgt := 855) dL_law_33 (by decide) (by decide) (by decide) (by decide) ?_
      exact law_comes C b h a1 a2 a3 a4 a5 a6 k0 k1 k2 k3 k4 k5 k6 g0 g1 g2 g3 g4 g5 g6 t0 t1 s0 s1 s2 s3 u1 u2 u3 o q1 q2 q3 q4 q5 q6 q7 q8 q9 q10 q11 q12 q13 q14 q15 q16 q17 q18 q19 q20 q21 q22 hX hbl hbA hL h7 pe n td ys la ri kd dy nd co od wo pek nk tdk ysk lak rik kdk dyk ndk cok odk wok peg ng tdg ysg lag rig kdg dyg ndg cog odg wog ty aw tk le ln sz it be tl du im ap7 wg7 rd7 sm7 bt7 up7 lw7 ii7 kd7 dy7 nd7 co7 od7 wo7 tp7 rk7 ry7 rn7 vs7 bs7 ch7 tr7 en7 du7 ol7 ig7 ln7 sz7 it7 mo7 hN hK hT hS next
    by_cases v26 : v = 26
    · subst v26
      rw [hv2]
      refine i_tabIn C (off := 855) (tgt := 888) dL_law_33 (by decide) (by decide) (by decide) (by decide) ?_
      exact law_image C b h a1 a2 a3 a4 a5 a6 k0 k1 k2 k3 k4 k5 k6 g0 g1 g2 g3 g4 g5 g6 t0 t1 s0 s1 s2 s3 u1 u2 u3 o q1 q2 q3 q4 q5 q6 q7 q8 q9 q10 q11 q12 q13 q14 q15 q16 q17 q18 q19 q20 q21 q22 hX hbl hbA hL h7 pe n td ys la ri kd dy nd co od wo pek nk tdk ysk lak rik kdk dyk ndk cok odk wok peg ng tdg ysg lag rig kdg dyg ndg cog odg wog ty aw tk le ln sz it be tl du im ap7 wg7 rd7 sm7 bt7 up7 lw7 ii7 kd7 dy7 nd7 co7 od7 wo7 tp7 rk7 ry7 rn7 vs7 bs7 ch7 tr7 en7 du7 ol7 ig7 ln7 sz7 it7 mo7 hN hK hT hS next
    by_cases v27 : v = 27
    · subst v27
      rw [hv2]
      refine i_tabIn C (off := 868) (tgt := 901) dL_law_33 (by decide) (by decide) (by decide) (by decide) ?_
      exact law_restore C b h a1 a2 a3 a4 a5 a6 k0 k1 k2 k3 k4 k5 k6 g0 g1 g2 g3 g4 g5 g6 t0 t1 s0 s1 s2 s3 u1 u2 u3 o q1 q2 q3 q4 q5 q6 q7 q8 q9 q10 q11 q12 q13 q14 q15 q16 q17 q18 q19 q20 q21 q22 hX hbl hbA hL h7 pe n td ys la ri kd dy nd co od wo pek nk tdk ysk lak rik kdk dyk ndk cok odk wok peg ng tdg ysg lag rig kdg dyg ndg cog odg wog ty aw tk le ln sz it be tl du im ap7 wg7 rd7 sm7 bt7 up7 lw7 ii7 kd7 dy7 nd7 co7 od7 wo7 tp7 rk7 ry7 rn7 vs7 bs7 ch7 tr7 en7 du7 ol7 ig7 ln7 sz7 it7 mo7 hN hK hT hS next
    by_cases v28 : v = 28
    · subst v28
      rw [hv2]
      refine i_tabIn C (off := 881) (tgt := 914) dL_law_33 (by decide) (by decide) (by decide) (by decide) ?_
      exact law_judged C b h a1 a2 a3 a4 a5 a6 k0 k1 k2 k3 k4 k5 k6 g0 g1 g2 g3 g4 g5 g6 t0 t1 s0 s1 s2 s3 u1 u2 u3 o q1 q2 q3 q4 q5 q6 q7 q8 q9 q10 q11 q12 q13 q14 q15 q16 q17 q18 q19 q20 q21 q22 hX hbl hbA hL h7 pe n td ys la ri kd dy nd co od wo pek nk tdk ysk lak rik kdk dyk ndk cok odk wok peg ng tdg ysg lag rig kdg dyg ndg cog odg wog ty aw tk le ln sz it be tl du im ap7 wg7 rd7 sm7 bt7 up7 lw7 ii7 kd7 dy7 nd7 co7 od7 wo7 tp7 rk7 ry7 rn7 vs7 bs7 ch7 tr7 en7 du7 ol7 ig7 ln7 sz7 it7 mo7 hN hK hT hS next
    by_cases v29 : v = 29
    · subst v29
      rw [hv2]
      refine i_tabIn C (off := 924) (tgt := 957) dL_law_33 (by decide) (by decide) (by decide) (by decide) ?_
      exact law_net C b h a1 a2 a3 a4 a5 a6 k0 k1 k2 k3 k4 k5 k6 g0 g1 g2 g3 g4 g5 g6 t0 t1 s0 s1 s2 s3 u1 u2 u3 o q1 q2 q3 q4 q5 q6 q7 q8 q9 q10 q11 q12 q13 q14 q15 q16 q17 q18 q19 q20 q21 q22 hX hbl hbA hL h7 pe n td ys la ri kd dy nd co od wo pek nk tdk ysk lak rik kdk dyk ndk cok odk wok peg ng tdg ysg lag rig kdg dyg ndg cog odg wog ty aw tk le ln sz it be tl du im ap7 wg7 rd7 sm7 bt7 up7 lw7 ii7 kd7 dy7 nd7 co7 od7 wo7 tp7 rk7 ry7 rn7 vs7 bs7 ch7 tr7 en7 du7 ol7 ig7 ln7 sz7 it7 mo7 hN hK hT hS next
    by_cases v30 : v = 30
    · subst v30
      rw [hv2]
      refine i_tabIn C (off := 999) (tgt := 1032) dL_law_33 (by decide) (by decide) (by decide) (by decide) ?_
      exact law_film C b h a1 a2 a3 a4 a5 a6 k0 k1 k2 k3 k4 k5 k6 g0 g1 g2 g3 g4 g5 g6 t0 t1 s0 s1 s2 s3 u1 u2 u3 o q1 q2 q3 q4 q5 q6 q7 q8 q9 q10 q11 q12 q13 q14 q15 q16 q17 q18 q19 q20 q21 q22 hX hbl hbA hL h7 pe n td ys la ri kd dy nd co od wo pek nk tdk ysk lak rik kdk dyk ndk cok odk wok peg ng tdg ysg lag rig kdg dyg ndg cog odg wog ty aw tk le ln sz it be tl du im ap7 wg7 rd7 sm7 bt7 up7 lw7 ii7 kd7 dy7 nd7 co7 od7 wo7 tp7 rk7 ry7 rn7 vs7 bs7 ch7 tr7 en7 du7 ol7 ig7 ln7 sz7 it7 mo7 hN hK hT hS next
    by_cases v31 : v = 31
    · subst v31
      rw [hv2]
      refine i_tabIn C (off := 1042) (tgt := 1075) dL_law_33 (by decide) (by decide) (by decide) (by decide) ?_
      exact law_sheet C b h a1 a2 a3 a4 a5 a6 k0 k1 k2 k3 k4 k5 k6 g0 g1 g2 g3 g4 g5 g6 t0 t1 s0 s1 s2 s3 u1 u2 u3 o q1 q2 q3 q4 q5 q6 q7 q8 q9 q10 q11 q12 q13 q14 q15 q16 q17 q18 q19 q20 q21 q22 hX hbl hbA hL h7 pe n td ys la ri kd dy nd co od wo pek nk tdk ysk lak rik kdk dyk ndk cok odk wok peg ng tdg ysg lag rig kdg dyg ndg cog odg wog ty aw tk le ln sz it be tl du im ap7 wg7 rd7 sm7 bt7 up7 lw7 ii7 kd7 dy7 nd7 co7 od7 wo7 tp7 rk7 ry7 rn7 vs7 bs7 ch7 tr7 en7 du7 ol7 ig7 ln7 sz7 it7 mo7 hN hK hT hS next
    by_cases v32 : v = 32
    · subst v32
      rw [hv2]
      refine i_tabIn C (off := 1085) (tgt := 1118) dL_law_33 (by decide) (by decide) (by decide) (by decide) ?_
      exact law_drop C b h a1 a2 a3 a4 a5 a6 k0 k1 k2 k3 k4 k5 k6 g0 g1 g2 g3 g4 g5 g6 t0 t1 s0 s1 s2 s3 u1 u2 u3 o q1 q2 q3 q4 q5 q6 q7 q8 q9 q10 q11 q12 q13 q14 q15 q16 q17 q18 q19 q20 q21 q22 hX hbl hbA hL h7 pe n td ys la ri kd dy nd co od wo pek nk tdk ysk lak rik kdk dyk ndk cok odk wok peg ng tdg ysg lag rig kdg dyg ndg cog odg wog ty aw tk le ln sz it be tl du im ap7 wg7 rd7 sm7 bt7 up7 lw7 ii7 kd7 dy7 nd7 co7 od7 wo7 tp7 rk7 ry7 rn7 vs7 bs7 ch7 tr7 en7 du7 ol7 ig7 ln7 sz7 it7 mo7 hN hK hT hS next
    by_cases v33 : v = 33
    · subst v33
      rw [hv2]
      refine i_tabIn C (off := 1108) (tgt := 1141) dL_law_33 (by decide) (by decide) (by decide) (by decide) ?_
      exact law_item C b h a1 a2 a3 a4 a5 a6 k0 k1 k2 k3 k4 k5 k6 g0 g1 g2 g3 g4 g5 g6 t0 t1 s0 s1 s2 s3 u1 u2 u3 o q1 q2 q3 q4 q5 q6 q7 q8 q9 q10 q11 q12 q13 q14 q15 q16 q17 q18 q19 q20 q21 q22 hX hbl hbA hL h7 pe n td ys la ri kd dy nd co od wo pek nk tdk ysk lak rik kdk dyk ndk cok odk wok peg ng tdg ysg lag rig kdg dyg ndg cog odg wog ty aw tk le ln sz it be tl du im ap7 wg7 rd7 sm7 bt7 up7 lw7 ii7 kd7 dy7 nd7 co7 od7 wo7 tp7 rk7 ry7 rn7 vs7 bs7 ch7 tr7 en7 du7 ol7 ig7 ln7 sz7 it7 mo7 hN hK hT hS next
    by_cases v34 : v = 34
    · subst v34
      rw [hv2]
      refine i_tabIn C (off := 1191) (tgt := 1224) dL_law_33 (by decide) (by decide) (by decide) (by decide) ?_
      exact law_copy C b h a1 a2 a3 a4 a5 a6 k0 k1 k2 k3 k4 k5 k6 g0 g1 g2 g3 g4 g5 g6 t0 t1 s0 s1 s2 s3 u1 u2 u3 o q1 q2 q3 q4 q5 q6 q7 q8 q9 q10 q11 q12 q13 q14 q15 q16 q17 q18 q19 q20 q21 q22 hX hbl hbA hL h7 pe n td ys la ri kd dy nd co od wo pek nk tdk ysk lak rik kdk dyk ndk cok odk wok peg ng tdg ysg lag rig kdg dyg ndg cog odg wog ty aw tk le ln sz it be tl du im ap7 wg7 rd7 sm7 bt7 up7 lw7 ii7 kd7 dy7 nd7 co7 od7 wo7 tp7 rk7 ry7 rn7 vs7 bs7 ch7 tr7 en7 du7 ol7 ig7 ln7 sz7 it7 mo7 hN hK hT hS next
    rw [hv2]
    refine i_tabOut C (tgt := 1287) dL_law_33 (Or.inr (by rw [nI_toInt (by omega)]; omega)) (by decide) ?_
    exact next _ ⟨_, _, _, _, _, _, _, _, _, _, _, _, _, _, _, _, _, _, _, _, _, _, _, _, _, _, _, _, _, _, _, _, _, _, _, _, _, _, _, _, _, _, _, _, _, _, _, _, _, _, _, _, _, _, _, _, _, _, _, _, _, _, _, _, _, _, _, _, _, _, _, _, _, _, _, _, _, rfl, hN, hK, hT, hS⟩
theorem law_loop (C : Cx p s m #[Value.ref b0] meth c code RL 4 ret D) (b : Nat) (h : Nat) (a1 : Nat) (a2 : Nat) (a3 : Nat) (a4 : Nat) (a5 : Nat) (a6 : Nat) (k0 : Nat) (k1 : Nat) (k2 : Nat) (k3 : Nat) (k4 : Nat) (k5 : Nat) (k6 : Nat) (g0 : Nat) (g1 : Nat) (g2 : Nat) (g3 : Nat) (g4 : Nat) (g5 : Nat) (g6 : Nat) (t0 : Nat) (t1 : Nat) (s0 : Nat) (s1 : Nat) (s2 : Nat) (s3 : Nat) (u1 : Nat) (u2 : Nat) (u3 : Nat) (o : Nat) (q1 : Nat) (q2 : Nat) (q3 : Nat) (q4 : Nat) (q5 : Nat) (q6 : Nat) (q7 : Nat) (q8 : Nat) (q9 : Nat) (q10 : Nat) (q11 : Nat) (q12 : Nat) (q13 : Nat) (q14 : Nat) (q15 : Nat) (q16 : Nat) (q17 : Nat) (q18 : Nat) (q19 : Nat) (q20 : Nat) (q21 : Nat) (q22 : Nat) (hX : va_X b0 L xs s s.heap) (hbl : b0 < s.heap.size) (hbA : ¬ A b0) (hL : L ≤ 448) (fin : ∀ (ws : va_W) (lv : List (Nat × Value)), GI p l e room_1 s m #[Value.ref b0] below meth c D s.heap A 4 Q 54 1176 ws 1294 lv [.int 1]) :
    ∀ (k i : Nat) (ws : va_W), i ≤ L → L < i + k → LI D b h a1 a2 a3 a4 a5 a6 k0 k1 k2 k3 k4 k5 k6 g0 g1 g2 g3 g4 g5 g6 t0 t1 s0 s1 s2 s3 u1 u2 u3 o q1 q2 q3 q4 q5 q6 q7 q8 q9 q10 q11 q12 q13 q14 q15 q16 q17 q18 q19 q20 q21 q22 ws → GI p l e room_1 s m #[Value.ref b0] below meth c D s.heap A 4 Q 54 1176 ws 18 [(3, .int (nI i)), (2, .ref o), (1, .ref b), (0, .ref b0)] [] := by
  intro k
  induction k with
  | zero => intro i ws h1 h2 _; omega
  | succ k ih =>
    intro i ws h1 h2 hLI
    refine i_iln C dL_law_18 rfl 0 rfl ?_
    refine i_aln C dL_law_19 rfl 3 rfl ?_
    refine i_slen C hX hbl hbA dL_law_20 ?_
    refine i_bp C (v := (7 : Int32)) dL_law_21 (by decide) ?_
    refine i_isub C dL_law_23 ?_
    have e7 : (nI L - (7 : Int32)).toInt = (L : Int) - 7 := pk_sub_toInt (a := L) (b := 7) (by omega) (by omega)
    have ei : (nI i).toInt = (i : Int) := nI_toInt (by omega)
    refine i_icgt C (tgt := 1293) dL_law_24 (by decide) (fun cc => ?_) (fun cc => ?_)
    · refine i_ic C (v := (1 : Int32)) dL_law_1293 (by decide) ?_
      exact fin _ _
    · have h7 : i + 7 ≤ L := by
        have hc : ¬ (nI L - (7 : Int32)).toInt < (nI i).toInt := fun z => cc (Int32.lt_iff_toInt_lt.mpr z)
        omega
      refine i_aln C dL_law_27 rfl 3 rfl ?_
      refine i_iln C dL_law_28 rfl 0 rfl ?_
      refine i_sld C hX hbl hbA i rfl (by omega) hL dL_law_29 ?_
      refine i_bp C (v := (63 : Int32)) dL_law_30 (by decide) ?_
      refine i_iand C dL_law_32 ?_
      obtain ⟨v, hv, hv2⟩ := and63 (xs i)
      refine law_step C b h a1 a2 a3 a4 a5 a6 k0 k1 k2 k3 k4 k5 k6 g0 g1 g2 g3 g4 g5 g6 t0 t1 s0 s1 s2 s3 u1 u2 u3 o q1 q2 q3 q4 q5 q6 q7 q8 q9 q10 q11 q12 q13 q14 q15 q16 q17 q18 q19 q20 q21 q22 hX hbl hbA hL h7 ws hLI (fun ws2 hLI2 => ?_) v hv _ hv2
      refine i_inc C (v := nI (i + 7)) (lv' := [(3, .int (nI (i + 7))), (2, .ref o), (1, .ref b), (0, .ref b0)]) dL_law_1287 0 rfl (by rw [← nI_add]; rfl) (by decide) rfl ?_
      refine i_goto C (tgt := 18) dL_law_1290 (by decide) ?_
      exact ih (i + 7) ws2 h7 (by omega) hLI2
end LAWL
