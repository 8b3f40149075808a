section LAWC
variable {p : Program} {l : Launch} {e : Env} {s : State} {m : MethodId} {below : List Frame} {meth : Method} {c : Code} {D : va_G} {A : Nat → Prop} {Q : State → Prop} {b0 L i : Nat} {xs : Nat → Int32}
set_option maxHeartbeats 8000000 in
set_option maxRecDepth 100000 in
theorem law_net (C : Cx p s m #[Value.ref b0] meth c code RL 4 ret D) (b : Nat) (h : Nat) (a1 : Nat) (a2 : Nat) (a3 : Nat) (a4 : Nat) (a5 : Nat) (a6 : Nat) (k0 : Nat) (k1 : Nat) (k2 : Nat) (k3 : Nat) (k4 : Nat) (k5 : Nat) (k6 : Nat) (g0 : Nat) (g1 : Nat) (g2 : Nat) (g3 : Nat) (g4 : Nat) (g5 : Nat) (g6 : Nat) (t0 : Nat) (t1 : Nat) (s0 : Nat) (s1 : Nat) (s2 : Nat) (s3 : Nat) (u1 : Nat) (u2 : Nat) (u3 : Nat) (o : Nat) (q1 : Nat) (q2 : Nat) (q3 : Nat) (q4 : Nat) (q5 : Nat) (q6 : Nat) (q7 : Nat) (q8 : Nat) (q9 : Nat) (q10 : Nat) (q11 : Nat) (q12 : Nat) (q13 : Nat) (q14 : Nat) (q15 : Nat) (q16 : Nat) (q17 : Nat) (q18 : Nat) (q19 : Nat) (q20 : Nat) (q21 : Nat) (q22 : Nat) (hX : va_X b0 L xs s s.heap) (hbl : b0 < s.heap.size) (hbA : ¬ A b0) (hL : L ≤ 448) (hi : i + 7 ≤ L) (pe : Nat) (n : Nat) (td : Int32) (ys : Int32) (la : Int32) (ri : Int32) (kd : Nat → Int32) (dy : Nat → Int32) (nd : Nat → Int32) (co : Nat → Int32) (od : Nat → Int32) (wo : Nat → Int32) (pek : Nat) (nk : Nat) (tdk : Int32) (ysk : Int32) (lak : Int32) (rik : Int32) (kdk : Nat → Int32) (dyk : Nat → Int32) (ndk : Nat → Int32) (cok : Nat → Int32) (odk : Nat → Int32) (wok : Nat → Int32) (peg : Nat) (ng : Nat) (tdg : Int32) (ysg : Int32) (lag : Int32) (rig : Int32) (kdg : Nat → Int32) (dyg : Nat → Int32) (ndg : Nat → Int32) (cog : Nat → Int32) (odg : Nat → Int32) (wog : Nat → Int32) (ty : Nat) (aw : Int32) (tk : Int32) (le : Nat → Int32) (ln : Nat → Int32) (sz : Nat → Int32) (it : Nat → Int64) (be : Nat → Int32) (tl : Nat → Int32) (du : Nat → Int32) (im : Int32) (ap7 : Nat) (wg7 : Int32) (rd7 : Nat) (sm7 : Int32) (bt7 : Int32) (up7 : Int64) (lw7 : Int64) (ii7 : Int32) (kd7 : Nat → Int32) (dy7 : Nat → Int32) (nd7 : Nat → Int32) (co7 : Nat → Int32) (od7 : Nat → Int32) (wo7 : Nat → Int32) (tp7 : Nat → Int32) (rk7 : Nat → Int32) (ry7 : Nat → Int32) (rn7 : Nat → Int32) (vs7 : Nat → Int32) (bs7 : Nat → Int32) (ch7 : Nat → Int32) (tr7 : Nat → Int32) (en7 : Nat → Int32) (du7 : Nat → Int32) (ol7 : Nat → Int32) (ig7 : Nat → Int32) (ln7 : Nat → Int32) (sz7 : Nat → Int32) (it7 : Nat → Int64) (mo7 : Nat → Int64) (hN : RN pe n td ys la ri kd dy nd co od wo kd7 dy7 nd7 co7 od7 wo7) (hK : RK pek nk tdk ysk lak rik kdk dyk ndk cok odk wok im ii7 ig7) (hT : RT ty le tp7) (hS : RS ln sz it ln7 sz7 it7) (next : ∀ ws' : va_W, LI D b h a1 a2 a3 a4 a5 a6 k0 k1 k2 k3 k4 k5 k6 g0 g1 g2 g3 g4 g5 g6 t0 t1 s0 s1 s2 s3 u1 u2 u3 o q1 q2 q3 q4 q5 q6 q7 q8 q9 q10 q11 q12 q13 q14 q15 q16 q17 q18 q19 q20 q21 q22 ws' → GI p l e room_1 s m #[Value.ref b0] below meth c D s.heap A 4 Q 54 1176 ws' 1287 [(3, .int (nI i)), (2, .ref o), (1, .ref b), (0, .ref b0)] []) : GI p l e room_1 s m #[Value.ref b0] below meth c D s.heap A 4 Q 54 1176 (wLA D b h a1 a2 a3 a4 a5 a6 k0 k1 k2 k3 k4 k5 k6 g0 g1 g2 g3 g4 g5 g6 t0 t1 s0 s1 s2 s3 u1 u2 u3 pe n td ys la ri kd dy nd co od wo pek nk tdk ysk lak rik kdk dyk ndk cok odk wok peg ng tdg ysg lag rig kdg dyg ndg cog odg wog ty aw tk le ln sz it be tl du im ++ wM D o q1 q2 q3 q4 q5 q6 q7 q8 q9 q10 q11 q12 q13 q14 q15 q16 q17 q18 q19 q20 q21 q22 pe n la ri td ys ty ap7 wg7 rd7 sm7 bt7 up7 lw7 ii7 kd7 dy7 nd7 co7 od7 wo7 tp7 rk7 ry7 rn7 vs7 bs7 ch7 tr7 en7 du7 ol7 ig7 ln7 sz7 it7 mo7) 957 [(3, .int (nI i)), (2, .ref o), (1, .ref b), (0, .ref b0)] [] := by
  have hh := rs_net hN hS tl (xs (i + 1)) (xs (i + 2)) (xs (i + 3)) (xs (i + 4)) (xs (i + 5)) (xs (i + 6))
  refine i_aln C dL_law_957 rfl 2 rfl ?_
  refine i_aln C dL_law_958 rfl 3 rfl ?_
  refine i_iln C dL_law_959 rfl 0 rfl ?_
  refine i_ic C (v := (1 : Int32)) dL_law_960 (by decide) ?_
  refine i_iadd C dL_law_961 ?_
  refine i_sld C hX hbl hbA (i + 1) (nv_add rfl rfl) (by omega) hL dL_law_962 ?_
  refine i_aln C dL_law_963 rfl 3 rfl ?_
  refine i_iln C dL_law_964 rfl 0 rfl ?_
  refine i_ic C (v := (2 : Int32)) dL_law_965 (by decide) ?_
  refine i_iadd C dL_law_966 ?_
  refine i_sld C hX hbl hbA (i + 2) (nv_add rfl rfl) (by omega) hL dL_law_967 ?_
  refine i_aln C dL_law_968 rfl 3 rfl ?_
  refine i_iln C dL_law_969 rfl 0 rfl ?_
  refine i_ic C (v := (3 : Int32)) dL_law_970 (by decide) ?_
  refine i_iadd C dL_law_971 ?_
  refine i_sld C hX hbl hbA (i + 3) (nv_add rfl rfl) (by omega) hL dL_law_972 ?_
  refine i_aln C dL_law_973 rfl 3 rfl ?_
  refine i_iln C dL_law_974 rfl 0 rfl ?_
  refine i_ic C (v := (4 : Int32)) dL_law_975 (by decide) ?_
  refine i_iadd C dL_law_976 ?_
  refine i_sld C hX hbl hbA (i + 4) (nv_add rfl rfl) (by omega) hL dL_law_977 ?_
  refine i_aln C dL_law_978 rfl 3 rfl ?_
  refine i_iln C dL_law_979 rfl 0 rfl ?_
  refine i_ic C (v := (5 : Int32)) dL_law_980 (by decide) ?_
  refine i_iadd C dL_law_981 ?_
  refine i_sld C hX hbl hbA (i + 5) (nv_add rfl rfl) (by omega) hL dL_law_982 ?_
  refine i_aln C dL_law_983 rfl 3 rfl ?_
  refine i_iln C dL_law_984 rfl 0 rfl ?_
  refine i_bp C (v := (6 : Int32)) dL_law_985 (by decide) ?_
  refine i_iadd C dL_law_987 ?_
  refine i_sld C hX hbl hbA (i + 6) (nv_add rfl rfl) (by omega) hL dL_law_988 ?_
  refine i_callW (As := [.int (xs (i + 1)), .int (xs (i + 2)), .int (xs (i + 3)), .int (xs (i + 4)), .int (xs (i + 5)), .int (xs (i + 6))]) (rest := []) (st' := [.int ((s_X6_net n kd dy ln sz it tl (xs (i + 1)) (xs (i + 2)) (xs (i + 3)) (xs (i + 4)) (xs (i + 5)) (xs (i + 6))).1)]) (ws2 := wLA D b h a1 a2 a3 a4 a5 a6 k0 k1 k2 k3 k4 k5 k6 g0 g1 g2 g3 g4 g5 g6 t0 t1 s0 s1 s2 s3 u1 u2 u3 pe n td ys la ri kd dy nd co od wo pek nk tdk ysk lak rik kdk dyk ndk cok odk wok peg ng tdg ysg lag rig kdg dyg ndg cog odg wog ty aw tk le ln sz it be ((s_X6_net n kd dy ln sz it tl (xs (i + 1)) (xs (i + 2)) (xs (i + 3)) (xs (i + 4)) (xs (i + 5)) (xs (i + 6))).2) du im ++ wM D o q1 q2 q3 q4 q5 q6 q7 q8 q9 q10 q11 q12 q13 q14 q15 q16 q17 q18 q19 q20 q21 q22 pe n la ri td ys ty ap7 wg7 rd7 sm7 bt7 up7 lw7 ii7 kd7 dy7 nd7 co7 od7 wo7 tp7 rk7 ry7 rn7 vs7 bs7 ch7 tr7 en7 du7 ol7 ig7 ln7 sz7 it7 mo7) C (fun hd => c_X6_net l D b h a1 a2 a3 a4 a5 a6 s0 s1 s2 s3 u2 k0 g0 t0 u1 u3 pe n td ys la ri kd dy nd co od wo ln sz it tl im (xs (i + 1)) (xs (i + 2)) (xs (i + 3)) (xs (i + 4)) (xs (i + 5)) (xs (i + 6)) hN.hn hS.hz hd) ok_X6_net wn_X6_net wl_X6_net wm_L_135 [0, 1, 2, 3, 4, 5, 6, 7, 24, 25, 26, 27, 29] 0 rfl rfl rfl ⟨Nat.le_of_ble_eq_true rfl, Nat.le_of_ble_eq_true rfl⟩ ⟨Nat.le_of_ble_eq_true rfl, Nat.le_of_ble_eq_true rfl⟩ rfl rfl (by decide +kernel) rfl rfl rfl rfl (Nat.le_of_ble_eq_true rfl) dL_law_989 rfl ?_
  refine i_aln C dL_law_992 rfl 1 rfl ?_
  refine i_aln C dL_law_993 rfl 3 rfl ?_
  refine i_iln C dL_law_994 rfl 0 rfl ?_
  refine i_ic C (v := (1 : Int32)) dL_law_995 (by decide) ?_
  refine i_iadd C dL_law_996 ?_
  refine i_sld C hX hbl hbA (i + 1) (nv_add rfl rfl) (by omega) hL dL_law_997 ?_
  refine i_aln C dL_law_998 rfl 3 rfl ?_
  refine i_iln C dL_law_999 rfl 0 rfl ?_
  refine i_ic C (v := (2 : Int32)) dL_law_1000 (by decide) ?_
  refine i_iadd C dL_law_1001 ?_
  refine i_sld C hX hbl hbA (i + 2) (nv_add rfl rfl) (by omega) hL dL_law_1002 ?_
  refine i_aln C dL_law_1003 rfl 3 rfl ?_
  refine i_iln C dL_law_1004 rfl 0 rfl ?_
  refine i_ic C (v := (3 : Int32)) dL_law_1005 (by decide) ?_
  refine i_iadd C dL_law_1006 ?_
  refine i_sld C hX hbl hbA (i + 3) (nv_add rfl rfl) (by omega) hL dL_law_1007 ?_
  refine i_aln C dL_law_1008 rfl 3 rfl ?_
  refine i_iln C dL_law_1009 rfl 0 rfl ?_
  refine i_ic C (v := (4 : Int32)) dL_law_1010 (by decide) ?_
  refine i_iadd C dL_law_1011 ?_
  refine i_sld C hX hbl hbA (i + 4) (nv_add rfl rfl) (by omega) hL dL_law_1012 ?_
  refine i_aln C dL_law_1013 rfl 3 rfl ?_
  refine i_iln C dL_law_1014 rfl 0 rfl ?_
  refine i_ic C (v := (5 : Int32)) dL_law_1015 (by decide) ?_
  refine i_iadd C dL_law_1016 ?_
  refine i_sld C hX hbl hbA (i + 5) (nv_add rfl rfl) (by omega) hL dL_law_1017 ?_
  refine i_aln C dL_law_1018 rfl 3 rfl ?_
  refine i_iln C dL_law_1019 rfl 0 rfl ?_
  refine i_bp C (v := (6 : Int32)) dL_law_1020 (by decide) ?_
  refine i_iadd C dL_law_1022 ?_
  refine i_sld C hX hbl hbA (i + 6) (nv_add rfl rfl) (by omega) hL dL_law_1023 ?_
  refine i_callB (As := [.int (xs (i + 1)), .int (xs (i + 2)), .int (xs (i + 3)), .int (xs (i + 4)), .int (xs (i + 5)), .int (xs (i + 6))]) (rest := [.int ((s_X6_net n kd dy ln sz it tl (xs (i + 1)) (xs (i + 2)) (xs (i + 3)) (xs (i + 4)) (xs (i + 5)) (xs (i + 6))).1)]) (st' := [.int ((s_X7_net n kd7 dy7 nd7 ln7 sz7 it7 (xs (i + 1)) (xs (i + 2)) (xs (i + 3)) (xs (i + 4)) (xs (i + 5)) (xs (i + 6))).1), .int ((s_X6_net n kd dy ln sz it tl (xs (i + 1)) (xs (i + 2)) (xs (i + 3)) (xs (i + 4)) (xs (i + 5)) (xs (i + 6))).1)]) (ws1 := wM D o q1 q2 q3 q4 q5 q6 q7 q8 q9 q10 q11 q12 q13 q14 q15 q16 q17 q18 q19 q20 q21 q22 pe n la ri td ys ty ap7 wg7 rd7 sm7 bt7 up7 lw7 ii7 kd7 dy7 ((s_X7_net n kd7 dy7 nd7 ln7 sz7 it7 (xs (i + 1)) (xs (i + 2)) (xs (i + 3)) (xs (i + 4)) (xs (i + 5)) (xs (i + 6))).2) co7 od7 wo7 tp7 rk7 ry7 rn7 vs7 bs7 ch7 tr7 en7 du7 ol7 ig7 ln7 sz7 it7 mo7) C (fun hd => c_X7_net l D o q1 q2 q3 q4 q5 q6 q7 q8 q9 q10 q11 q12 q13 q14 q15 q16 q17 q18 q19 q20 q21 q22 pe n la ri td ys ty ap7 wg7 rd7 sm7 bt7 up7 lw7 ii7 kd7 dy7 nd7 co7 od7 wo7 tp7 rk7 ry7 rn7 vs7 bs7 ch7 tr7 en7 du7 ol7 ig7 ln7 sz7 it7 mo7 (xs (i + 1)) (xs (i + 2)) (xs (i + 3)) (xs (i + 4)) (xs (i + 5)) (xs (i + 6)) hN.hn hS.hz' hd) ok_X7_net wn_X7_net wl_X7_net wm_L_139 0 rfl rfl rfl ⟨Nat.le_of_ble_eq_true rfl, Nat.le_of_ble_eq_true rfl⟩ ⟨Nat.le_of_ble_eq_true rfl, Nat.le_of_ble_eq_true rfl⟩ rfl rfl (Nat.le_of_ble_eq_true rfl) dL_law_1024 rfl ?_
  refine i_iceq C (tgt := 1287) dL_law_1027 (by decide) (fun _ => ?_) (fun z => absurd hh.1 z)
  rw [hh.2]
  exact next _ ⟨_, _, _, _, _, _, _, _, _, _, _, _, _, _, _, _, _, _, _, _, _, _, _, _, _, _, _, _, _, _, _, _, _, _, _, _, _, _, _, _, _, _, _, _, _, _, _, _, _, _, _, _, _, _, _, _, _, _, _, _, _, _, _, _, _, _, _, _, _, _, _, _, _, _, _, _, _, rfl, hN, hK, hT, hS⟩
end LAWC
