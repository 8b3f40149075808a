section LAWC
variable {p : Program} {l : Launch} {e : Env} {s : State} {m : MethodId} {below : List Frame} {meth : Method} {c : Code} {D : va_G} {A : Nat → Prop} {Q : State → Prop} {b0 L i : Nat} {xs : Nat → Int32}
set_option maxHeartbeats 8000000 in
set_option maxRecDepth 100000 in
theorem law_told (C : Cx p s m #[Value.ref b0] meth c code RL 4 ret D) (b : Nat) (h : Nat) (a1 : Nat) (a2 : Nat) (a3 : Nat) (a4 : Nat) (a5 : Nat) (a6 : Nat) (k0 : Nat) (k1 : Nat) (k2 : Nat) (k3 : Nat) (k4 : Nat) (k5 : Nat) (k6 : Nat) (g0 : Nat) (g1 : Nat) (g2 : Nat) (g3 : Nat) (g4 : Nat) (g5 : Nat) (g6 : Nat) (t0 : Nat) (t1 : Nat) (s0 : Nat) (s1 : Nat) (s2 : Nat) (s3 : Nat) (u1 : Nat) (u2 : Nat) (u3 : Nat) (o : Nat) (q1 : Nat) (q2 : Nat) (q3 : Nat) (q4 : Nat) (q5 : Nat) (q6 : Nat) (q7 : Nat) (q8 : Nat) (q9 : Nat) (q10 : Nat) (q11 : Nat) (q12 : Nat) (q13 : Nat) (q14 : Nat) (q15 : Nat) (q16 : Nat) (q17 : Nat) (q18 : Nat) (q19 : Nat) (q20 : Nat) (q21 : Nat) (q22 : Nat) (hX : va_X b0 L xs s s.heap) (hbl : b0 < s.heap.size) (hbA : ¬ A b0) (hL : L ≤ 448) (hi : i + 7 ≤ L) (pe : Nat) (n : Nat) (td : Int32) (ys : Int32) (la : Int32) (ri : Int32) (kd : Nat → Int32) (dy : Nat → Int32) (nd : Nat → Int32) (co : Nat → Int32) (od : Nat → Int32) (wo : Nat → Int32) (pek : Nat) (nk : Nat) (tdk : Int32) (ysk : Int32) (lak : Int32) (rik : Int32) (kdk : Nat → Int32) (dyk : Nat → Int32) (ndk : Nat → Int32) (cok : Nat → Int32) (odk : Nat → Int32) (wok : Nat → Int32) (peg : Nat) (ng : Nat) (tdg : Int32) (ysg : Int32) (lag : Int32) (rig : Int32) (kdg : Nat → Int32) (dyg : Nat → Int32) (ndg : Nat → Int32) (cog : Nat → Int32) (odg : Nat → Int32) (wog : Nat → Int32) (ty : Nat) (aw : Int32) (tk : Int32) (le : Nat → Int32) (ln : Nat → Int32) (sz : Nat → Int32) (it : Nat → Int64) (be : Nat → Int32) (tl : Nat → Int32) (du : Nat → Int32) (im : Int32) (ap7 : Nat) (wg7 : Int32) (rd7 : Nat) (sm7 : Int32) (bt7 : Int32) (up7 : Int64) (lw7 : Int64) (ii7 : Int32) (kd7 : Nat → Int32) (dy7 : Nat → Int32) (nd7 : Nat → Int32) (co7 : Nat → Int32) (od7 : Nat → Int32) (wo7 : Nat → Int32) (tp7 : Nat → Int32) (rk7 : Nat → Int32) (ry7 : Nat → Int32) (rn7 : Nat → Int32) (vs7 : Nat → Int32) (bs7 : Nat → Int32) (ch7 : Nat → Int32) (tr7 : Nat → Int32) (en7 : Nat → Int32) (du7 : Nat → Int32) (ol7 : Nat → Int32) (ig7 : Nat → Int32) (ln7 : Nat → Int32) (sz7 : Nat → Int32) (it7 : Nat → Int64) (mo7 : Nat → Int64) (hN : RN pe n td ys la ri kd dy nd co od wo kd7 dy7 nd7 co7 od7 wo7) (hK : RK pek nk tdk ysk lak rik kdk dyk ndk cok odk wok im ii7 ig7) (hT : RT ty le tp7) (hS : RS ln sz it ln7 sz7 it7) (next : ∀ ws' : va_W, LI D b h a1 a2 a3 a4 a5 a6 k0 k1 k2 k3 k4 k5 k6 g0 g1 g2 g3 g4 g5 g6 t0 t1 s0 s1 s2 s3 u1 u2 u3 o q1 q2 q3 q4 q5 q6 q7 q8 q9 q10 q11 q12 q13 q14 q15 q16 q17 q18 q19 q20 q21 q22 ws' → GI p l e room_1 s m #[Value.ref b0] below meth c D s.heap A 4 Q 54 1176 ws' 1287 [(3, .int (nI i)), (2, .ref o), (1, .ref b), (0, .ref b0)] []) : GI p l e room_1 s m #[Value.ref b0] below meth c D s.heap A 4 Q 54 1176 (wLA D b h a1 a2 a3 a4 a5 a6 k0 k1 k2 k3 k4 k5 k6 g0 g1 g2 g3 g4 g5 g6 t0 t1 s0 s1 s2 s3 u1 u2 u3 pe n td ys la ri kd dy nd co od wo pek nk tdk ysk lak rik kdk dyk ndk cok odk wok peg ng tdg ysg lag rig kdg dyg ndg cog odg wog ty aw tk le ln sz it be tl du im ++ wM D o q1 q2 q3 q4 q5 q6 q7 q8 q9 q10 q11 q12 q13 q14 q15 q16 q17 q18 q19 q20 q21 q22 pe n la ri td ys ty ap7 wg7 rd7 sm7 bt7 up7 lw7 ii7 kd7 dy7 nd7 co7 od7 wo7 tp7 rk7 ry7 rn7 vs7 bs7 ch7 tr7 en7 du7 ol7 ig7 ln7 sz7 it7 mo7) 254 [(3, .int (nI i)), (2, .ref o), (1, .ref b), (0, .ref b0)] [] := by
  have hh := rn_told hN (xs (i + 1)) (xs (i + 2))
  refine i_aln C dL_law_254 rfl 2 rfl ?_
  refine i_aln C dL_law_255 rfl 3 rfl ?_
  refine i_iln C dL_law_256 rfl 0 rfl ?_
  refine i_ic C (v := (1 : Int32)) dL_law_257 (by decide) ?_
  refine i_iadd C dL_law_258 ?_
  refine i_sld C hX hbl hbA (i + 1) (nv_add rfl rfl) (by omega) hL dL_law_259 ?_
  refine i_aln C dL_law_260 rfl 3 rfl ?_
  refine i_iln C dL_law_261 rfl 0 rfl ?_
  refine i_ic C (v := (2 : Int32)) dL_law_262 (by decide) ?_
  refine i_iadd C dL_law_263 ?_
  refine i_sld C hX hbl hbA (i + 2) (nv_add rfl rfl) (by omega) hL dL_law_264 ?_
  refine i_callR (As := [.int (xs (i + 1)), .int (xs (i + 2))]) (rest := []) (st' := [.int (s_X6_told n la ri kd dy nd co od (xs (i + 1)) (xs (i + 2)))]) C (c_X6_told l D b h a1 a2 a3 a4 a5 a6 k0 g0 t0 s0 u1 u2 u3 pe n td ys la ri kd dy nd co od wo im (xs (i + 1)) (xs (i + 2)) hN.hn) ok_X6_told wn_X6_told wl_X6_told wm_L_23 [0, 1, 2, 3, 4, 5, 6, 7] 0 rfl rfl rfl ⟨Nat.le_of_ble_eq_true rfl, Nat.le_of_ble_eq_true rfl⟩ ⟨Nat.le_of_ble_eq_true rfl, Nat.le_of_ble_eq_true rfl⟩ rfl rfl (Nat.le_of_ble_eq_true rfl) dL_law_265 rfl ?_
  refine i_aln C dL_law_268 rfl 1 rfl ?_
  refine i_aln C dL_law_269 rfl 3 rfl ?_
  refine i_iln C dL_law_270 rfl 0 rfl ?_
  refine i_ic C (v := (1 : Int32)) dL_law_271 (by decide) ?_
  refine i_iadd C dL_law_272 ?_
  refine i_sld C hX hbl hbA (i + 1) (nv_add rfl rfl) (by omega) hL dL_law_273 ?_
  refine i_aln C dL_law_274 rfl 3 rfl ?_
  refine i_iln C dL_law_275 rfl 0 rfl ?_
  refine i_ic C (v := (2 : Int32)) dL_law_276 (by decide) ?_
  refine i_iadd C dL_law_277 ?_
  refine i_sld C hX hbl hbA (i + 2) (nv_add rfl rfl) (by omega) hL dL_law_278 ?_
  refine i_callBR (As := [.int (xs (i + 1)), .int (xs (i + 2))]) (rest := [.int (s_X6_told n la ri kd dy nd co od (xs (i + 1)) (xs (i + 2)))]) (st' := [.int (s_X7_told n la ri kd7 dy7 nd7 co7 od7 (xs (i + 1)) (xs (i + 2))), .int (s_X6_told n la ri kd dy nd co od (xs (i + 1)) (xs (i + 2)))]) C (c_X7_told l D o q1 q2 q3 q4 q5 q6 q7 q8 q9 q10 q11 q12 q13 q14 q15 q16 q17 q18 q19 q20 q21 q22 pe n la ri td ys ty ap7 wg7 rd7 sm7 bt7 up7 lw7 ii7 kd7 dy7 nd7 co7 od7 wo7 tp7 rk7 ry7 rn7 vs7 bs7 ch7 tr7 en7 du7 ol7 ig7 ln7 sz7 it7 mo7 (xs (i + 1)) (xs (i + 2)) hN.hn) ok_X7_told wn_X7_told wl_X7_told wm_L_27 0 rfl rfl rfl ⟨Nat.le_of_ble_eq_true rfl, Nat.le_of_ble_eq_true rfl⟩ ⟨Nat.le_of_ble_eq_true rfl, Nat.le_of_ble_eq_true rfl⟩ rfl (Nat.le_of_ble_eq_true rfl) dL_law_279 rfl ?_
  refine i_iceq C (tgt := 1287) dL_law_282 (by decide) (fun _ => ?_) (fun z => absurd hh z)
  exact next _ ⟨_, _, _, _, _, _, _, _, _, _, _, _, _, _, _, _, _, _, _, _, _, _, _, _, _, _, _, _, _, _, _, _, _, _, _, _, _, _, _, _, _, _, _, _, _, _, _, _, _, _, _, _, _, _, _, _, _, _, _, _, _, _, _, _, _, _, _, _, _, _, _, _, _, _, _, _, _, rfl, hN, hK, hT, hS⟩
end LAWC
