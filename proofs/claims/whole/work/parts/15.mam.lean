def s_X7_gives12_L2 (ig : Nat → Int32) (kk : Nat) : Nat → Nat → (Nat → Int32) → (Nat → Int32)
  | 0, _, ff_3 => ff_3
  | k1 + 1, d2, ff_3 => (s_X7_gives12_L2 ig kk k1 (d2 + 1) (upd ff_3 d2 (ig (kk + d2))))
def s_X7_gives12 (ig : Nat → Int32) (ff : Nat → Int32) (kk : Nat) : Int32 × (Nat → Int32) := ((nI kk) + (nI 12), (s_X7_gives12_L2 ig kk 12 0 ff))
set_option maxHeartbeats 8000000 in
set_option maxRecDepth 100000 in
theorem c_X7_gives12 (l : Launch) (D : va_G) (o : Nat) (q1 : Nat) (q2 : Nat) (q3 : Nat) (q4 : Nat) (q5 : Nat) (q6 : Nat) (q7 : Nat) (q8 : Nat) (q9 : Nat) (q10 : Nat) (q11 : Nat) (q12 : Nat) (q13 : Nat) (q14 : Nat) (q15 : Nat) (q16 : Nat) (q17 : Nat) (q18 : Nat) (q19 : Nat) (q20 : Nat) (q21 : Nat) (q22 : Nat) (fa : Nat) (pe : Nat) (n : Nat) (la : Int32) (ri : Int32) (td : Int32) (ys : Int32) (ty : Nat) (ap : Nat) (wg : Int32) (rd : Nat) (sm : Int32) (bt : Int32) (up : Int64) (lw : Int64) (ii : Int32) (ig : Nat → Int32) (ff : Nat → Int32) (kk : Nat) (hk1 : kk + 12 ≤ 114) (h0 : va_D (fun _ => True) (wMn12 D o q1 q2 q3 q4 q5 q6 q7 q8 q9 q10 q11 q12 q13 q14 q15 q16 q17 q18 q19 q20 q21 q22 fa pe n la ri td ys ty ap wg rd sm bt up lw ii ig ff)) : ct l yX7_gives cX7_gives 4 (some .int) 0 0 D [.ref o, .int (nI kk), .ref fa] (wMn12 D o q1 q2 q3 q4 q5 q6 q7 q8 q9 q10 q11 q12 q13 q14 q15 q16 q17 q18 q19 q20 q21 q22 fa pe n la ri td ys ty ap wg rd sm bt up lw ii ig ff) (wMn12 D o q1 q2 q3 q4 q5 q6 q7 q8 q9 q10 q11 q12 q13 q14 q15 q16 q17 q18 q19 q20 q21 q22 fa pe n la ri td ys ty ap wg rd sm bt up lw ii ig (s_X7_gives12 ig ff kk).2) (Ad (wMn12 D o q1 q2 q3 q4 q5 q6 q7 q8 q9 q10 q11 q12 q13 q14 q15 q16 q17 q18 q19 q20 q21 q22 fa pe n la ri td ys ty ap wg rd sm bt up lw ii ig ff)) (some (Value.int (s_X7_gives12 ig ff kk).1)) := by
  obtain ⟨V, hv⟩ : ∃ V, s_X7_gives12 ig ff kk = V := ⟨_, rfl⟩
  rw [hv]
  refine ct_intro (own := RX7) (lv := [(0, .ref o), (1, .int (nI kk)), (2, .ref fa)]) (by decide) rfl (Nat.le_of_ble_eq_true rfl) rfl ?_
  intro p_ e_ s_ m_ below_ meth_ c_ C
  have hv : ((nI kk) + (nI 12), (s_X7_gives12_L2 ig kk 12 0 ff)) = V := hv
  refine r_ic C (v := (0 : Int32)) dX7_gives_0 (by decide) ?_
  refine r_isn C (lv' := [(3, .int (0 : Int32)), (0, .ref o), (1, .int (nI kk)), (2, .ref fa)]) dX7_gives_1 rfl (by decide) rfl ?_
  have L7 : ∀ (k1 : Nat) (d2 : Nat) (ff_3 : Nat → Int32), (d2 + k1 = 12) → ((nI kk) + (nI 12), (s_X7_gives12_L2 ig kk k1 d2 ff_3)) = V → GM p_ l e_ s_ m_ below_ meth_ c_ D 0 0 4 [.ref o, .int (nI kk), .ref fa] (wMn12 D o q1 q2 q3 q4 q5 q6 q7 q8 q9 q10 q11 q12 q13 q14 q15 q16 q17 q18 q19 q20 q21 q22 fa pe n la ri td ys ty ap wg rd sm bt up lw ii ig V.2) (Ad (wMn12 D o q1 q2 q3 q4 q5 q6 q7 q8 q9 q10 q11 q12 q13 q14 q15 q16 q17 q18 q19 q20 q21 q22 fa pe n la ri td ys ty ap wg rd sm bt up lw ii ig ff)) (some (Value.int V.1)) (wMn12 D o q1 q2 q3 q4 q5 q6 q7 q8 q9 q10 q11 q12 q13 q14 q15 q16 q17 q18 q19 q20 q21 q22 fa pe n la ri td ys ty ap wg rd sm bt up lw ii ig ff_3) 2 [(3, .int (nI d2)), (0, .ref o), (1, .int (nI kk)), (2, .ref fa)] [] := by
    intro k1
    induction k1 with
    | zero =>
      intro d2 ff_3 hk hv
      have hv : ((nI kk) + (nI 12), ff_3) = V := hv
      refine r_iln C dX7_gives_2 rfl 0 rfl ?_
      refine r_aln C dX7_gives_3 rfl 3 rfl ?_
      refine r_alen C 2 0 rfl rfl dX7_gives_4 ?_
      refine r_icge C (tgt := 25) dX7_gives_5 (by decide) (fun c4 => ?_) (fun c4 => ?_)
      · skip
        refine r_iln C dX7_gives_25 rfl 2 rfl ?_
        refine r_aln C dX7_gives_26 rfl 3 rfl ?_
        refine r_alen C 2 0 rfl rfl dX7_gives_27 ?_
        refine r_iadd C dX7_gives_28 ?_
        exact r_iret rfl C (by rw [← hv]) (by rw [← hv]) dX7_gives_29
      · exact absurd c4 (fun z => absurd ((nv_lt (a := d2) (b := 12) rfl rfl (by omega) (by omega)).mp z) (by omega))
    | succ k1 ih5 =>
      intro d2 ff_3 hk hv
      have hv : ((nI kk) + (nI 12), (s_X7_gives12_L2 ig kk k1 (d2 + 1) (upd ff_3 d2 (ig (kk + d2))))) = V := hv
      refine r_iln C dX7_gives_2 rfl 0 rfl ?_
      refine r_aln C dX7_gives_3 rfl 3 rfl ?_
      refine r_alen C 2 0 rfl rfl dX7_gives_4 ?_
      refine r_icge C (tgt := 25) dX7_gives_5 (by decide) (fun c6 => ?_) (fun c6 => ?_)
      · exact absurd ((nv_lt (a := d2) (b := 12) rfl rfl (by omega) (by omega)).mpr (by omega)) c6
      · skip
        refine r_aln C dX7_gives_8 rfl 3 rfl ?_
        refine r_iln C dX7_gives_9 rfl 0 rfl ?_
        refine r_aln C dX7_gives_10 rfl 1 rfl ?_
        refine gf_X7_61 C 0 rfl rfl dX7_gives_11 ?_
        refine r_iln C dX7_gives_14 rfl 2 rfl ?_
        refine r_iln C dX7_gives_15 rfl 0 rfl ?_
        refine r_iadd C dX7_gives_16 ?_
        refine r_iald C 1 (kk + d2) rfl (nv_add rfl rfl) (by omega) (by decide) rfl dX7_gives_17 ?_
        refine r_iast C (ws2 := wMn12 D o q1 q2 q3 q4 q5 q6 q7 q8 q9 q10 q11 q12 q13 q14 q15 q16 q17 q18 q19 q20 q21 q22 fa pe n la ri td ys ty ap wg rd sm bt up lw ii ig (upd ff_3 d2 (ig (kk + d2)))) h0 rfl 2 d2 rfl rfl (by omega) (by decide) dX7_gives_18 rfl rfl ?_
        refine r_inc C (v := nI (d2 + 1)) (lv' := [(3, .int (nI (d2 + 1))), (0, .ref o), (1, .int (nI kk)), (2, .ref fa)]) dX7_gives_19 0 rfl (inc_nI d2) (by decide) rfl ?_
        refine r_goto C (tgt := 2) dX7_gives_22 (by decide) ?_
        exact ih5 (d2 + 1) (upd ff_3 d2 (ig (kk + d2))) (by omega) hv
  refine r_lve (lv2 := [(3, .int (nI 0)), (0, .ref o), (1, .int (nI kk)), (2, .ref fa)]) (congrArg (fun (z : Int32) => ([(3, .int z), (0, .ref o), (1, .int (nI kk)), (2, .ref fa)] : List (Nat × Value))) rfl) ?_
  exact L7 12 0 ff (by omega) hv

def s_X7_notes48_L2 (ff : Nat → Int32) (kk : Nat) : Nat → Nat → (Nat → Int32) → (Nat → Int32)
  | 0, _, ig_3 => ig_3
  | k1 + 1, d2, ig_3 => (s_X7_notes48_L2 ff kk k1 (d2 + 1) (upd ig_3 (kk + d2) (ff d2)))
def s_X7_notes48 (ig : Nat → Int32) (ff : Nat → Int32) (kk : Nat) : Int32 × (Nat → Int32) := ((nI kk) + (nI 48), (s_X7_notes48_L2 ff kk 48 0 ig))
set_option maxHeartbeats 8000000 in
set_option maxRecDepth 100000 in
theorem c_X7_notes48 (l : Launch) (D : va_G) (o : Nat) (q1 : Nat) (q2 : Nat) (q3 : Nat) (q4 : Nat) (q5 : Nat) (q6 : Nat) (q7 : Nat) (q8 : Nat) (q9 : Nat) (q10 : Nat) (q11 : Nat) (q12 : Nat) (q13 : Nat) (q14 : Nat) (q15 : Nat) (q16 : Nat) (q17 : Nat) (q18 : Nat) (q19 : Nat) (q20 : Nat) (q21 : Nat) (q22 : Nat) (fa : Nat) (pe : Nat) (n : Nat) (la : Int32) (ri : Int32) (td : Int32) (ys : Int32) (ty : Nat) (ap : Nat) (wg : Int32) (rd : Nat) (sm : Int32) (bt : Int32) (up : Int64) (lw : Int64) (ii : Int32) (ig : Nat → Int32) (ff : Nat → Int32) (kk : Nat) (hk1 : kk + 48 ≤ 114) (h0 : va_D (fun _ => True) (wMn48 D o q1 q2 q3 q4 q5 q6 q7 q8 q9 q10 q11 q12 q13 q14 q15 q16 q17 q18 q19 q20 q21 q22 fa pe n la ri td ys ty ap wg rd sm bt up lw ii ig ff)) : ct l yX7_notes cX7_notes 4 (some .int) 0 0 D [.ref o, .ref fa, .int (nI kk)] (wMn48 D o q1 q2 q3 q4 q5 q6 q7 q8 q9 q10 q11 q12 q13 q14 q15 q16 q17 q18 q19 q20 q21 q22 fa pe n la ri td ys ty ap wg rd sm bt up lw ii ig ff) (wMn48 D o q1 q2 q3 q4 q5 q6 q7 q8 q9 q10 q11 q12 q13 q14 q15 q16 q17 q18 q19 q20 q21 q22 fa pe n la ri td ys ty ap wg rd sm bt up lw ii (s_X7_notes48 ig ff kk).2 ff) (Ad (wMn48 D o q1 q2 q3 q4 q5 q6 q7 q8 q9 q10 q11 q12 q13 q14 q15 q16 q17 q18 q19 q20 q21 q22 fa pe n la ri td ys ty ap wg rd sm bt up lw ii ig ff)) (some (Value.int (s_X7_notes48 ig ff kk).1)) := by
  obtain ⟨V, hv⟩ : ∃ V, s_X7_notes48 ig ff kk = V := ⟨_, rfl⟩
  rw [hv]
  refine ct_intro (own := RX7) (lv := [(0, .ref o), (1, .ref fa), (2, .int (nI kk))]) (by decide) rfl (Nat.le_of_ble_eq_true rfl) rfl ?_
  intro p_ e_ s_ m_ below_ meth_ c_ C
  have hv : ((nI kk) + (nI 48), (s_X7_notes48_L2 ff kk 48 0 ig)) = V := hv
  refine r_ic C (v := (0 : Int32)) dX7_notes_0 (by decide) ?_
  refine r_isn C (lv' := [(3, .int (0 : Int32)), (0, .ref o), (1, .ref fa), (2, .int (nI kk))]) dX7_notes_1 rfl (by decide) rfl ?_
  have L7 : ∀ (k1 : Nat) (d2 : Nat) (ig_3 : Nat → Int32), (d2 + k1 = 48) → ((nI kk) + (nI 48), (s_X7_notes48_L2 ff kk k1 d2 ig_3)) = V → GM p_ l e_ s_ m_ below_ meth_ c_ D 0 0 4 [.ref o, .ref fa, .int (nI kk)] (wMn48 D o q1 q2 q3 q4 q5 q6 q7 q8 q9 q10 q11 q12 q13 q14 q15 q16 q17 q18 q19 q20 q21 q22 fa pe n la ri td ys ty ap wg rd sm bt up lw ii V.2 ff) (Ad (wMn48 D o q1 q2 q3 q4 q5 q6 q7 q8 q9 q10 q11 q12 q13 q14 q15 q16 q17 q18 q19 q20 q21 q22 fa pe n la ri td ys ty ap wg rd sm bt up lw ii ig ff)) (some (Value.int V.1)) (wMn48 D o q1 q2 q3 q4 q5 q6 q7 q8 q9 q10 q11 q12 q13 q14 q15 q16 q17 q18 q19 q20 q21 q22 fa pe n la ri td ys ty ap wg rd sm bt up lw ii ig_3 ff) 2 [(3, .int (nI d2)), (0, .ref o), (1, .ref fa), (2, .int (nI kk))] [] := by
    intro k1
    induction k1 with
    | zero =>
      intro d2 ig_3 hk hv
      have hv : ((nI kk) + (nI 48), ig_3) = V := hv
      refine r_iln C dX7_notes_2 rfl 0 rfl ?_
      refine r_aln C dX7_notes_3 rfl 2 rfl ?_
      refine r_alen C 2 0 rfl rfl dX7_notes_4 ?_
      refine r_icge C (tgt := 25) dX7_notes_5 (by decide) (fun c4 => ?_) (fun c4 => ?_)
      · skip
        refine r_iln C dX7_notes_25 rfl 3 rfl ?_
        refine r_aln C dX7_notes_26 rfl 2 rfl ?_
        refine r_alen C 2 0 rfl rfl dX7_notes_27 ?_
        refine r_iadd C dX7_notes_28 ?_
        exact r_iret rfl C (by rw [← hv]) (by rw [← hv]) dX7_notes_29
      · exact absurd c4 (fun z => absurd ((nv_lt (a := d2) (b := 48) rfl rfl (by omega) (by omega)).mp z) (by omega))
    | succ k1 ih5 =>
      intro d2 ig_3 hk hv
      have hv : ((nI kk) + (nI 48), (s_X7_notes48_L2 ff kk k1 (d2 + 1) (upd ig_3 (kk + d2) (ff d2)))) = V := hv
      refine r_iln C dX7_notes_2 rfl 0 rfl ?_
      refine r_aln C dX7_notes_3 rfl 2 rfl ?_
      refine r_alen C 2 0 rfl rfl dX7_notes_4 ?_
      refine r_icge C (tgt := 25) dX7_notes_5 (by decide) (fun c6 => ?_) (fun c6 => ?_)
      · exact absurd ((nv_lt (a := d2) (b := 48) rfl rfl (by omega) (by omega)).mpr (by omega)) c6
      · skip
        refine r_aln C dX7_notes_8 rfl 1 rfl ?_
        refine gf_X7_61 C 0 rfl rfl dX7_notes_9 ?_
        refine r_iln C dX7_notes_12 rfl 3 rfl ?_
        refine r_iln C dX7_notes_13 rfl 0 rfl ?_
        refine r_iadd C dX7_notes_14 ?_
        refine r_aln C dX7_notes_15 rfl 2 rfl ?_
        refine r_iln C dX7_notes_16 rfl 0 rfl ?_
        refine r_iald C 2 d2 rfl rfl (by omega) (by decide) rfl dX7_notes_17 ?_
        refine r_iast C (ws2 := wMn48 D o q1 q2 q3 q4 q5 q6 q7 q8 q9 q10 q11 q12 q13 q14 q15 q16 q17 q18 q19 q20 q21 q22 fa pe n la ri td ys ty ap wg rd sm bt up lw ii (upd ig_3 (kk + d2) (ff d2)) ff) h0 rfl 1 (kk + d2) rfl (nv_add rfl rfl) (by omega) (by decide) dX7_notes_18 rfl rfl ?_
        refine r_inc C (v := nI (d2 + 1)) (lv' := [(3, .int (nI (d2 + 1))), (0, .ref o), (1, .ref fa), (2, .int (nI kk))]) dX7_notes_19 0 rfl (inc_nI d2) (by decide) rfl ?_
        refine r_goto C (tgt := 2) dX7_notes_22 (by decide) ?_
        exact ih5 (d2 + 1) (upd ig_3 (kk + d2) (ff d2)) (by omega) hv
  refine r_lve (lv2 := [(3, .int (nI 0)), (0, .ref o), (1, .ref fa), (2, .int (nI kk))]) (congrArg (fun (z : Int32) => ([(3, .int z), (0, .ref o), (1, .ref fa), (2, .int (nI kk))] : List (Nat × Value))) rfl) ?_
  exact L7 48 0 ig (by omega) hv

def s_X7_gives48_L2 (ig : Nat → Int32) (kk : Nat) : Nat → Nat → (Nat → Int32) → (Nat → Int32)
  | 0, _, ff_3 => ff_3
  | k1 + 1, d2, ff_3 => (s_X7_gives48_L2 ig kk k1 (d2 + 1) (upd ff_3 d2 (ig (kk + d2))))
def s_X7_gives48 (ig : Nat → Int32) (ff : Nat → Int32) (kk : Nat) : Int32 × (Nat → Int32) := ((nI kk) + (nI 48), (s_X7_gives48_L2 ig kk 48 0 ff))
set_option maxHeartbeats 8000000 in
set_option maxRecDepth 100000 in
theorem c_X7_gives48 (l : Launch) (D : va_G) (o : Nat) (q1 : Nat) (q2 : Nat) (q3 : Nat) (q4 : Nat) (q5 : Nat) (q6 : Nat) (q7 : Nat) (q8 : Nat) (q9 : Nat) (q10 : Nat) (q11 : Nat) (q12 : Nat) (q13 : Nat) (q14 : Nat) (q15 : Nat) (q16 : Nat) (q17 : Nat) (q18 : Nat) (q19 : Nat) (q20 : Nat) (q21 : Nat) (q22 : Nat) (fa : Nat) (pe : Nat) (n : Nat) (la : Int32) (ri : Int32) (td : Int32) (ys : Int32) (ty : Nat) (ap : Nat) (wg : Int32) (rd : Nat) (sm : Int32) (bt : Int32) (up : Int64) (lw : Int64) (ii : Int32) (ig : Nat → Int32) (ff : Nat → Int32) (kk : Nat) (hk1 : kk + 48 ≤ 114) (h0 : va_D (fun _ => True) (wMn48 D o q1 q2 q3 q4 q5 q6 q7 q8 q9 q10 q11 q12 q13 q14 q15 q16 q17 q18 q19 q20 q21 q22 fa pe n la ri td ys ty ap wg rd sm bt up lw ii ig ff)) : ct l yX7_gives cX7_gives 4 (some .int) 0 0 D [.ref o, .int (nI kk), .ref fa] (wMn48 D o q1 q2 q3 q4 q5 q6 q7 q8 q9 q10 q11 q12 q13 q14 q15 q16 q17 q18 q19 q20 q21 q22 fa pe n la ri td ys ty ap wg rd sm bt up lw ii ig ff) (wMn48 D o q1 q2 q3 q4 q5 q6 q7 q8 q9 q10 q11 q12 q13 q14 q15 q16 q17 q18 q19 q20 q21 q22 fa pe n la ri td ys ty ap wg rd sm bt up lw ii ig (s_X7_gives48 ig ff kk).2) (Ad (wMn48 D o q1 q2 q3 q4 q5 q6 q7 q8 q9 q10 q11 q12 q13 q14 q15 q16 q17 q18 q19 q20 q21 q22 fa pe n la ri td ys ty ap wg rd sm bt up lw ii ig ff)) (some (Value.int (s_X7_gives48 ig ff kk).1)) := by
  obtain ⟨V, hv⟩ : ∃ V, s_X7_gives48 ig ff kk = V := ⟨_, rfl⟩
  rw [hv]
  refine ct_intro (own := RX7) (lv := [(0, .ref o), (1, .int (nI kk)), (2, .ref fa)]) (by decide) rfl (Nat.le_of_ble_eq_true rfl) rfl ?_
  intro p_ e_ s_ m_ below_ meth_ c_ C
  have hv : ((nI kk) + (nI 48), (s_X7_gives48_L2 ig kk 48 0 ff)) = V := hv
  refine r_ic C (v := (0 : Int32)) dX7_gives_0 (by decide) ?_
  refine r_isn C (lv' := [(3, .int (0 : Int32)), (0, .ref o), (1, .int (nI kk)), (2, .ref fa)]) dX7_gives_1 rfl (by decide) rfl ?_
  have L7 : ∀ (k1 : Nat) (d2 : Nat) (ff_3 : Nat → Int32), (d2 + k1 = 48) → ((nI kk) + (nI 48), (s_X7_gives48_L2 ig kk k1 d2 ff_3)) = V → GM p_ l e_ s_ m_ below_ meth_ c_ D 0 0 4 [.ref o, .int (nI kk), .ref fa] (wMn48 D o q1 q2 q3 q4 q5 q6 q7 q8 q9 q10 q11 q12 q13 q14 q15 q16 q17 q18 q19 q20 q21 q22 fa pe n la ri td ys ty ap wg rd sm bt up lw ii ig V.2) (Ad (wMn48 D o q1 q2 q3 q4 q5 q6 q7 q8 q9 q10 q11 q12 q13 q14 q15 q16 q17 q18 q19 q20 q21 q22 fa pe n la ri td ys ty ap wg rd sm bt up lw ii ig ff)) (some (Value.int V.1)) (wMn48 D o q1 q2 q3 q4 q5 q6 q7 q8 q9 q10 q11 q12 q13 q14 q15 q16 q17 q18 q19 q20 q21 q22 fa pe n la ri td ys ty ap wg rd sm bt up lw ii ig ff_3) 2 [(3, .int (nI d2)), (0, .ref o), (1, .int (nI kk)), (2, .ref fa)] [] := by
    intro k1
    induction k1 with
    | zero =>
      intro d2 ff_3 hk hv
      have hv : ((nI kk) + (nI 48), ff_3) = V := hv
      refine r_iln C dX7_gives_2 rfl 0 rfl ?_
      refine r_aln C dX7_gives_3 rfl 3 rfl ?_
      refine r_alen C 2 0 rfl rfl dX7_gives_4 ?_
      refine r_icge C (tgt := 25) dX7_gives_5 (by decide) (fun c4 => ?_) (fun c4 => ?_)
      · skip
        refine r_iln C dX7_gives_25 rfl 2 rfl ?_
        refine r_aln C dX7_gives_26 rfl 3 rfl ?_
        refine r_alen C 2 0 rfl rfl dX7_gives_27 ?_
        refine r_iadd C dX7_gives_28 ?_
        exact r_iret rfl C (by rw [← hv]) (by rw [← hv]) dX7_gives_29
      · exact absurd c4 (fun z => absurd ((nv_lt (a := d2) (b := 48) rfl rfl (by omega) (by omega)).mp z) (by omega))
    | succ k1 ih5 =>
      intro d2 ff_3 hk hv
      have hv : ((nI kk) + (nI 48), (s_X7_gives48_L2 ig kk k1 (d2 + 1) (upd ff_3 d2 (ig (kk + d2))))) = V := hv
      refine r_iln C dX7_gives_2 rfl 0 rfl ?_
      refine r_aln C dX7_gives_3 rfl 3 rfl ?_
      refine r_alen C 2 0 rfl rfl dX7_gives_4 ?_
      refine r_icge C (tgt := 25) dX7_gives_5 (by decide) (fun c6 => ?_) (fun c6 => ?_)
      · exact absurd ((nv_lt (a := d2) (b := 48) rfl rfl (by omega) (by omega)).mpr (by omega)) c6
      · skip
        refine r_aln C dX7_gives_8 rfl 3 rfl ?_
        refine r_iln C dX7_gives_9 rfl 0 rfl ?_
        refine r_aln C dX7_gives_10 rfl 1 rfl ?_
        refine gf_X7_61 C 0 rfl rfl dX7_gives_11 ?_
        refine r_iln C dX7_gives_14 rfl 2 rfl ?_
        refine r_iln C dX7_gives_15 rfl 0 rfl ?_
        refine r_iadd C dX7_gives_16 ?_
        refine r_iald C 1 (kk + d2) rfl (nv_add rfl rfl) (by omega) (by decide) rfl dX7_gives_17 ?_
        refine r_iast C (ws2 := wMn48 D o q1 q2 q3 q4 q5 q6 q7 q8 q9 q10 q11 q12 q13 q14 q15 q16 q17 q18 q19 q20 q21 q22 fa pe n la ri td ys ty ap wg rd sm bt up lw ii ig (upd ff_3 d2 (ig (kk + d2)))) h0 rfl 2 d2 rfl rfl (by omega) (by decide) dX7_gives_18 rfl rfl ?_
        refine r_inc C (v := nI (d2 + 1)) (lv' := [(3, .int (nI (d2 + 1))), (0, .ref o), (1, .int (nI kk)), (2, .ref fa)]) dX7_gives_19 0 rfl (inc_nI d2) (by decide) rfl ?_
        refine r_goto C (tgt := 2) dX7_gives_22 (by decide) ?_
        exact ih5 (d2 + 1) (upd ff_3 d2 (ig (kk + d2))) (by omega) hv
  refine r_lve (lv2 := [(3, .int (nI 0)), (0, .ref o), (1, .int (nI kk)), (2, .ref fa)]) (congrArg (fun (z : Int32) => ([(3, .int z), (0, .ref o), (1, .int (nI kk)), (2, .ref fa)] : List (Nat × Value))) rfl) ?_
  exact L7 48 0 ff (by omega) hv

theorem nt12_1 {ig ff : Nat → Int32} {a b : Nat} (h : a + 12 = b) : (s_X7_notes12 ig ff a).1 = nI b := by rw [← h, ← nI_add]; rfl
theorem gv12_1 {ig ff : Nat → Int32} {a b : Nat} (h : a + 12 = b) : (s_X7_gives12 ig ff a).1 = nI b := by rw [← h, ← nI_add]; rfl
def s_X7_image (pe : Nat) (n : Nat) (la : Int32) (ri : Int32) (td : Int32) (ys : Int32) (kd : Nat → Int32) (dy : Nat → Int32) (nd : Nat → Int32) (co : Nat → Int32) (od : Nat → Int32) (wo : Nat → Int32) (ig : Nat → Int32) : Int32 × Int32 × (Nat → Int32) := ((1 : Int32), (1 : Int32), (s_X7_notes48 ((s_X7_notes12 ((s_X7_notes12 ((s_X7_notes12 ((s_X7_notes12 ((s_X7_notes12 (upd (upd (upd (upd (upd (upd ig 0 (nI pe)) 1 (nI n)) 2 la) 3 ri) 4 td) 5 ys) kd 6).2) dy 18).2) nd 30).2) co 42).2) od 54).2) wo 66).2)
set_option maxHeartbeats 8000000 in
set_option maxRecDepth 100000 in
theorem c_X7_image (l : Launch) (D : va_G) (o : Nat) (q1 : Nat) (q2 : Nat) (q3 : Nat) (q4 : Nat) (q5 : Nat) (q6 : Nat) (q7 : Nat) (q8 : Nat) (q9 : Nat) (q10 : Nat) (q11 : Nat) (q12 : Nat) (q13 : Nat) (q14 : Nat) (q15 : Nat) (q16 : Nat) (q17 : Nat) (q18 : Nat) (q19 : Nat) (q20 : Nat) (q21 : Nat) (q22 : Nat) (pe : Nat) (n : Nat) (la : Int32) (ri : Int32) (td : Int32) (ys : Int32) (ty : Nat) (ap : Nat) (wg : Int32) (rd : Nat) (sm : Int32) (bt : Int32) (up : Int64) (lw : Int64) (ii : Int32) (kd : Nat → Int32) (dy : Nat → Int32) (nd : Nat → Int32) (co : Nat → Int32) (od : Nat → Int32) (wo : Nat → Int32) (tp : Nat → Int32) (rk : Nat → Int32) (ry : Nat → Int32) (rn : Nat → Int32) (vs : Nat → Int32) (bs : Nat → Int32) (ch : Nat → Int32) (tr : Nat → Int32) (en : Nat → Int32) (du : Nat → Int32) (ol : Nat → Int32) (ig : Nat → Int32) (ln : Nat → Int32) (sz : Nat → Int32) (it : Nat → Int64) (mo : Nat → Int64) (h0 : va_D (fun _ => True) (wM D o q1 q2 q3 q4 q5 q6 q7 q8 q9 q10 q11 q12 q13 q14 q15 q16 q17 q18 q19 q20 q21 q22 pe n la ri td ys ty ap wg rd sm bt up lw ii kd dy nd co od wo tp rk ry rn vs bs ch tr en du ol ig ln sz it mo)) : ct l yX7_image cX7_image 2 (some .int) 1 23 D [.ref o] (wM D o q1 q2 q3 q4 q5 q6 q7 q8 q9 q10 q11 q12 q13 q14 q15 q16 q17 q18 q19 q20 q21 q22 pe n la ri td ys ty ap wg rd sm bt up lw ii kd dy nd co od wo tp rk ry rn vs bs ch tr en du ol ig ln sz it mo) (wM D o q1 q2 q3 q4 q5 q6 q7 q8 q9 q10 q11 q12 q13 q14 q15 q16 q17 q18 q19 q20 q21 q22 pe n la ri td ys ty ap wg rd sm bt up lw (s_X7_image pe n la ri td ys kd dy nd co od wo ig).2.1 kd dy nd co od wo tp rk ry rn vs bs ch tr en du ol (s_X7_image pe n la ri td ys kd dy nd co od wo ig).2.2 ln sz it mo) (Ad (wM D o q1 q2 q3 q4 q5 q6 q7 q8 q9 q10 q11 q12 q13 q14 q15 q16 q17 q18 q19 q20 q21 q22 pe n la ri td ys ty ap wg rd sm bt up lw ii kd dy nd co od wo tp rk ry rn vs bs ch tr en du ol ig ln sz it mo)) (some (Value.int (s_X7_image pe n la ri td ys kd dy nd co od wo ig).1)) := by
  obtain ⟨V, hv⟩ : ∃ V, s_X7_image pe n la ri td ys kd dy nd co od wo ig = V := ⟨_, rfl⟩
  rw [hv]
  refine ct_intro (own := RX7) (lv := [(0, .ref o)]) (by decide) rfl (Nat.le_of_ble_eq_true rfl) rfl ?_
  intro p_ e_ s_ m_ below_ meth_ c_ C
  have hv : ((1 : Int32), (1 : Int32), (s_X7_notes48 ((s_X7_notes12 ((s_X7_notes12 ((s_X7_notes12 ((s_X7_notes12 ((s_X7_notes12 (upd (upd (upd (upd (upd (upd ig 0 (nI pe)) 1 (nI n)) 2 la) 3 ri) 4 td) 5 ys) kd 6).2) dy 18).2) nd 30).2) co 42).2) od 54).2) wo 66).2) = V := hv
  refine r_aln C dX7_image_0 rfl 0 rfl ?_
  refine gf_X7_61 C 0 rfl rfl dX7_image_1 ?_
  refine r_ic C (v := (0 : Int32)) dX7_image_4 (by decide) ?_
  refine r_aln C dX7_image_5 rfl 0 rfl ?_
  refine gf_X7_77 C 0 rfl rfl dX7_image_6 ?_
  refine r_iast C (ws2 := wM D o q1 q2 q3 q4 q5 q6 q7 q8 q9 q10 q11 q12 q13 q14 q15 q16 q17 q18 q19 q20 q21 q22 pe n la ri td ys ty ap wg rd sm bt up lw ii kd dy nd co od wo tp rk ry rn vs bs ch tr en du ol (upd ig 0 (nI pe)) ln sz it mo) h0 rfl 18 0 rfl rfl (by omega) (by decide) dX7_image_9 rfl rfl ?_
  refine r_aln C dX7_image_10 rfl 0 rfl ?_
  refine gf_X7_61 C 0 rfl rfl dX7_image_11 ?_
  refine r_ic C (v := (1 : Int32)) dX7_image_14 (by decide) ?_
  refine r_aln C dX7_image_15 rfl 0 rfl ?_
  refine gf_X7_84 C 0 rfl rfl dX7_image_16 ?_
  refine r_iast C (ws2 := wM D o q1 q2 q3 q4 q5 q6 q7 q8 q9 q10 q11 q12 q13 q14 q15 q16 q17 q18 q19 q20 q21 q22 pe n la ri td ys ty ap wg rd sm bt up lw ii kd dy nd co od wo tp rk ry rn vs bs ch tr en du ol (upd (upd ig 0 (nI pe)) 1 (nI n)) ln sz it mo) h0 rfl 18 1 rfl rfl (by omega) (by decide) dX7_image_19 rfl rfl ?_
  refine r_aln C dX7_image_20 rfl 0 rfl ?_
  refine gf_X7_61 C 0 rfl rfl dX7_image_21 ?_
  refine r_ic C (v := (2 : Int32)) dX7_image_24 (by decide) ?_
  refine r_aln C dX7_image_25 rfl 0 rfl ?_
  refine gf_X7_116 C 0 rfl rfl dX7_image_26 ?_
  refine r_iast C (ws2 := wM D o q1 q2 q3 q4 q5 q6 q7 q8 q9 q10 q11 q12 q13 q14 q15 q16 q17 q18 q19 q20 q21 q22 pe n la ri td ys ty ap wg rd sm bt up lw ii kd dy nd co od wo tp rk ry rn vs bs ch tr en du ol (upd (upd (upd ig 0 (nI pe)) 1 (nI n)) 2 la) ln sz it mo) h0 rfl 18 2 rfl rfl (by omega) (by decide) dX7_image_29 rfl rfl ?_
  refine r_aln C dX7_image_30 rfl 0 rfl ?_
  refine gf_X7_61 C 0 rfl rfl dX7_image_31 ?_
  refine r_ic C (v := (3 : Int32)) dX7_image_34 (by decide) ?_
  refine r_aln C dX7_image_35 rfl 0 rfl ?_
  refine gf_X7_113 C 0 rfl rfl dX7_image_36 ?_
  refine r_iast C (ws2 := wM D o q1 q2 q3 q4 q5 q6 q7 q8 q9 q10 q11 q12 q13 q14 q15 q16 q17 q18 q19 q20 q21 q22 pe n la ri td ys ty ap wg rd sm bt up lw ii kd dy nd co od wo tp rk ry rn vs bs ch tr en du ol (upd (upd (upd (upd ig 0 (nI pe)) 1 (nI n)) 2 la) 3 ri) ln sz it mo) h0 rfl 18 3 rfl rfl (by omega) (by decide) dX7_image_39 rfl rfl ?_
  refine r_aln C dX7_image_40 rfl 0 rfl ?_
  refine gf_X7_61 C 0 rfl rfl dX7_image_41 ?_
  refine r_ic C (v := (4 : Int32)) dX7_image_44 (by decide) ?_
  refine r_aln C dX7_image_45 rfl 0 rfl ?_
  refine gf_X7_81 C 0 rfl rfl dX7_image_46 ?_
  refine r_iast C (ws2 := wM D o q1 q2 q3 q4 q5 q6 q7 q8 q9 q10 q11 q12 q13 q14 q15 q16 q17 q18 q19 q20 q21 q22 pe n la ri td ys ty ap wg rd sm bt up lw ii kd dy nd co od wo tp rk ry rn vs bs ch tr en du ol (upd (upd (upd (upd (upd ig 0 (nI pe)) 1 (nI n)) 2 la) 3 ri) 4 td) ln sz it mo) h0 rfl 18 4 rfl rfl (by omega) (by decide) dX7_image_49 rfl rfl ?_
  refine r_aln C dX7_image_50 rfl 0 rfl ?_
  refine gf_X7_61 C 0 rfl rfl dX7_image_51 ?_
  refine r_ic C (v := (5 : Int32)) dX7_image_54 (by decide) ?_
  refine r_aln C dX7_image_55 rfl 0 rfl ?_
  refine gf_X7_131 C 0 rfl rfl dX7_image_56 ?_
  refine r_iast C (ws2 := wM D o q1 q2 q3 q4 q5 q6 q7 q8 q9 q10 q11 q12 q13 q14 q15 q16 q17 q18 q19 q20 q21 q22 pe n la ri td ys ty ap wg rd sm bt up lw ii kd dy nd co od wo tp rk ry rn vs bs ch tr en du ol (upd (upd (upd (upd (upd (upd ig 0 (nI pe)) 1 (nI n)) 2 la) 3 ri) 4 td) 5 ys) ln sz it mo) h0 rfl 18 5 rfl rfl (by omega) (by decide) dX7_image_59 rfl rfl ?_
  refine r_aln C dX7_image_60 rfl 0 rfl ?_
  refine r_aln C dX7_image_61 rfl 0 rfl ?_
  refine gf_X7_7 C 0 rfl rfl dX7_image_62 ?_
  refine r_bp C (v := (6 : Int32)) dX7_image_65 (by decide) ?_
  refine r_stk (st2 := [.int (nI 6), .ref q1, .ref o]) (congrArg (fun (z : Int32) => ([.int z, .ref q1, .ref o] : List Value)) rfl) ?_
  refine aft_wr (ws2 := wM D o q1 q2 q3 q4 q5 q6 q7 q8 q9 q10 q11 q12 q13 q14 q15 q16 q17 q18 q19 q20 q21 q22 pe n la ri td ys ty ap wg rd sm bt up lw ii kd dy nd co od wo tp rk ry rn vs bs ch tr en du ol ((s_X7_notes12 (upd (upd (upd (upd (upd (upd ig 0 (nI pe)) 1 (nI n)) 2 la) 3 ri) 4 td) 5 ys) kd 6).2) ln sz it mo) (st' := [.int ((s_X7_notes12 (upd (upd (upd (upd (upd (upd ig 0 (nI pe)) 1 (nI n)) 2 la) 3 ri) 4 td) 5 ys) kd 6).1)]) h0 rfl [0, 18, 1] (run_V (rest := []) C (c_X7_notes12 l D o q1 q2 q3 q4 q5 q6 q7 q8 q9 q10 q11 q12 q13 q14 q15 q16 q17 q18 q19 q20 q21 q22 q1 pe n la ri td ys ty ap wg rd sm bt up lw ii (upd (upd (upd (upd (upd (upd ig 0 (nI pe)) 1 (nI n)) 2 la) 3 ri) 4 td) 5 ys) kd 6 (by omega) (dis_sub h0 [0, 18, 1] (by decide) rfl)) ok_X7_notes wn_X7_notes wl_X7_notes wm_X7_217 [0, 18, 1] 0 rfl rfl rfl ⟨Nat.le_of_ble_eq_true rfl, Nat.le_of_ble_eq_true rfl⟩ rfl rfl (Nat.le_of_ble_eq_true rfl) dX7_image_67) rfl rfl rfl rfl rfl ?_
  refine r_top (nt12_1 rfl) ?_
  refine r_isn C (lv' := [(1, .int (nI 18)), (0, .ref o)]) dX7_image_70 rfl (by decide) rfl ?_
  refine r_aln C dX7_image_71 rfl 1 rfl ?_
  refine r_aln C dX7_image_72 rfl 1 rfl ?_
  refine gf_X7_13 C 0 rfl rfl dX7_image_73 ?_
  refine r_iln C dX7_image_76 rfl 0 rfl ?_
  refine aft_wr (ws2 := wM D o q1 q2 q3 q4 q5 q6 q7 q8 q9 q10 q11 q12 q13 q14 q15 q16 q17 q18 q19 q20 q21 q22 pe n la ri td ys ty ap wg rd sm bt up lw ii kd dy nd co od wo tp rk ry rn vs bs ch tr en du ol ((s_X7_notes12 ((s_X7_notes12 (upd (upd (upd (upd (upd (upd ig 0 (nI pe)) 1 (nI n)) 2 la) 3 ri) 4 td) 5 ys) kd 6).2) dy 18).2) ln sz it mo) (st' := [.int ((s_X7_notes12 ((s_X7_notes12 (upd (upd (upd (upd (upd (upd ig 0 (nI pe)) 1 (nI n)) 2 la) 3 ri) 4 td) 5 ys) kd 6).2) dy 18).1)]) h0 rfl [0, 18, 2] (run_V (rest := []) C (c_X7_notes12 l D o q1 q2 q3 q4 q5 q6 q7 q8 q9 q10 q11 q12 q13 q14 q15 q16 q17 q18 q19 q20 q21 q22 q2 pe n la ri td ys ty ap wg rd sm bt up lw ii ((s_X7_notes12 (upd (upd (upd (upd (upd (upd ig 0 (nI pe)) 1 (nI n)) 2 la) 3 ri) 4 td) 5 ys) kd 6).2) dy 18 (by omega) (dis_sub h0 [0, 18, 2] (by decide) rfl)) ok_X7_notes wn_X7_notes wl_X7_notes wm_X7_217 [0, 18, 2] 0 rfl rfl rfl ⟨Nat.le_of_ble_eq_true rfl, Nat.le_of_ble_eq_true rfl⟩ rfl rfl (Nat.le_of_ble_eq_true rfl) dX7_image_77) rfl rfl rfl rfl rfl ?_
  refine r_top (nt12_1 rfl) ?_
  refine r_isn C (lv' := [(1, .int (nI 30)), (0, .ref o)]) dX7_image_80 rfl (by decide) rfl ?_
  refine r_aln C dX7_image_81 rfl 1 rfl ?_
  refine r_aln C dX7_image_82 rfl 1 rfl ?_
  refine gf_X7_16 C 0 rfl rfl dX7_image_83 ?_
  refine r_iln C dX7_image_86 rfl 0 rfl ?_
  refine aft_wr (ws2 := wM D o q1 q2 q3 q4 q5 q6 q7 q8 q9 q10 q11 q12 q13 q14 q15 q16 q17 q18 q19 q20 q21 q22 pe n la ri td ys ty ap wg rd sm bt up lw ii kd dy nd co od wo tp rk ry rn vs bs ch tr en du ol ((s_X7_notes12 ((s_X7_notes12 ((s_X7_notes12 (upd (upd (upd (upd (upd (upd ig 0 (nI pe)) 1 (nI n)) 2 la) 3 ri) 4 td) 5 ys) kd 6).2) dy 18).2) nd 30).2) ln sz it mo) (st' := [.int ((s_X7_notes12 ((s_X7_notes12 ((s_X7_notes12 (upd (upd (upd (upd (upd (upd ig 0 (nI pe)) 1 (nI n)) 2 la) 3 ri) 4 td) 5 ys) kd 6).2) dy 18).2) nd 30).1)]) h0 rfl [0, 18, 3] (run_V (rest := []) C (c_X7_notes12 l D o q1 q2 q3 q4 q5 q6 q7 q8 q9 q10 q11 q12 q13 q14 q15 q16 q17 q18 q19 q20 q21 q22 q3 pe n la ri td ys ty ap wg rd sm bt up lw ii ((s_X7_notes12 ((s_X7_notes12 (upd (upd (upd (upd (upd (upd ig 0 (nI pe)) 1 (nI n)) 2 la) 3 ri) 4 td) 5 ys) kd 6).2) dy 18).2) nd 30 (by omega) (dis_sub h0 [0, 18, 3] (by decide) rfl)) ok_X7_notes wn_X7_notes wl_X7_notes wm_X7_217 [0, 18, 3] 0 rfl rfl rfl ⟨Nat.le_of_ble_eq_true rfl, Nat.le_of_ble_eq_true rfl⟩ rfl rfl (Nat.le_of_ble_eq_true rfl) dX7_image_87) rfl rfl rfl rfl rfl ?_
  refine r_top (nt12_1 rfl) ?_
  refine r_isn C (lv' := [(1, .int (nI 42)), (0, .ref o)]) dX7_image_90 rfl (by decide) rfl ?_
  refine r_aln C dX7_image_91 rfl 1 rfl ?_
  refine r_aln C dX7_image_92 rfl 1 rfl ?_
  refine gf_X7_19 C 0 rfl rfl dX7_image_93 ?_
  refine r_iln C dX7_image_96 rfl 0 rfl ?_
  refine aft_wr (ws2 := wM D o q1 q2 q3 q4 q5 q6 q7 q8 q9 q10 q11 q12 q13 q14 q15 q16 q17 q18 q19 q20 q21 q22 pe n la ri td ys ty ap wg rd sm bt up lw ii kd dy nd co od wo tp rk ry rn vs bs ch tr en du ol ((s_X7_notes12 ((s_X7_notes12 ((s_X7_notes12 ((s_X7_notes12 (upd (upd (upd (upd (upd (upd ig 0 (nI pe)) 1 (nI n)) 2 la) 3 ri) 4 td) 5 ys) kd 6).2) dy 18).2) nd 30).2) co 42).2) ln sz it mo) (st' := [.int ((s_X7_notes12 ((s_X7_notes12 ((s_X7_notes12 ((s_X7_notes12 (upd (upd (upd (upd (upd (upd ig 0 (nI pe)) 1 (nI n)) 2 la) 3 ri) 4 td) 5 ys) kd 6).2) dy 18).2) nd 30).2) co 42).1)]) h0 rfl [0, 18, 4] (run_V (rest := []) C (c_X7_notes12 l D o q1 q2 q3 q4 q5 q6 q7 q8 q9 q10 q11 q12 q13 q14 q15 q16 q17 q18 q19 q20 q21 q22 q4 pe n la ri td ys ty ap wg rd sm bt up lw ii ((s_X7_notes12 ((s_X7_notes12 ((s_X7_notes12 (upd (upd (upd (upd (upd (upd ig 0 (nI pe)) 1 (nI n)) 2 la) 3 ri) 4 td) 5 ys) kd 6).2) dy 18).2) nd 30).2) co 42 (by omega) (dis_sub h0 [0, 18, 4] (by decide) rfl)) ok_X7_notes wn_X7_notes wl_X7_notes wm_X7_217 [0, 18, 4] 0 rfl rfl rfl ⟨Nat.le_of_ble_eq_true rfl, Nat.le_of_ble_eq_true rfl⟩ rfl rfl (Nat.le_of_ble_eq_true rfl) dX7_image_97) rfl rfl rfl rfl rfl ?_
  refine r_top (nt12_1 rfl) ?_
  refine r_isn C (lv' := [(1, .int (nI 54)), (0, .ref o)]) dX7_image_100 rfl (by decide) rfl ?_
  refine r_aln C dX7_image_101 rfl 1 rfl ?_
  refine r_aln C dX7_image_102 rfl 1 rfl ?_
  refine gf_X7_22 C 0 rfl rfl dX7_image_103 ?_
  refine r_iln C dX7_image_106 rfl 0 rfl ?_
  refine aft_wr (ws2 := wM D o q1 q2 q3 q4 q5 q6 q7 q8 q9 q10 q11 q12 q13 q14 q15 q16 q17 q18 q19 q20 q21 q22 pe n la ri td ys ty ap wg rd sm bt up lw ii kd dy nd co od wo tp rk ry rn vs bs ch tr en du ol ((s_X7_notes12 ((s_X7_notes12 ((s_X7_notes12 ((s_X7_notes12 ((s_X7_notes12 (upd (upd (upd (upd (upd (upd ig 0 (nI pe)) 1 (nI n)) 2 la) 3 ri) 4 td) 5 ys) kd 6).2) dy 18).2) nd 30).2) co 42).2) od 54).2) ln sz it mo) (st' := [.int ((s_X7_notes12 ((s_X7_notes12 ((s_X7_notes12 ((s_X7_notes12 ((s_X7_notes12 (upd (upd (upd (upd (upd (upd ig 0 (nI pe)) 1 (nI n)) 2 la) 3 ri) 4 td) 5 ys) kd 6).2) dy 18).2) nd 30).2) co 42).2) od 54).1)]) h0 rfl [0, 18, 5] (run_V (rest := []) C (c_X7_notes12 l D o q1 q2 q3 q4 q5 q6 q7 q8 q9 q10 q11 q12 q13 q14 q15 q16 q17 q18 q19 q20 q21 q22 q5 pe n la ri td ys ty ap wg rd sm bt up lw ii ((s_X7_notes12 ((s_X7_notes12 ((s_X7_notes12 ((s_X7_notes12 (upd (upd (upd (upd (upd (upd ig 0 (nI pe)) 1 (nI n)) 2 la) 3 ri) 4 td) 5 ys) kd 6).2) dy 18).2) nd 30).2) co 42).2) od 54 (by omega) (dis_sub h0 [0, 18, 5] (by decide) rfl)) ok_X7_notes wn_X7_notes wl_X7_notes wm_X7_217 [0, 18, 5] 0 rfl rfl rfl ⟨Nat.le_of_ble_eq_true rfl, Nat.le_of_ble_eq_true rfl⟩ rfl rfl (Nat.le_of_ble_eq_true rfl) dX7_image_107) rfl rfl rfl rfl rfl ?_
  refine r_top (nt12_1 rfl) ?_
  refine r_isn C (lv' := [(1, .int (nI 66)), (0, .ref o)]) dX7_image_110 rfl (by decide) rfl ?_
  refine r_aln C dX7_image_111 rfl 1 rfl ?_
  refine r_aln C dX7_image_112 rfl 1 rfl ?_
  refine gf_X7_25 C 0 rfl rfl dX7_image_113 ?_
  refine r_iln C dX7_image_116 rfl 0 rfl ?_
  refine aft_wr (ws2 := wM D o q1 q2 q3 q4 q5 q6 q7 q8 q9 q10 q11 q12 q13 q14 q15 q16 q17 q18 q19 q20 q21 q22 pe n la ri td ys ty ap wg rd sm bt up lw ii kd dy nd co od wo tp rk ry rn vs bs ch tr en du ol ((s_X7_notes48 ((s_X7_notes12 ((s_X7_notes12 ((s_X7_notes12 ((s_X7_notes12 ((s_X7_notes12 (upd (upd (upd (upd (upd (upd ig 0 (nI pe)) 1 (nI n)) 2 la) 3 ri) 4 td) 5 ys) kd 6).2) dy 18).2) nd 30).2) co 42).2) od 54).2) wo 66).2) ln sz it mo) (st' := [.int ((s_X7_notes48 ((s_X7_notes12 ((s_X7_notes12 ((s_X7_notes12 ((s_X7_notes12 ((s_X7_notes12 (upd (upd (upd (upd (upd (upd ig 0 (nI pe)) 1 (nI n)) 2 la) 3 ri) 4 td) 5 ys) kd 6).2) dy 18).2) nd 30).2) co 42).2) od 54).2) wo 66).1)]) h0 rfl [0, 18, 6] (run_V (rest := []) C (c_X7_notes48 l D o q1 q2 q3 q4 q5 q6 q7 q8 q9 q10 q11 q12 q13 q14 q15 q16 q17 q18 q19 q20 q21 q22 q6 pe n la ri td ys ty ap wg rd sm bt up lw ii ((s_X7_notes12 ((s_X7_notes12 ((s_X7_notes12 ((s_X7_notes12 ((s_X7_notes12 (upd (upd (upd (upd (upd (upd ig 0 (nI pe)) 1 (nI n)) 2 la) 3 ri) 4 td) 5 ys) kd 6).2) dy 18).2) nd 30).2) co 42).2) od 54).2) wo 66 (by omega) (dis_sub h0 [0, 18, 6] (by decide) rfl)) ok_X7_notes wn_X7_notes wl_X7_notes wm_X7_217 [0, 18, 6] 0 rfl rfl rfl ⟨Nat.le_of_ble_eq_true rfl, Nat.le_of_ble_eq_true rfl⟩ rfl rfl (Nat.le_of_ble_eq_true rfl) dX7_image_117) rfl rfl rfl rfl rfl ?_
  refine r_pop C dX7_image_120 rfl ?_
  refine r_aln C dX7_image_121 rfl 1 rfl ?_
  refine r_ic C (v := (1 : Int32)) dX7_image_122 (by decide) ?_
  refine pf_X7_221 C (ws2 := wM D o q1 q2 q3 q4 q5 q6 q7 q8 q9 q10 q11 q12 q13 q14 q15 q16 q17 q18 q19 q20 q21 q22 pe n la ri td ys ty ap wg rd sm bt up lw (1 : Int32) kd dy nd co od wo tp rk ry rn vs bs ch tr en du ol ((s_X7_notes48 ((s_X7_notes12 ((s_X7_notes12 ((s_X7_notes12 ((s_X7_notes12 ((s_X7_notes12 (upd (upd (upd (upd (upd (upd ig 0 (nI pe)) 1 (nI n)) 2 la) 3 ri) 4 td) 5 ys) kd 6).2) dy 18).2) nd 30).2) co 42).2) od 54).2) wo 66).2) ln sz it mo) h0 rfl 0 rfl (Nat.le_of_ble_eq_true rfl) rfl rfl dX7_image_123 rfl rfl ?_
  refine r_ic C (v := (1 : Int32)) dX7_image_126 (by decide) ?_
  exact r_iret rfl C (by rw [← hv]) (by rw [← hv]) dX7_image_127

