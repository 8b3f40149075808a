theorem nz0 : narrow .boolean (.int (0 : Int32)) = .int 0 := rfl
theorem nz1 : narrow .boolean (.int (1 : Int32)) = .int 1 := rfl
abbrev wTY (D : va_G) (t0 t1 h a1 a2 a3 a4 a5 a6 : Nat) (ty : Nat) (aw : Int32) (tk : Int32) (le : Nat → Int32) (pe : Nat) (n : Nat) (td : Int32) (ys : Int32) (la : Int32) (ri : Int32) (kd : Nat → Int32) (dy : Nat → Int32) (nd : Nat → Int32) (co : Nat → Int32) (od : Nat → Int32) (wo : Nat → Int32) : va_W := [(t0, .inr (1, [.ref t1, .int (nI ty), .int aw, .int tk])), (t1, .inl (D.1 12, 80, .inl le)), (h, .inr (0, [.int (nI pe), .int (nI n), .int td, .int ys, .int la, .int ri, .ref a1, .ref a2, .ref a3, .ref a4, .ref a5, .ref a6])), (a1, .inl (D.1 10, 12, .inl kd)), (a2, .inl (D.1 10, 12, .inl dy)), (a3, .inl (D.1 10, 12, .inl nd)), (a4, .inl (D.1 10, 12, .inl co)), (a5, .inl (D.1 10, 12, .inl od)), (a6, .inl (D.1 10, 48, .inl wo))]
def s_X3_add (ty : Nat) (le : Nat → Int32) (letter : Int32) : Int32 × Nat × (Nat → Int32) := (if nI ty < nI 80 then ((1 : Int32), ty + 1, upd le ty (vp_nar .char letter)) else ((0 : Int32), ty, le))
set_option maxHeartbeats 8000000 in
set_option maxRecDepth 100000 in
theorem c_X3_add (l : Launch) (D : va_G) (t0 : Nat) (t1 : Nat) (ty : Nat) (aw : Int32) (tk : Int32) (le : Nat → Int32) (letter : Int32) (hty : ty ≤ 80) (h0 : va_D (fun _ => True) (wT D t0 t1 ty aw tk le)) : ct l yX3_add cX3_add 2 (some .boolean) 0 0 D [.ref t0, .int letter] (wT D t0 t1 ty aw tk le) (wT D t0 t1 (s_X3_add ty le letter).2.1 aw tk (s_X3_add ty le letter).2.2) (Ad (wT D t0 t1 ty aw tk le)) (some (Value.int (s_X3_add ty le letter).1)) := by
  obtain ⟨V, hv⟩ : ∃ V, s_X3_add ty le letter = V := ⟨_, rfl⟩
  rw [hv]
  refine ct_intro (own := RX3) (lv := [(0, .ref t0), (1, .int letter)]) (by decide) rfl (Nat.le_of_ble_eq_true rfl) rfl ?_
  intro p_ e_ s_ m_ below_ meth_ c_ C
  have hv : (if nI ty < nI 80 then ((1 : Int32), ty + 1, upd le ty (vp_nar .char letter)) else ((0 : Int32), ty, le)) = V := hv
  refine r_aln C dX3_add_0 rfl 0 rfl ?_
  refine gf_X3_15 C 0 rfl rfl dX3_add_1 ?_
  refine r_aln C dX3_add_4 rfl 0 rfl ?_
  refine gf_X3_9 C 0 rfl rfl dX3_add_5 ?_
  refine r_alen C 1 2 rfl rfl dX3_add_8 ?_
  refine r_iclt C (tgt := 14) dX3_add_9 (by decide) (fun c1 => ?_) (fun c1 => ?_)
  · rw [if_pos c1] at hv
    have fc1 : ty < 80 := (nv_lt (a := ty) (b := 80) rfl rfl (by omega) (by omega)).mp c1
    refine r_aln C dX3_add_14 rfl 0 rfl ?_
    refine gf_X3_9 C 0 rfl rfl dX3_add_15 ?_
    refine r_aln C dX3_add_18 rfl 0 rfl ?_
    refine gf_X3_15 C 0 rfl rfl dX3_add_19 ?_
    refine r_iln C dX3_add_22 rfl 1 rfl ?_
    refine r_cast C (ws2 := wT D t0 t1 ty aw tk (upd le ty (vp_nar .char letter))) h0 rfl 1 ty rfl rfl (by omega) (by decide) dX3_add_23 rfl rfl ?_
    refine r_aln C dX3_add_24 rfl 0 rfl ?_
    refine r_dup C dX3_add_25 rfl ?_
    refine gf_X3_15 C 0 rfl rfl dX3_add_26 ?_
    refine r_ic C (v := (1 : Int32)) dX3_add_29 (by decide) ?_
    refine r_iadd C dX3_add_30 ?_
    refine r_top (nv_add rfl rfl) ?_
    refine pf_X3_15 C (ws2 := wT D t0 t1 (ty + 1) aw tk (upd le ty (vp_nar .char letter))) h0 rfl 0 rfl (Nat.le_of_ble_eq_true rfl) dX3_add_31 rfl rfl ?_
    refine r_ic C (v := (1 : Int32)) dX3_add_34 (by decide) ?_
    exact r_zret rfl C rfl (by rw [← hv]) (by rw [← hv]) dX3_add_35
  · rw [if_neg c1] at hv
    have fc1 : ¬ (ty < 80) := fun z => c1 ((nv_lt (a := ty) (b := 80) rfl rfl (by omega) (by omega)).mpr z)
    refine r_ic C (v := (0 : Int32)) dX3_add_12 (by decide) ?_
    exact r_zret rfl C rfl (by rw [← hv]) (by rw [← hv]) dX3_add_13

def s_X3_takesKind (aw : Int32) (tk : Int32) (letter : Int32) : Int32 × Int32 × Int32 := (if letter = (97 : Int32) then ((1 : Int32), (1 : Int32), (1 : Int32)) else (if letter = (104 : Int32) then ((1 : Int32), (1 : Int32), (3 : Int32)) else (if letter = (112 : Int32) then ((1 : Int32), (1 : Int32), (0 : Int32)) else (if letter = (115 : Int32) then ((1 : Int32), (1 : Int32), (2 : Int32)) else ((0 : Int32), aw, tk)))))
set_option maxHeartbeats 8000000 in
set_option maxRecDepth 100000 in
theorem c_X3_takesKind (l : Launch) (D : va_G) (t0 : Nat) (t1 : Nat) (ty : Nat) (aw : Int32) (tk : Int32) (le : Nat → Int32) (letter : Int32) (h0 : va_D (fun _ => True) (wT D t0 t1 ty aw tk le)) : ct l yX3_takesKind cX3_takesKind 2 (some .boolean) 0 0 D [.ref t0, .int letter] (wT D t0 t1 ty aw tk le) (wT D t0 t1 ty (s_X3_takesKind aw tk letter).2.1 (s_X3_takesKind aw tk letter).2.2 le) (Ad (wT D t0 t1 ty aw tk le)) (some (Value.int (s_X3_takesKind aw tk letter).1)) := by
  obtain ⟨V, hv⟩ : ∃ V, s_X3_takesKind aw tk letter = V := ⟨_, rfl⟩
  rw [hv]
  refine ct_intro (own := RX3) (lv := [(0, .ref t0), (1, .int letter)]) (by decide) rfl (Nat.le_of_ble_eq_true rfl) rfl ?_
  intro p_ e_ s_ m_ below_ meth_ c_ C
  have hv : (if letter = (97 : Int32) then ((1 : Int32), (1 : Int32), (1 : Int32)) else (if letter = (104 : Int32) then ((1 : Int32), (1 : Int32), (3 : Int32)) else (if letter = (112 : Int32) then ((1 : Int32), (1 : Int32), (0 : Int32)) else (if letter = (115 : Int32) then ((1 : Int32), (1 : Int32), (2 : Int32)) else ((0 : Int32), aw, tk))))) = V := hv
  refine r_iln C dX3_takesKind_0 rfl 1 rfl ?_
  by_cases c1 : letter = (97 : Int32)
  · rw [if_pos c1] at hv
    refine r_look C (tgt := 52) (off := 51) dX3_takesKind_1 (by decide) (by rw [c1]; decide) (by decide) ?_
    refine r_aln C dX3_takesKind_52 rfl 0 rfl ?_
    refine r_ic C (v := (1 : Int32)) dX3_takesKind_53 (by decide) ?_
    refine pf_X3_22 C (ws2 := wT D t0 t1 ty aw (1 : Int32) le) h0 rfl 0 rfl (Nat.le_of_ble_eq_true rfl) dX3_takesKind_54 rfl rfl ?_
    refine r_goto C (tgt := 78) dX3_takesKind_57 (by decide) ?_
    refine r_aln C dX3_takesKind_78 rfl 0 rfl ?_
    refine r_ic C (v := (1 : Int32)) dX3_takesKind_79 (by decide) ?_
    refine pf_X3_19 C (ws2 := wT D t0 t1 ty (1 : Int32) (1 : Int32) le) h0 rfl 0 rfl (Nat.le_of_ble_eq_true rfl) dX3_takesKind_80 rfl rfl ?_
    refine r_ic C (v := (1 : Int32)) dX3_takesKind_83 (by decide) ?_
    exact r_zret rfl C rfl (by rw [← hv]) (by rw [← hv]) dX3_takesKind_84
  · rw [if_neg c1] at hv
    by_cases c2 : letter = (104 : Int32)
    · rw [if_pos c2] at hv
      refine r_look C (tgt := 68) (off := 67) dX3_takesKind_1 (by decide) (by rw [c2]; decide) (by decide) ?_
      refine r_aln C dX3_takesKind_68 rfl 0 rfl ?_
      refine r_ic C (v := (3 : Int32)) dX3_takesKind_69 (by decide) ?_
      refine pf_X3_22 C (ws2 := wT D t0 t1 ty aw (3 : Int32) le) h0 rfl 0 rfl (Nat.le_of_ble_eq_true rfl) dX3_takesKind_70 rfl rfl ?_
      refine r_goto C (tgt := 78) dX3_takesKind_73 (by decide) ?_
      refine r_aln C dX3_takesKind_78 rfl 0 rfl ?_
      refine r_ic C (v := (1 : Int32)) dX3_takesKind_79 (by decide) ?_
      refine pf_X3_19 C (ws2 := wT D t0 t1 ty (1 : Int32) (3 : Int32) le) h0 rfl 0 rfl (Nat.le_of_ble_eq_true rfl) dX3_takesKind_80 rfl rfl ?_
      refine r_ic C (v := (1 : Int32)) dX3_takesKind_83 (by decide) ?_
      exact r_zret rfl C rfl (by rw [← hv]) (by rw [← hv]) dX3_takesKind_84
    · rw [if_neg c2] at hv
      by_cases c3 : letter = (112 : Int32)
      · rw [if_pos c3] at hv
        refine r_look C (tgt := 44) (off := 43) dX3_takesKind_1 (by decide) (by rw [c3]; decide) (by decide) ?_
        refine r_aln C dX3_takesKind_44 rfl 0 rfl ?_
        refine r_ic C (v := (0 : Int32)) dX3_takesKind_45 (by decide) ?_
        refine pf_X3_22 C (ws2 := wT D t0 t1 ty aw (0 : Int32) le) h0 rfl 0 rfl (Nat.le_of_ble_eq_true rfl) dX3_takesKind_46 rfl rfl ?_
        refine r_goto C (tgt := 78) dX3_takesKind_49 (by decide) ?_
        refine r_aln C dX3_takesKind_78 rfl 0 rfl ?_
        refine r_ic C (v := (1 : Int32)) dX3_takesKind_79 (by decide) ?_
        refine pf_X3_19 C (ws2 := wT D t0 t1 ty (1 : Int32) (0 : Int32) le) h0 rfl 0 rfl (Nat.le_of_ble_eq_true rfl) dX3_takesKind_80 rfl rfl ?_
        refine r_ic C (v := (1 : Int32)) dX3_takesKind_83 (by decide) ?_
        exact r_zret rfl C rfl (by rw [← hv]) (by rw [← hv]) dX3_takesKind_84
      · rw [if_neg c3] at hv
        by_cases c4 : letter = (115 : Int32)
        · rw [if_pos c4] at hv
          refine r_look C (tgt := 60) (off := 59) dX3_takesKind_1 (by decide) (by rw [c4]; decide) (by decide) ?_
          refine r_aln C dX3_takesKind_60 rfl 0 rfl ?_
          refine r_ic C (v := (2 : Int32)) dX3_takesKind_61 (by decide) ?_
          refine pf_X3_22 C (ws2 := wT D t0 t1 ty aw (2 : Int32) le) h0 rfl 0 rfl (Nat.le_of_ble_eq_true rfl) dX3_takesKind_62 rfl rfl ?_
          refine r_goto C (tgt := 78) dX3_takesKind_65 (by decide) ?_
          refine r_aln C dX3_takesKind_78 rfl 0 rfl ?_
          refine r_ic C (v := (1 : Int32)) dX3_takesKind_79 (by decide) ?_
          refine pf_X3_19 C (ws2 := wT D t0 t1 ty (1 : Int32) (2 : Int32) le) h0 rfl 0 rfl (Nat.le_of_ble_eq_true rfl) dX3_takesKind_80 rfl rfl ?_
          refine r_ic C (v := (1 : Int32)) dX3_takesKind_83 (by decide) ?_
          exact r_zret rfl C rfl (by rw [← hv]) (by rw [← hv]) dX3_takesKind_84
        · rw [if_neg c4] at hv
          have nc1 : letter.toInt ≠ 97 := fun z => c1 (i32_eq _ _ 97 (by decide) z)
          have nc2 : letter.toInt ≠ 104 := fun z => c2 (i32_eq _ _ 104 (by decide) z)
          have nc3 : letter.toInt ≠ 112 := fun z => c3 (i32_eq _ _ 112 (by decide) z)
          have nc4 : letter.toInt ≠ 115 := fun z => c4 (i32_eq _ _ 115 (by decide) z)
          refine r_look C (tgt := 76) (off := 75) dX3_takesKind_1 (by decide) (by simp [Op.lookupswitch.offset, nc1.symm, nc2.symm, nc3.symm, nc4.symm]) (by decide) ?_
          refine r_ic C (v := (0 : Int32)) dX3_takesKind_76 (by decide) ?_
          exact r_zret rfl C rfl (by rw [← hv]) (by rw [← hv]) dX3_takesKind_77

theorem zb_X3_takesKind (aw : Int32) (tk : Int32) (letter : Int32) : narrow .boolean (.int (s_X3_takesKind aw tk letter).1) = .int (s_X3_takesKind aw tk letter).1 := by
  unfold s_X3_takesKind
  (repeat' split) <;> first | exact nz0 | exact nz1
def s_X3_takesDay (tk : Int32) (n : Nat) (kd : Nat → Int32) (dy : Nat → Int32) (nd : Nat → Int32) (co : Nat → Int32) (od : Nat → Int32) (wo : Nat → Int32) (letter : Int32) : Int32 × Int32 × Nat × (Nat → Int32) × (Nat → Int32) × (Nat → Int32) × (Nat → Int32) × (Nat → Int32) × (Nat → Int32) := (if s_X6_isDay (letter - (65 : Int32)) = (0 : Int32) then ((0 : Int32), (2 : Int32), n, kd, dy, nd, co, od, wo) else (if (s_X5_add n kd dy nd co od wo tk (letter - (65 : Int32)) (0 : Int32)).1 = (0 : Int32) then ((0 : Int32), (2 : Int32), (s_X5_add n kd dy nd co od wo tk (letter - (65 : Int32)) (0 : Int32)).2.1, (s_X5_add n kd dy nd co od wo tk (letter - (65 : Int32)) (0 : Int32)).2.2.1, (s_X5_add n kd dy nd co od wo tk (letter - (65 : Int32)) (0 : Int32)).2.2.2.1, (s_X5_add n kd dy nd co od wo tk (letter - (65 : Int32)) (0 : Int32)).2.2.2.2.1, (s_X5_add n kd dy nd co od wo tk (letter - (65 : Int32)) (0 : Int32)).2.2.2.2.2.1, (s_X5_add n kd dy nd co od wo tk (letter - (65 : Int32)) (0 : Int32)).2.2.2.2.2.2.1, (s_X5_add n kd dy nd co od wo tk (letter - (65 : Int32)) (0 : Int32)).2.2.2.2.2.2.2) else ((1 : Int32), (2 : Int32), (s_X5_add n kd dy nd co od wo tk (letter - (65 : Int32)) (0 : Int32)).2.1, (s_X5_add n kd dy nd co od wo tk (letter - (65 : Int32)) (0 : Int32)).2.2.1, (s_X5_add n kd dy nd co od wo tk (letter - (65 : Int32)) (0 : Int32)).2.2.2.1, (s_X5_add n kd dy nd co od wo tk (letter - (65 : Int32)) (0 : Int32)).2.2.2.2.1, (s_X5_add n kd dy nd co od wo tk (letter - (65 : Int32)) (0 : Int32)).2.2.2.2.2.1, (s_X5_add n kd dy nd co od wo tk (letter - (65 : Int32)) (0 : Int32)).2.2.2.2.2.2.1, (s_X5_add n kd dy nd co od wo tk (letter - (65 : Int32)) (0 : Int32)).2.2.2.2.2.2.2)))
set_option maxHeartbeats 8000000 in
set_option maxRecDepth 100000 in
theorem c_X3_takesDay (l : Launch) (D : va_G) (t0 : Nat) (t1 : Nat) (h : Nat) (a1 : Nat) (a2 : Nat) (a3 : Nat) (a4 : Nat) (a5 : Nat) (a6 : Nat) (ty : Nat) (aw : Int32) (tk : Int32) (le : Nat → Int32) (pe : Nat) (n : Nat) (td : Int32) (ys : Int32) (la : Int32) (ri : Int32) (kd : Nat → Int32) (dy : Nat → Int32) (nd : Nat → Int32) (co : Nat → Int32) (od : Nat → Int32) (wo : Nat → Int32) (letter : Int32) (hn : n ≤ 12) (h0 : va_D (fun _ => True) (wTY D t0 t1 h a1 a2 a3 a4 a5 a6 ty aw tk le pe n td ys la ri kd dy nd co od wo)) : ct l yX3_takesDay cX3_takesDay 4 (some .boolean) 1 24 D [.ref t0, .int letter, .ref h] (wTY D t0 t1 h a1 a2 a3 a4 a5 a6 ty aw tk le pe n td ys la ri kd dy nd co od wo) (wTY D t0 t1 h a1 a2 a3 a4 a5 a6 ty (s_X3_takesDay tk n kd dy nd co od wo letter).2.1 tk le pe (s_X3_takesDay tk n kd dy nd co od wo letter).2.2.1 td ys la ri (s_X3_takesDay tk n kd dy nd co od wo letter).2.2.2.1 (s_X3_takesDay tk n kd dy nd co od wo letter).2.2.2.2.1 (s_X3_takesDay tk n kd dy nd co od wo letter).2.2.2.2.2.1 (s_X3_takesDay tk n kd dy nd co od wo letter).2.2.2.2.2.2.1 (s_X3_takesDay tk n kd dy nd co od wo letter).2.2.2.2.2.2.2.1 (s_X3_takesDay tk n kd dy nd co od wo letter).2.2.2.2.2.2.2.2) (Ad (wTY D t0 t1 h a1 a2 a3 a4 a5 a6 ty aw tk le pe n td ys la ri kd dy nd co od wo)) (some (Value.int (s_X3_takesDay tk n kd dy nd co od wo letter).1)) := by
  obtain ⟨V, hv⟩ : ∃ V, s_X3_takesDay tk n kd dy nd co od wo letter = V := ⟨_, rfl⟩
  rw [hv]
  refine ct_intro (own := RX3) (lv := [(0, .ref t0), (1, .int letter), (2, .ref h)]) (by decide) rfl (Nat.le_of_ble_eq_true rfl) rfl ?_
  intro p_ e_ s_ m_ below_ meth_ c_ C
  have hv : (if s_X6_isDay (letter - (65 : Int32)) = (0 : Int32) then ((0 : Int32), (2 : Int32), n, kd, dy, nd, co, od, wo) else (if (s_X5_add n kd dy nd co od wo tk (letter - (65 : Int32)) (0 : Int32)).1 = (0 : Int32) then ((0 : Int32), (2 : Int32), (s_X5_add n kd dy nd co od wo tk (letter - (65 : Int32)) (0 : Int32)).2.1, (s_X5_add n kd dy nd co od wo tk (letter - (65 : Int32)) (0 : Int32)).2.2.1, (s_X5_add n kd dy nd co od wo tk (letter - (65 : Int32)) (0 : Int32)).2.2.2.1, (s_X5_add n kd dy nd co od wo tk (letter - (65 : Int32)) (0 : Int32)).2.2.2.2.1, (s_X5_add n kd dy nd co od wo tk (letter - (65 : Int32)) (0 : Int32)).2.2.2.2.2.1, (s_X5_add n kd dy nd co od wo tk (letter - (65 : Int32)) (0 : Int32)).2.2.2.2.2.2.1, (s_X5_add n kd dy nd co od wo tk (letter - (65 : Int32)) (0 : Int32)).2.2.2.2.2.2.2) else ((1 : Int32), (2 : Int32), (s_X5_add n kd dy nd co od wo tk (letter - (65 : Int32)) (0 : Int32)).2.1, (s_X5_add n kd dy nd co od wo tk (letter - (65 : Int32)) (0 : Int32)).2.2.1, (s_X5_add n kd dy nd co od wo tk (letter - (65 : Int32)) (0 : Int32)).2.2.2.1, (s_X5_add n kd dy nd co od wo tk (letter - (65 : Int32)) (0 : Int32)).2.2.2.2.1, (s_X5_add n kd dy nd co od wo tk (letter - (65 : Int32)) (0 : Int32)).2.2.2.2.2.1, (s_X5_add n kd dy nd co od wo tk (letter - (65 : Int32)) (0 : Int32)).2.2.2.2.2.2.1, (s_X5_add n kd dy nd co od wo tk (letter - (65 : Int32)) (0 : Int32)).2.2.2.2.2.2.2))) = V := hv
  refine r_aln C dX3_takesDay_0 rfl 0 rfl ?_
  refine r_ic C (v := (2 : Int32)) dX3_takesDay_1 (by decide) ?_
  refine pf_X3_19 C (ws2 := wTY D t0 t1 h a1 a2 a3 a4 a5 a6 ty (2 : Int32) tk le pe n td ys la ri kd dy nd co od wo) h0 rfl 0 rfl (Nat.le_of_ble_eq_true rfl) dX3_takesDay_2 rfl rfl ?_
  refine r_iln C dX3_takesDay_5 rfl 1 rfl ?_
  refine r_bp C (v := (65 : Int32)) dX3_takesDay_6 (by decide) ?_
  refine r_isub C dX3_takesDay_8 ?_
  refine r_isn C (lv' := [(3, .int (letter - (65 : Int32))), (0, .ref t0), (1, .int letter), (2, .ref h)]) dX3_takesDay_9 rfl (by decide) rfl ?_
  refine r_iln C dX3_takesDay_10 rfl 0 rfl ?_
  refine aft_rd (st' := [.int (s_X6_isDay (letter - (65 : Int32)))]) (run_SN (rest := []) C (c_X6_isDay l D (letter - (65 : Int32)) ) ok_X6_isDay ws_X6_isDay wm_X3_48 [] rfl ⟨Nat.le_of_ble_eq_true rfl, Nat.le_of_ble_eq_true rfl⟩ rfl rfl (Nat.le_of_ble_eq_true rfl) dX3_takesDay_11) rfl ?_
  refine r_ifeq C (tgt := 34) dX3_takesDay_14 (by decide) (fun c1 => ?_) (fun c1 => ?_)
  · rw [if_pos c1] at hv
    refine r_ic C (v := (0 : Int32)) dX3_takesDay_34 (by decide) ?_
    exact r_zret rfl C rfl (by rw [← hv]) (by rw [← hv]) dX3_takesDay_35
  · rw [if_neg c1] at hv
    refine r_aln C dX3_takesDay_17 rfl 3 rfl ?_
    refine r_aln C dX3_takesDay_18 rfl 1 rfl ?_
    refine gf_X3_22 C 0 rfl rfl dX3_takesDay_19 ?_
    refine r_iln C dX3_takesDay_22 rfl 0 rfl ?_
    refine r_ic C (v := (0 : Int32)) dX3_takesDay_23 (by decide) ?_
    refine aft_wr (ws2 := wTY D t0 t1 h a1 a2 a3 a4 a5 a6 ty (2 : Int32) tk le pe ((s_X5_add n kd dy nd co od wo tk (letter - (65 : Int32)) (0 : Int32)).2.1) td ys la ri ((s_X5_add n kd dy nd co od wo tk (letter - (65 : Int32)) (0 : Int32)).2.2.1) ((s_X5_add n kd dy nd co od wo tk (letter - (65 : Int32)) (0 : Int32)).2.2.2.1) ((s_X5_add n kd dy nd co od wo tk (letter - (65 : Int32)) (0 : Int32)).2.2.2.2.1) ((s_X5_add n kd dy nd co od wo tk (letter - (65 : Int32)) (0 : Int32)).2.2.2.2.2.1) ((s_X5_add n kd dy nd co od wo tk (letter - (65 : Int32)) (0 : Int32)).2.2.2.2.2.2.1) ((s_X5_add n kd dy nd co od wo tk (letter - (65 : Int32)) (0 : Int32)).2.2.2.2.2.2.2)) (st' := [.int ((s_X5_add n kd dy nd co od wo tk (letter - (65 : Int32)) (0 : Int32)).1)]) h0 rfl [2, 3, 4, 5, 6, 7, 8] (run_VN (rest := []) C (c_X5_add l D h a1 a2 a3 a4 a5 a6 pe n td ys la ri kd dy nd co od wo tk (letter - (65 : Int32)) (0 : Int32) (by omega) (dis_sub h0 [2, 3, 4, 5, 6, 7, 8] (by decide) rfl)) ok_X5_add wn_X5_add wl_X5_add wm_X3_52 [2, 3, 4, 5, 6, 7, 8] 0 rfl rfl rfl ⟨Nat.le_of_ble_eq_true rfl, Nat.le_of_ble_eq_true rfl⟩ rfl rfl (Nat.le_of_ble_eq_true rfl) dX3_takesDay_24) rfl rfl rfl rfl rfl ?_
    refine r_ifeq C (tgt := 34) dX3_takesDay_27 (by decide) (fun c2 => ?_) (fun c2 => ?_)
    · rw [if_pos c2] at hv
      refine r_ic C (v := (0 : Int32)) dX3_takesDay_34 (by decide) ?_
      exact r_zret rfl C rfl (by rw [← hv]) (by rw [← hv]) dX3_takesDay_35
    · rw [if_neg c2] at hv
      refine r_ic C (v := (1 : Int32)) dX3_takesDay_30 (by decide) ?_
      refine r_goto C (tgt := 35) dX3_takesDay_31 (by decide) ?_
      exact r_zret rfl C rfl (by rw [← hv]) (by rw [← hv]) dX3_takesDay_35

theorem zb_X3_takesDay (tk : Int32) (n : Nat) (kd : Nat → Int32) (dy : Nat → Int32) (nd : Nat → Int32) (co : Nat → Int32) (od : Nat → Int32) (wo : Nat → Int32) (letter : Int32) : narrow .boolean (.int (s_X3_takesDay tk n kd dy nd co od wo letter).1) = .int (s_X3_takesDay tk n kd dy nd co od wo letter).1 := by
  unfold s_X3_takesDay
  (repeat' split) <;> first | exact nz0 | exact nz1
def s_X3_takesComma (n : Nat) : Int32 × Int32 := (if nI n < (12 : Int32) then ((1 : Int32), (0 : Int32)) else ((0 : Int32), (0 : Int32)))
set_option maxHeartbeats 8000000 in
set_option maxRecDepth 100000 in
theorem c_X3_takesComma (l : Launch) (D : va_G) (t0 : Nat) (t1 : Nat) (h : Nat) (a1 : Nat) (a2 : Nat) (a3 : Nat) (a4 : Nat) (a5 : Nat) (a6 : Nat) (ty : Nat) (aw : Int32) (tk : Int32) (le : Nat → Int32) (pe : Nat) (n : Nat) (td : Int32) (ys : Int32) (la : Int32) (ri : Int32) (kd : Nat → Int32) (dy : Nat → Int32) (nd : Nat → Int32) (co : Nat → Int32) (od : Nat → Int32) (wo : Nat → Int32) (hn : n ≤ 12) (h0 : va_D (fun _ => True) (wTY D t0 t1 h a1 a2 a3 a4 a5 a6 ty aw tk le pe n td ys la ri kd dy nd co od wo)) : ct l yX3_takesComma cX3_takesComma 2 (some .boolean) 0 0 D [.ref t0, .ref h] (wTY D t0 t1 h a1 a2 a3 a4 a5 a6 ty aw tk le pe n td ys la ri kd dy nd co od wo) (wTY D t0 t1 h a1 a2 a3 a4 a5 a6 ty (s_X3_takesComma n).2 tk le pe n td ys la ri kd dy nd co od wo) (Ad (wTY D t0 t1 h a1 a2 a3 a4 a5 a6 ty aw tk le pe n td ys la ri kd dy nd co od wo)) (some (Value.int (s_X3_takesComma n).1)) := by
  obtain ⟨V, hv⟩ : ∃ V, s_X3_takesComma n = V := ⟨_, rfl⟩
  rw [hv]
  refine ct_intro (own := RX3) (lv := [(0, .ref t0), (1, .ref h)]) (by decide) rfl (Nat.le_of_ble_eq_true rfl) rfl ?_
  intro p_ e_ s_ m_ below_ meth_ c_ C
  have hv : (if nI n < (12 : Int32) then ((1 : Int32), (0 : Int32)) else ((0 : Int32), (0 : Int32))) = V := hv
  refine r_aln C dX3_takesComma_0 rfl 0 rfl ?_
  refine r_ic C (v := (0 : Int32)) dX3_takesComma_1 (by decide) ?_
  refine pf_X3_19 C (ws2 := wTY D t0 t1 h a1 a2 a3 a4 a5 a6 ty (0 : Int32) tk le pe n td ys la ri kd dy nd co od wo) h0 rfl 0 rfl (Nat.le_of_ble_eq_true rfl) dX3_takesComma_2 rfl rfl ?_
  refine r_aln C dX3_takesComma_5 rfl 1 rfl ?_
  refine gf_X3_29 C 2 rfl rfl dX3_takesComma_6 ?_
  refine r_bp C (v := (12 : Int32)) dX3_takesComma_9 (by decide) ?_
  refine r_icge C (tgt := 18) dX3_takesComma_11 (by decide) (fun c1 => ?_) (fun c1 => ?_)
  · rw [if_neg c1] at hv
    refine r_ic C (v := (0 : Int32)) dX3_takesComma_18 (by decide) ?_
    exact r_zret rfl C rfl (by rw [← hv]) (by rw [← hv]) dX3_takesComma_19
  · rw [if_pos c1] at hv
    refine r_ic C (v := (1 : Int32)) dX3_takesComma_14 (by decide) ?_
    refine r_goto C (tgt := 19) dX3_takesComma_15 (by decide) ?_
    exact r_zret rfl C rfl (by rw [← hv]) (by rw [← hv]) dX3_takesComma_19

theorem zb_X3_takesComma (n : Nat) : narrow .boolean (.int (s_X3_takesComma n).1) = .int (s_X3_takesComma n).1 := by
  unfold s_X3_takesComma
  (repeat' split) <;> first | exact nz0 | exact nz1
def s_X3_takesNeed (n : Nat) (dy : Nat → Int32) (nd : Nat → Int32) (letter : Int32) : Int32 × (Nat → Int32) := (if s_X5_has n ((nI n) - (1 : Int32)) = (0 : Int32) then ((0 : Int32), nd) else (if s_X5_has n (letter - (97 : Int32)) = (0 : Int32) then ((0 : Int32), nd) else (if s_X6_isIn ((s_X5_needable dy (n - 1) (dy (n - 1))) &&& ((nd (n - 1)) ^^^ (-1 : Int32))) (letter - (97 : Int32)) = (0 : Int32) then ((0 : Int32), nd) else ((1 : Int32), upd nd (n - 1) ((nd (n - 1)) ||| ((1 : Int32) <<< ((letter - (97 : Int32)) &&& 31)))))))
set_option maxHeartbeats 8000000 in
set_option maxRecDepth 100000 in
theorem c_X3_takesNeed (l : Launch) (D : va_G) (t0 : Nat) (t1 : Nat) (h : Nat) (a1 : Nat) (a2 : Nat) (a3 : Nat) (a4 : Nat) (a5 : Nat) (a6 : Nat) (ty : Nat) (aw : Int32) (tk : Int32) (le : Nat → Int32) (pe : Nat) (n : Nat) (td : Int32) (ys : Int32) (la : Int32) (ri : Int32) (kd : Nat → Int32) (dy : Nat → Int32) (nd : Nat → Int32) (co : Nat → Int32) (od : Nat → Int32) (wo : Nat → Int32) (letter : Int32) (hn : n ≤ 12) (h0 : va_D (fun _ => True) (wTY D t0 t1 h a1 a2 a3 a4 a5 a6 ty aw tk le pe n td ys la ri kd dy nd co od wo)) : ct l yX3_takesNeed cX3_takesNeed 5 (some .boolean) 1 24 D [.ref t0, .int letter, .ref h] (wTY D t0 t1 h a1 a2 a3 a4 a5 a6 ty aw tk le pe n td ys la ri kd dy nd co od wo) (wTY D t0 t1 h a1 a2 a3 a4 a5 a6 ty aw tk le pe n td ys la ri kd dy (s_X3_takesNeed n dy nd letter).2 co od wo) (Ad (wTY D t0 t1 h a1 a2 a3 a4 a5 a6 ty aw tk le pe n td ys la ri kd dy nd co od wo)) (some (Value.int (s_X3_takesNeed n dy nd letter).1)) := by
  obtain ⟨V, hv⟩ : ∃ V, s_X3_takesNeed n dy nd letter = V := ⟨_, rfl⟩
  rw [hv]
  refine ct_intro (own := RX3) (lv := [(0, .ref t0), (1, .int letter), (2, .ref h)]) (by decide) rfl (Nat.le_of_ble_eq_true rfl) rfl ?_
  intro p_ e_ s_ m_ below_ meth_ c_ C
  have hv : (if s_X5_has n ((nI n) - (1 : Int32)) = (0 : Int32) then ((0 : Int32), nd) else (if s_X5_has n (letter - (97 : Int32)) = (0 : Int32) then ((0 : Int32), nd) else (if s_X6_isIn ((s_X5_needable dy (n - 1) (dy (n - 1))) &&& ((nd (n - 1)) ^^^ (-1 : Int32))) (letter - (97 : Int32)) = (0 : Int32) then ((0 : Int32), nd) else ((1 : Int32), upd nd (n - 1) ((nd (n - 1)) ||| ((1 : Int32) <<< ((letter - (97 : Int32)) &&& 31))))))) = V := hv
  refine r_aln C dX3_takesNeed_0 rfl 2 rfl ?_
  refine gf_X3_29 C 2 rfl rfl dX3_takesNeed_1 ?_
  refine r_ic C (v := (1 : Int32)) dX3_takesNeed_4 (by decide) ?_
  refine r_isub C dX3_takesNeed_5 ?_
  refine r_isn C (lv' := [(3, .int ((nI n) - (1 : Int32))), (0, .ref t0), (1, .int letter), (2, .ref h)]) dX3_takesNeed_6 rfl (by decide) rfl ?_
  refine r_iln C dX3_takesNeed_7 rfl 2 rfl ?_
  refine r_bp C (v := (97 : Int32)) dX3_takesNeed_8 (by decide) ?_
  refine r_isub C dX3_takesNeed_10 ?_
  refine r_is C (lv' := [(4, .int (letter - (97 : Int32))), (3, .int ((nI n) - (1 : Int32))), (0, .ref t0), (1, .int letter), (2, .ref h)]) dX3_takesNeed_11 (by decide) rfl ?_
  refine r_aln C dX3_takesNeed_13 rfl 4 rfl ?_
  refine r_iln C dX3_takesNeed_14 rfl 1 rfl ?_
  refine aft_rd (st' := [.int (s_X5_has n ((nI n) - (1 : Int32)))]) (run_VN (rest := []) C (c_X5_has l D h a1 a2 a3 a4 a5 a6 pe n td ys la ri kd dy nd co od wo ((nI n) - (1 : Int32)) ) ok_X5_has wn_X5_has wl_X5_has wm_X3_56 [2, 3, 4, 5, 6, 7, 8] 0 rfl rfl rfl ⟨Nat.le_of_ble_eq_true rfl, Nat.le_of_ble_eq_true rfl⟩ rfl rfl (Nat.le_of_ble_eq_true rfl) dX3_takesNeed_15) rfl ?_
  refine r_ifeq C (tgt := 30) dX3_takesNeed_18 (by decide) (fun c1 => ?_) (fun c1 => ?_)
  · rw [if_pos c1] at hv
    refine r_ic C (v := (0 : Int32)) dX3_takesNeed_30 (by decide) ?_
    exact r_zret rfl C rfl (by rw [← hv]) (by rw [← hv]) dX3_takesNeed_31
  · rw [if_neg c1] at hv
    have e2 := nm1_nat hn c1
    refine r_aln C dX3_takesNeed_21 rfl 4 rfl ?_
    refine r_il C dX3_takesNeed_22 0 rfl ?_
    refine aft_rd (st' := [.int (s_X5_has n (letter - (97 : Int32)))]) (run_VN (rest := []) C (c_X5_has l D h a1 a2 a3 a4 a5 a6 pe n td ys la ri kd dy nd co od wo (letter - (97 : Int32)) ) ok_X5_has wn_X5_has wl_X5_has wm_X3_56 [2, 3, 4, 5, 6, 7, 8] 0 rfl rfl rfl ⟨Nat.le_of_ble_eq_true rfl, Nat.le_of_ble_eq_true rfl⟩ rfl rfl (Nat.le_of_ble_eq_true rfl) dX3_takesNeed_24) rfl ?_
    refine r_ifne C (tgt := 32) dX3_takesNeed_27 (by decide) (fun c3 => ?_) (fun c3 => ?_)
    · rw [if_neg c3] at hv
      have e4 := has_nat hn c3
      refine r_aln C dX3_takesNeed_32 rfl 4 rfl ?_
      refine r_iln C dX3_takesNeed_33 rfl 1 rfl ?_
      refine r_aln C dX3_takesNeed_34 rfl 4 rfl ?_
      refine gf_X3_59 C 2 rfl rfl dX3_takesNeed_35 ?_
      refine r_iln C dX3_takesNeed_38 rfl 1 rfl ?_
      refine r_iald C 4 (n - 1) rfl e2.1 (by omega) (by decide) rfl dX3_takesNeed_39 ?_
      refine r_stk (st2 := [.int (dy (n - 1)), .int (nI (n - 1)), .ref h]) (congrArg (fun (z : Int32) => ([.int (dy (n - 1)), .int z, .ref h] : List Value)) e2.1) ?_
      refine aft_rd (st' := [.int (s_X5_needable dy (n - 1) (dy (n - 1)))]) (run_VN (rest := []) C (c_X5_needable l D h a1 a2 a3 a4 a5 a6 pe n td ys la ri kd dy nd co od wo (n - 1) (dy (n - 1)) (by omega) (by omega)) ok_X5_needable wn_X5_needable wl_X5_needable wm_X3_63 [2, 3, 4, 5, 6, 7, 8] 0 rfl rfl rfl ⟨Nat.le_of_ble_eq_true rfl, Nat.le_of_ble_eq_true rfl⟩ rfl rfl (Nat.le_of_ble_eq_true rfl) dX3_takesNeed_40) rfl ?_
      refine r_aln C dX3_takesNeed_43 rfl 4 rfl ?_
      refine gf_X3_67 C 2 rfl rfl dX3_takesNeed_44 ?_
      refine r_iln C dX3_takesNeed_47 rfl 1 rfl ?_
      refine r_iald C 5 (n - 1) rfl e2.1 (by omega) (by decide) rfl dX3_takesNeed_48 ?_
      refine r_ic C (v := (-1 : Int32)) dX3_takesNeed_49 (by decide) ?_
      refine r_ixor C dX3_takesNeed_50 ?_
      refine r_iand C dX3_takesNeed_51 ?_
      refine r_il C dX3_takesNeed_52 0 rfl ?_
      refine aft_rd (st' := [.int (s_X6_isIn ((s_X5_needable dy (n - 1) (dy (n - 1))) &&& ((nd (n - 1)) ^^^ (-1 : Int32))) (letter - (97 : Int32)))]) (run_SN (rest := []) C (c_X6_isIn l D ((s_X5_needable dy (n - 1) (dy (n - 1))) &&& ((nd (n - 1)) ^^^ (-1 : Int32))) (letter - (97 : Int32)) ) ok_X6_isIn ws_X6_isIn wm_X3_70 [] rfl ⟨Nat.le_of_ble_eq_true rfl, Nat.le_of_ble_eq_true rfl⟩ rfl rfl (Nat.le_of_ble_eq_true rfl) dX3_takesNeed_54) rfl ?_
      refine r_ifne C (tgt := 62) dX3_takesNeed_57 (by decide) (fun c5 => ?_) (fun c5 => ?_)
      · rw [if_neg c5] at hv
        refine r_aln C dX3_takesNeed_62 rfl 4 rfl ?_
        refine gf_X3_67 C 2 rfl rfl dX3_takesNeed_63 ?_
        refine r_iln C dX3_takesNeed_66 rfl 1 rfl ?_
        refine r_dup211 C dX3_takesNeed_67 rfl rfl ?_
        refine r_iald C 5 (n - 1) rfl e2.1 (by omega) (by decide) rfl dX3_takesNeed_68 ?_
        refine r_ic C (v := (1 : Int32)) dX3_takesNeed_69 (by decide) ?_
        refine r_il C dX3_takesNeed_70 0 rfl ?_
        refine r_ishl C dX3_takesNeed_72 ?_
        refine r_ior C dX3_takesNeed_73 ?_
        refine r_iast C (ws2 := wTY D t0 t1 h a1 a2 a3 a4 a5 a6 ty aw tk le pe n td ys la ri kd dy (upd nd (n - 1) ((nd (n - 1)) ||| ((1 : Int32) <<< ((letter - (97 : Int32)) &&& 31)))) co od wo) h0 rfl 5 (n - 1) rfl e2.1 (by omega) (by decide) dX3_takesNeed_74 rfl rfl ?_
        refine r_ic C (v := (1 : Int32)) dX3_takesNeed_75 (by decide) ?_
        exact r_zret rfl C rfl (by rw [← hv]) (by rw [← hv]) dX3_takesNeed_76
      · rw [if_pos c5] at hv
        refine r_ic C (v := (0 : Int32)) dX3_takesNeed_60 (by decide) ?_
        exact r_zret rfl C rfl (by rw [← hv]) (by rw [← hv]) dX3_takesNeed_61
    · rw [if_pos c3] at hv
      refine r_ic C (v := (0 : Int32)) dX3_takesNeed_30 (by decide) ?_
      exact r_zret rfl C rfl (by rw [← hv]) (by rw [← hv]) dX3_takesNeed_31

theorem zb_X3_takesNeed (n : Nat) (dy : Nat → Int32) (nd : Nat → Int32) (letter : Int32) : narrow .boolean (.int (s_X3_takesNeed n dy nd letter).1) = .int (s_X3_takesNeed n dy nd letter).1 := by
  unfold s_X3_takesNeed
  (repeat' split) <;> first | exact nz0 | exact nz1
def s_X3_takes (aw : Int32) (tk : Int32) (n : Nat) (kd : Nat → Int32) (dy : Nat → Int32) (nd : Nat → Int32) (co : Nat → Int32) (od : Nat → Int32) (wo : Nat → Int32) (letter : Int32) : Int32 × Int32 × Int32 × Nat × (Nat → Int32) × (Nat → Int32) × (Nat → Int32) × (Nat → Int32) × (Nat → Int32) × (Nat → Int32) := (if aw = (0 : Int32) then ((s_X3_takesKind aw tk letter).1, (s_X3_takesKind aw tk letter).2.1, (s_X3_takesKind aw tk letter).2.2, n, kd, dy, nd, co, od, wo) else (if aw = (1 : Int32) then ((s_X3_takesDay tk n kd dy nd co od wo letter).1, (s_X3_takesDay tk n kd dy nd co od wo letter).2.1, tk, (s_X3_takesDay tk n kd dy nd co od wo letter).2.2.1, (s_X3_takesDay tk n kd dy nd co od wo letter).2.2.2.1, (s_X3_takesDay tk n kd dy nd co od wo letter).2.2.2.2.1, (s_X3_takesDay tk n kd dy nd co od wo letter).2.2.2.2.2.1, (s_X3_takesDay tk n kd dy nd co od wo letter).2.2.2.2.2.2.1, (s_X3_takesDay tk n kd dy nd co od wo letter).2.2.2.2.2.2.2.1, (s_X3_takesDay tk n kd dy nd co od wo letter).2.2.2.2.2.2.2.2) else (if letter = (44 : Int32) then ((s_X3_takesComma n).1, (s_X3_takesComma n).2, tk, n, kd, dy, nd, co, od, wo) else ((s_X3_takesNeed n dy nd letter).1, aw, tk, n, kd, dy, (s_X3_takesNeed n dy nd letter).2, co, od, wo))))
set_option maxHeartbeats 8000000 in
set_option maxRecDepth 100000 in
theorem c_X3_takes (l : Launch) (D : va_G) (t0 : Nat) (t1 : Nat) (h : Nat) (a1 : Nat) (a2 : Nat) (a3 : Nat) (a4 : Nat) (a5 : Nat) (a6 : Nat) (ty : Nat) (aw : Int32) (tk : Int32) (le : Nat → Int32) (pe : Nat) (n : Nat) (td : Int32) (ys : Int32) (la : Int32) (ri : Int32) (kd : Nat → Int32) (dy : Nat → Int32) (nd : Nat → Int32) (co : Nat → Int32) (od : Nat → Int32) (wo : Nat → Int32) (letter : Int32) (hn : n ≤ 12) (h0 : va_D (fun _ => True) (wTY D t0 t1 h a1 a2 a3 a4 a5 a6 ty aw tk le pe n td ys la ri kd dy nd co od wo)) : ct l yX3_takes cX3_takes 3 (some .boolean) 2 48 D [.ref t0, .int letter, .ref h] (wTY D t0 t1 h a1 a2 a3 a4 a5 a6 ty aw tk le pe n td ys la ri kd dy nd co od wo) (wTY D t0 t1 h a1 a2 a3 a4 a5 a6 ty (s_X3_takes aw tk n kd dy nd co od wo letter).2.1 (s_X3_takes aw tk n kd dy nd co od wo letter).2.2.1 le pe (s_X3_takes aw tk n kd dy nd co od wo letter).2.2.2.1 td ys la ri (s_X3_takes aw tk n kd dy nd co od wo letter).2.2.2.2.1 (s_X3_takes aw tk n kd dy nd co od wo letter).2.2.2.2.2.1 (s_X3_takes aw tk n kd dy nd co od wo letter).2.2.2.2.2.2.1 (s_X3_takes aw tk n kd dy nd co od wo letter).2.2.2.2.2.2.2.1 (s_X3_takes aw tk n kd dy nd co od wo letter).2.2.2.2.2.2.2.2.1 (s_X3_takes aw tk n kd dy nd co od wo letter).2.2.2.2.2.2.2.2.2) (Ad (wTY D t0 t1 h a1 a2 a3 a4 a5 a6 ty aw tk le pe n td ys la ri kd dy nd co od wo)) (some (Value.int (s_X3_takes aw tk n kd dy nd co od wo letter).1)) := by
  obtain ⟨V, hv⟩ : ∃ V, s_X3_takes aw tk n kd dy nd co od wo letter = V := ⟨_, rfl⟩
  rw [hv]
  refine ct_intro (own := RX3) (lv := [(0, .ref t0), (1, .int letter), (2, .ref h)]) (by decide) rfl (Nat.le_of_ble_eq_true rfl) rfl ?_
  intro p_ e_ s_ m_ below_ meth_ c_ C
  have hv : (if aw = (0 : Int32) then ((s_X3_takesKind aw tk letter).1, (s_X3_takesKind aw tk letter).2.1, (s_X3_takesKind aw tk letter).2.2, n, kd, dy, nd, co, od, wo) else (if aw = (1 : Int32) then ((s_X3_takesDay tk n kd dy nd co od wo letter).1, (s_X3_takesDay tk n kd dy nd co od wo letter).2.1, tk, (s_X3_takesDay tk n kd dy nd co od wo letter).2.2.1, (s_X3_takesDay tk n kd dy nd co od wo letter).2.2.2.1, (s_X3_takesDay tk n kd dy nd co od wo letter).2.2.2.2.1, (s_X3_takesDay tk n kd dy nd co od wo letter).2.2.2.2.2.1, (s_X3_takesDay tk n kd dy nd co od wo letter).2.2.2.2.2.2.1, (s_X3_takesDay tk n kd dy nd co od wo letter).2.2.2.2.2.2.2.1, (s_X3_takesDay tk n kd dy nd co od wo letter).2.2.2.2.2.2.2.2) else (if letter = (44 : Int32) then ((s_X3_takesComma n).1, (s_X3_takesComma n).2, tk, n, kd, dy, nd, co, od, wo) else ((s_X3_takesNeed n dy nd letter).1, aw, tk, n, kd, dy, (s_X3_takesNeed n dy nd letter).2, co, od, wo)))) = V := hv
  refine r_aln C dX3_takes_0 rfl 0 rfl ?_
  refine gf_X3_19 C 0 rfl rfl dX3_takes_1 ?_
  by_cases c1 : aw = (0 : Int32)
  · rw [if_pos c1] at hv
    refine r_look C (tgt := 32) (off := 28) dX3_takes_4 (by decide) (by rw [c1]; decide) (by decide) ?_
    refine r_aln C dX3_takes_32 rfl 0 rfl ?_
    refine r_iln C dX3_takes_33 rfl 1 rfl ?_
    refine aft_wr (ws2 := wTY D t0 t1 h a1 a2 a3 a4 a5 a6 ty ((s_X3_takesKind aw tk letter).2.1) ((s_X3_takesKind aw tk letter).2.2) le pe n td ys la ri kd dy nd co od wo) (st' := [.int ((s_X3_takesKind aw tk letter).1)]) h0 rfl [0, 1] (run_V (rest := []) C (c_X3_takesKind l D t0 t1 ty aw tk le letter  (dis_sub h0 [0, 1] (by decide) rfl)) ok_X3_takesKind wn_X3_takesKind wl_X3_takesKind wm_X3_34 [0, 1] 0 rfl rfl rfl ⟨Nat.le_of_ble_eq_true rfl, Nat.le_of_ble_eq_true rfl⟩ rfl rfl (Nat.le_of_ble_eq_true rfl) dX3_takes_34) rfl rfl rfl rfl rfl ?_
    exact r_zret rfl C (zb_X3_takesKind _ _ _ ) (by rw [← hv]) (by rw [← hv]) dX3_takes_37
  · rw [if_neg c1] at hv
    by_cases c2 : aw = (1 : Int32)
    · rw [if_pos c2] at hv
      refine r_look C (tgt := 38) (off := 34) dX3_takes_4 (by decide) (by rw [c2]; decide) (by decide) ?_
      refine r_aln C dX3_takes_38 rfl 0 rfl ?_
      refine r_iln C dX3_takes_39 rfl 1 rfl ?_
      refine r_aln C dX3_takes_40 rfl 2 rfl ?_
      refine aft_wr (ws2 := wTY D t0 t1 h a1 a2 a3 a4 a5 a6 ty ((s_X3_takesDay tk n kd dy nd co od wo letter).2.1) tk le pe ((s_X3_takesDay tk n kd dy nd co od wo letter).2.2.1) td ys la ri ((s_X3_takesDay tk n kd dy nd co od wo letter).2.2.2.1) ((s_X3_takesDay tk n kd dy nd co od wo letter).2.2.2.2.1) ((s_X3_takesDay tk n kd dy nd co od wo letter).2.2.2.2.2.1) ((s_X3_takesDay tk n kd dy nd co od wo letter).2.2.2.2.2.2.1) ((s_X3_takesDay tk n kd dy nd co od wo letter).2.2.2.2.2.2.2.1) ((s_X3_takesDay tk n kd dy nd co od wo letter).2.2.2.2.2.2.2.2)) (st' := [.int ((s_X3_takesDay tk n kd dy nd co od wo letter).1)]) h0 rfl [0, 1, 2, 3, 4, 5, 6, 7, 8] (run_V (rest := []) C (c_X3_takesDay l D t0 t1 h a1 a2 a3 a4 a5 a6 ty aw tk le pe n td ys la ri kd dy nd co od wo letter (by omega) (dis_sub h0 [0, 1, 2, 3, 4, 5, 6, 7, 8] (by decide) rfl)) ok_X3_takesDay wn_X3_takesDay wl_X3_takesDay wm_X3_38 [0, 1, 2, 3, 4, 5, 6, 7, 8] 0 rfl rfl rfl ⟨Nat.le_of_ble_eq_true rfl, Nat.le_of_ble_eq_true rfl⟩ rfl rfl (Nat.le_of_ble_eq_true rfl) dX3_takes_41) rfl rfl rfl rfl rfl ?_
      exact r_zret rfl C (zb_X3_takesDay _ _ _ _ _ _ _ _ _ ) (by rw [← hv]) (by rw [← hv]) dX3_takes_44
    · rw [if_neg c2] at hv
      have nc1 : aw.toInt ≠ 0 := fun z => c1 (i32_eq _ _ 0 (by decide) z)
      have nc2 : aw.toInt ≠ 1 := fun z => c2 (i32_eq _ _ 1 (by decide) z)
      refine r_look C (tgt := 45) (off := 41) dX3_takes_4 (by decide) (by simp [Op.lookupswitch.offset, nc1.symm, nc2.symm]) (by decide) ?_
      refine r_iln C dX3_takes_45 rfl 1 rfl ?_
      refine r_bp C (v := (44 : Int32)) dX3_takes_46 (by decide) ?_
      refine r_icne C (tgt := 59) dX3_takes_48 (by decide) (fun c3 => ?_) (fun c3 => ?_)
      · rw [if_neg c3] at hv
        refine r_aln C dX3_takes_59 rfl 0 rfl ?_
        refine r_iln C dX3_takes_60 rfl 1 rfl ?_
        refine r_aln C dX3_takes_61 rfl 2 rfl ?_
        refine aft_wr (ws2 := wTY D t0 t1 h a1 a2 a3 a4 a5 a6 ty aw tk le pe n td ys la ri kd dy ((s_X3_takesNeed n dy nd letter).2) co od wo) (st' := [.int ((s_X3_takesNeed n dy nd letter).1)]) h0 rfl [0, 1, 2, 3, 4, 5, 6, 7, 8] (run_V (rest := []) C (c_X3_takesNeed l D t0 t1 h a1 a2 a3 a4 a5 a6 ty aw tk le pe n td ys la ri kd dy nd co od wo letter (by omega) (dis_sub h0 [0, 1, 2, 3, 4, 5, 6, 7, 8] (by decide) rfl)) ok_X3_takesNeed wn_X3_takesNeed wl_X3_takesNeed wm_X3_45 [0, 1, 2, 3, 4, 5, 6, 7, 8] 0 rfl rfl rfl ⟨Nat.le_of_ble_eq_true rfl, Nat.le_of_ble_eq_true rfl⟩ rfl rfl (Nat.le_of_ble_eq_true rfl) dX3_takes_62) rfl rfl rfl rfl rfl ?_
        exact r_zret rfl C (zb_X3_takesNeed _ _ _ _ ) (by rw [← hv]) (by rw [← hv]) dX3_takes_65
      · rw [if_pos c3] at hv
        refine r_aln C dX3_takes_51 rfl 0 rfl ?_
        refine r_aln C dX3_takes_52 rfl 2 rfl ?_
        refine aft_wr (ws2 := wTY D t0 t1 h a1 a2 a3 a4 a5 a6 ty ((s_X3_takesComma n).2) tk le pe n td ys la ri kd dy nd co od wo) (st' := [.int ((s_X3_takesComma n).1)]) h0 rfl [0, 1, 2, 3, 4, 5, 6, 7, 8] (run_V (rest := []) C (c_X3_takesComma l D t0 t1 h a1 a2 a3 a4 a5 a6 ty aw tk le pe n td ys la ri kd dy nd co od wo (by omega) (dis_sub h0 [0, 1, 2, 3, 4, 5, 6, 7, 8] (by decide) rfl)) ok_X3_takesComma wn_X3_takesComma wl_X3_takesComma wm_X3_41 [0, 1, 2, 3, 4, 5, 6, 7, 8] 0 rfl rfl rfl ⟨Nat.le_of_ble_eq_true rfl, Nat.le_of_ble_eq_true rfl⟩ rfl rfl (Nat.le_of_ble_eq_true rfl) dX3_takes_53) rfl rfl rfl rfl rfl ?_
        refine r_goto C (tgt := 65) dX3_takes_56 (by decide) ?_
        exact r_zret rfl C (zb_X3_takesComma _ ) (by rw [← hv]) (by rw [← hv]) dX3_takes_65

theorem add_n {n : Nat} {kd dy nd co od wo : Nat → Int32} {kind day need : Int32} (h : n ≤ 12) : (s_X5_add n kd dy nd co od wo kind day need).2.1 ≤ 12 := by
  unfold s_X5_add
  split
  · rename_i c
    have f := (nv_lt (a := n) (b := 12) rfl rfl (by omega) (by omega)).mp c
    show n + 1 ≤ 12
    omega
  · exact h
theorem takesDay_n {tk : Int32} {n : Nat} {kd dy nd co od wo : Nat → Int32} {letter : Int32} (h : n ≤ 12) : (s_X3_takesDay tk n kd dy nd co od wo letter).2.2.1 ≤ 12 := by
  unfold s_X3_takesDay
  split
  · exact h
  · split <;> exact add_n h
theorem takes_n {aw tk : Int32} {n : Nat} {kd dy nd co od wo : Nat → Int32} {letter : Int32} (h : n ≤ 12) : (s_X3_takes aw tk n kd dy nd co od wo letter).2.2.2.1 ≤ 12 := by
  unfold s_X3_takes
  split
  · exact h
  · split
    · exact takesDay_n h
    · split <;> exact h
def s_X3_readInto_L7 (le : Nat → Int32) (K : Int32 → Int32 → Nat → (Nat → Int32) → (Nat → Int32) → (Nat → Int32) → (Nat → Int32) → (Nat → Int32) → (Nat → Int32) → Int32 × Int32 × Int32 × Nat × (Nat → Int32) × (Nat → Int32) × (Nat → Int32) × (Nat → Int32) × (Nat → Int32) × (Nat → Int32)) : Nat → Nat → Int32 → Int32 → Nat → (Nat → Int32) → (Nat → Int32) → (Nat → Int32) → (Nat → Int32) → (Nat → Int32) → (Nat → Int32) → Int32 × Int32 × Int32 × Nat × (Nat → Int32) × (Nat → Int32) × (Nat → Int32) × (Nat → Int32) × (Nat → Int32) × (Nat → Int32)
  | 0, _, aw_3, tk_4, n_5, kd_6, dy_7, nd_8, co_9, od_10, wo_11 => K aw_3 tk_4 n_5 kd_6 dy_7 nd_8 co_9 od_10 wo_11
  | k1 + 1, d2, aw_3, tk_4, n_5, kd_6, dy_7, nd_8, co_9, od_10, wo_11 => (if le d2 = (32 : Int32) then (s_X3_readInto_L7 le K k1 (d2 + 1) aw_3 tk_4 n_5 kd_6 dy_7 nd_8 co_9 od_10 wo_11) else (if (s_X3_takes aw_3 tk_4 n_5 kd_6 dy_7 nd_8 co_9 od_10 wo_11 (le d2)).1 = (0 : Int32) then ((-20 : Int32) - (nI d2), (s_X3_takes aw_3 tk_4 n_5 kd_6 dy_7 nd_8 co_9 od_10 wo_11 (le d2)).2.1, (s_X3_takes aw_3 tk_4 n_5 kd_6 dy_7 nd_8 co_9 od_10 wo_11 (le d2)).2.2.1, (s_X3_takes aw_3 tk_4 n_5 kd_6 dy_7 nd_8 co_9 od_10 wo_11 (le d2)).2.2.2.1, (s_X3_takes aw_3 tk_4 n_5 kd_6 dy_7 nd_8 co_9 od_10 wo_11 (le d2)).2.2.2.2.1, (s_X3_takes aw_3 tk_4 n_5 kd_6 dy_7 nd_8 co_9 od_10 wo_11 (le d2)).2.2.2.2.2.1, (s_X3_takes aw_3 tk_4 n_5 kd_6 dy_7 nd_8 co_9 od_10 wo_11 (le d2)).2.2.2.2.2.2.1, (s_X3_takes aw_3 tk_4 n_5 kd_6 dy_7 nd_8 co_9 od_10 wo_11 (le d2)).2.2.2.2.2.2.2.1, (s_X3_takes aw_3 tk_4 n_5 kd_6 dy_7 nd_8 co_9 od_10 wo_11 (le d2)).2.2.2.2.2.2.2.2.1, (s_X3_takes aw_3 tk_4 n_5 kd_6 dy_7 nd_8 co_9 od_10 wo_11 (le d2)).2.2.2.2.2.2.2.2.2) else (s_X3_readInto_L7 le K k1 (d2 + 1) ((s_X3_takes aw_3 tk_4 n_5 kd_6 dy_7 nd_8 co_9 od_10 wo_11 (le d2)).2.1) ((s_X3_takes aw_3 tk_4 n_5 kd_6 dy_7 nd_8 co_9 od_10 wo_11 (le d2)).2.2.1) ((s_X3_takes aw_3 tk_4 n_5 kd_6 dy_7 nd_8 co_9 od_10 wo_11 (le d2)).2.2.2.1) ((s_X3_takes aw_3 tk_4 n_5 kd_6 dy_7 nd_8 co_9 od_10 wo_11 (le d2)).2.2.2.2.1) ((s_X3_takes aw_3 tk_4 n_5 kd_6 dy_7 nd_8 co_9 od_10 wo_11 (le d2)).2.2.2.2.2.1) ((s_X3_takes aw_3 tk_4 n_5 kd_6 dy_7 nd_8 co_9 od_10 wo_11 (le d2)).2.2.2.2.2.2.1) ((s_X3_takes aw_3 tk_4 n_5 kd_6 dy_7 nd_8 co_9 od_10 wo_11 (le d2)).2.2.2.2.2.2.2.1) ((s_X3_takes aw_3 tk_4 n_5 kd_6 dy_7 nd_8 co_9 od_10 wo_11 (le d2)).2.2.2.2.2.2.2.2.1) ((s_X3_takes aw_3 tk_4 n_5 kd_6 dy_7 nd_8 co_9 od_10 wo_11 (le d2)).2.2.2.2.2.2.2.2.2))))
def s_X3_readInto (ty : Nat) (tk : Int32) (le : Nat → Int32) (n : Nat) (kd : Nat → Int32) (dy : Nat → Int32) (nd : Nat → Int32) (co : Nat → Int32) (od : Nat → Int32) (wo : Nat → Int32) : Int32 × Int32 × Int32 × Nat × (Nat → Int32) × (Nat → Int32) × (Nat → Int32) × (Nat → Int32) × (Nat → Int32) × (Nat → Int32) := (s_X3_readInto_L7 le (fun aw_3 tk_4 n_5 kd_6 dy_7 nd_8 co_9 od_10 wo_11 => (if aw_3 = (2 : Int32) then (nI n_5, aw_3, tk_4, n_5, kd_6, dy_7, nd_8, co_9, od_10, wo_11) else ((-20 : Int32) - (nI ty), aw_3, tk_4, n_5, kd_6, dy_7, nd_8, co_9, od_10, wo_11))) ty 0 (0 : Int32) tk n kd dy nd co od wo)
set_option maxHeartbeats 8000000 in
set_option maxRecDepth 100000 in
theorem c_X3_readInto (l : Launch) (D : va_G) (t0 : Nat) (t1 : Nat) (h : Nat) (a1 : Nat) (a2 : Nat) (a3 : Nat) (a4 : Nat) (a5 : Nat) (a6 : Nat) (ty : Nat) (aw : Int32) (tk : Int32) (le : Nat → Int32) (pe : Nat) (n : Nat) (td : Int32) (ys : Int32) (la : Int32) (ri : Int32) (kd : Nat → Int32) (dy : Nat → Int32) (nd : Nat → Int32) (co : Nat → Int32) (od : Nat → Int32) (wo : Nat → Int32) (hn : n ≤ 12) (hty : ty ≤ 80) (h0 : va_D (fun _ => True) (wTY D t0 t1 h a1 a2 a3 a4 a5 a6 ty aw tk le pe n td ys la ri kd dy nd co od wo)) : ct l yX3_readInto cX3_readInto 4 (some .int) 3 70 D [.ref t0, .ref h] (wTY D t0 t1 h a1 a2 a3 a4 a5 a6 ty aw tk le pe n td ys la ri kd dy nd co od wo) (wTY D t0 t1 h a1 a2 a3 a4 a5 a6 ty (s_X3_readInto ty tk le n kd dy nd co od wo).2.1 (s_X3_readInto ty tk le n kd dy nd co od wo).2.2.1 le pe (s_X3_readInto ty tk le n kd dy nd co od wo).2.2.2.1 td ys la ri (s_X3_readInto ty tk le n kd dy nd co od wo).2.2.2.2.1 (s_X3_readInto ty tk le n kd dy nd co od wo).2.2.2.2.2.1 (s_X3_readInto ty tk le n kd dy nd co od wo).2.2.2.2.2.2.1 (s_X3_readInto ty tk le n kd dy nd co od wo).2.2.2.2.2.2.2.1 (s_X3_readInto ty tk le n kd dy nd co od wo).2.2.2.2.2.2.2.2.1 (s_X3_readInto ty tk le n kd dy nd co od wo).2.2.2.2.2.2.2.2.2) (Ad (wTY D t0 t1 h a1 a2 a3 a4 a5 a6 ty aw tk le pe n td ys la ri kd dy nd co od wo)) (some (Value.int (s_X3_readInto ty tk le n kd dy nd co od wo).1)) := by
  obtain ⟨V, hv⟩ : ∃ V, s_X3_readInto ty tk le n kd dy nd co od wo = V := ⟨_, rfl⟩
  rw [hv]
  refine ct_intro (own := RX3) (lv := [(0, .ref t0), (1, .ref h)]) (by decide) rfl (Nat.le_of_ble_eq_true rfl) rfl ?_
  intro p_ e_ s_ m_ below_ meth_ c_ C
  have hv : (s_X3_readInto_L7 le (fun aw_3 tk_4 n_5 kd_6 dy_7 nd_8 co_9 od_10 wo_11 => (if aw_3 = (2 : Int32) then (nI n_5, aw_3, tk_4, n_5, kd_6, dy_7, nd_8, co_9, od_10, wo_11) else ((-20 : Int32) - (nI ty), aw_3, tk_4, n_5, kd_6, dy_7, nd_8, co_9, od_10, wo_11))) ty 0 (0 : Int32) tk n kd dy nd co od wo) = V := hv
  refine r_aln C dX3_readInto_0 rfl 0 rfl ?_
  refine r_ic C (v := (0 : Int32)) dX3_readInto_1 (by decide) ?_
  refine pf_X3_19 C (ws2 := wTY D t0 t1 h a1 a2 a3 a4 a5 a6 ty (0 : Int32) tk le pe n td ys la ri kd dy nd co od wo) h0 rfl 0 rfl (Nat.le_of_ble_eq_true rfl) dX3_readInto_2 rfl rfl ?_
  refine r_ic C (v := (0 : Int32)) dX3_readInto_5 (by decide) ?_
  refine r_isn C (lv' := [(2, .int (0 : Int32)), (0, .ref t0), (1, .ref h)]) dX3_readInto_6 rfl (by decide) rfl ?_
  have L18 : ∀ (k1 : Nat) (d2 : Nat) (aw_3 : Int32) (tk_4 : Int32) (n_5 : Nat) (kd_6 : Nat → Int32) (dy_7 : Nat → Int32) (nd_8 : Nat → Int32) (co_9 : Nat → Int32) (od_10 : Nat → Int32) (wo_11 : Nat → Int32), (d2 + k1 = ty) → (n_5 ≤ 12) → (s_X3_readInto_L7 le (fun aw_3 tk_4 n_5 kd_6 dy_7 nd_8 co_9 od_10 wo_11 => (if aw_3 = (2 : Int32) then (nI n_5, aw_3, tk_4, n_5, kd_6, dy_7, nd_8, co_9, od_10, wo_11) else ((-20 : Int32) - (nI ty), aw_3, tk_4, n_5, kd_6, dy_7, nd_8, co_9, od_10, wo_11))) k1 d2 aw_3 tk_4 n_5 kd_6 dy_7 nd_8 co_9 od_10 wo_11) = V → GM p_ l e_ s_ m_ below_ meth_ c_ D 3 70 4 [.ref t0, .ref h] (wTY D t0 t1 h a1 a2 a3 a4 a5 a6 ty V.2.1 V.2.2.1 le pe V.2.2.2.1 td ys la ri V.2.2.2.2.1 V.2.2.2.2.2.1 V.2.2.2.2.2.2.1 V.2.2.2.2.2.2.2.1 V.2.2.2.2.2.2.2.2.1 V.2.2.2.2.2.2.2.2.2) (Ad (wTY D t0 t1 h a1 a2 a3 a4 a5 a6 ty aw tk le pe n td ys la ri kd dy nd co od wo)) (some (Value.int V.1)) (wTY D t0 t1 h a1 a2 a3 a4 a5 a6 ty aw_3 tk_4 le pe n_5 td ys la ri kd_6 dy_7 nd_8 co_9 od_10 wo_11) 7 [(2, .int (nI d2)), (0, .ref t0), (1, .ref h)] [] := by
    intro k1
    induction k1 with
    | zero =>
      intro d2 aw_3 tk_4 n_5 kd_6 dy_7 nd_8 co_9 od_10 wo_11 hk hn2 hv
      have hv : (if aw_3 = (2 : Int32) then (nI n_5, aw_3, tk_4, n_5, kd_6, dy_7, nd_8, co_9, od_10, wo_11) else ((-20 : Int32) - (nI ty), aw_3, tk_4, n_5, kd_6, dy_7, nd_8, co_9, od_10, wo_11)) = V := hv
      refine r_iln C dX3_readInto_7 rfl 0 rfl ?_
      refine r_aln C dX3_readInto_8 rfl 1 rfl ?_
      refine gf_X3_15 C 0 rfl rfl dX3_readInto_9 ?_
      refine r_icge C (tgt := 48) dX3_readInto_12 (by decide) (fun c12 => ?_) (fun c12 => ?_)
      · skip
        refine r_aln C dX3_readInto_48 rfl 1 rfl ?_
        refine gf_X3_19 C 0 rfl rfl dX3_readInto_49 ?_
        refine r_ic C (v := (2 : Int32)) dX3_readInto_52 (by decide) ?_
        refine r_icne C (tgt := 63) dX3_readInto_53 (by decide) (fun c13 => ?_) (fun c13 => ?_)
        · rw [if_neg c13] at hv
          refine r_bp C (v := (-20 : Int32)) dX3_readInto_63 (by decide) ?_
          refine r_aln C dX3_readInto_65 rfl 1 rfl ?_
          refine gf_X3_15 C 0 rfl rfl dX3_readInto_66 ?_
          refine r_isub C dX3_readInto_69 ?_
          exact r_iret rfl C (by rw [← hv]) (by rw [← hv]) dX3_readInto_70
        · rw [if_pos c13] at hv
          refine r_aln C dX3_readInto_56 rfl 2 rfl ?_
          refine gf_X3_29 C 2 rfl rfl dX3_readInto_57 ?_
          refine r_goto C (tgt := 70) dX3_readInto_60 (by decide) ?_
          exact r_iret rfl C (by rw [← hv]) (by rw [← hv]) dX3_readInto_70
      · exact absurd c12 (fun z => absurd ((nv_lt (a := d2) (b := ty) rfl rfl (by omega) (by omega)).mp z) (by omega))
    | succ k1 ih14 =>
      intro d2 aw_3 tk_4 n_5 kd_6 dy_7 nd_8 co_9 od_10 wo_11 hk hn2 hv
      have hv : (if le d2 = (32 : Int32) then (s_X3_readInto_L7 le (fun aw_3 tk_4 n_5 kd_6 dy_7 nd_8 co_9 od_10 wo_11 => (if aw_3 = (2 : Int32) then (nI n_5, aw_3, tk_4, n_5, kd_6, dy_7, nd_8, co_9, od_10, wo_11) else ((-20 : Int32) - (nI ty), aw_3, tk_4, n_5, kd_6, dy_7, nd_8, co_9, od_10, wo_11))) k1 (d2 + 1) aw_3 tk_4 n_5 kd_6 dy_7 nd_8 co_9 od_10 wo_11) else (if (s_X3_takes aw_3 tk_4 n_5 kd_6 dy_7 nd_8 co_9 od_10 wo_11 (le d2)).1 = (0 : Int32) then ((-20 : Int32) - (nI d2), (s_X3_takes aw_3 tk_4 n_5 kd_6 dy_7 nd_8 co_9 od_10 wo_11 (le d2)).2.1, (s_X3_takes aw_3 tk_4 n_5 kd_6 dy_7 nd_8 co_9 od_10 wo_11 (le d2)).2.2.1, (s_X3_takes aw_3 tk_4 n_5 kd_6 dy_7 nd_8 co_9 od_10 wo_11 (le d2)).2.2.2.1, (s_X3_takes aw_3 tk_4 n_5 kd_6 dy_7 nd_8 co_9 od_10 wo_11 (le d2)).2.2.2.2.1, (s_X3_takes aw_3 tk_4 n_5 kd_6 dy_7 nd_8 co_9 od_10 wo_11 (le d2)).2.2.2.2.2.1, (s_X3_takes aw_3 tk_4 n_5 kd_6 dy_7 nd_8 co_9 od_10 wo_11 (le d2)).2.2.2.2.2.2.1, (s_X3_takes aw_3 tk_4 n_5 kd_6 dy_7 nd_8 co_9 od_10 wo_11 (le d2)).2.2.2.2.2.2.2.1, (s_X3_takes aw_3 tk_4 n_5 kd_6 dy_7 nd_8 co_9 od_10 wo_11 (le d2)).2.2.2.2.2.2.2.2.1, (s_X3_takes aw_3 tk_4 n_5 kd_6 dy_7 nd_8 co_9 od_10 wo_11 (le d2)).2.2.2.2.2.2.2.2.2) else (s_X3_readInto_L7 le (fun aw_3 tk_4 n_5 kd_6 dy_7 nd_8 co_9 od_10 wo_11 => (if aw_3 = (2 : Int32) then (nI n_5, aw_3, tk_4, n_5, kd_6, dy_7, nd_8, co_9, od_10, wo_11) else ((-20 : Int32) - (nI ty), aw_3, tk_4, n_5, kd_6, dy_7, nd_8, co_9, od_10, wo_11))) k1 (d2 + 1) ((s_X3_takes aw_3 tk_4 n_5 kd_6 dy_7 nd_8 co_9 od_10 wo_11 (le d2)).2.1) ((s_X3_takes aw_3 tk_4 n_5 kd_6 dy_7 nd_8 co_9 od_10 wo_11 (le d2)).2.2.1) ((s_X3_takes aw_3 tk_4 n_5 kd_6 dy_7 nd_8 co_9 od_10 wo_11 (le d2)).2.2.2.1) ((s_X3_takes aw_3 tk_4 n_5 kd_6 dy_7 nd_8 co_9 od_10 wo_11 (le d2)).2.2.2.2.1) ((s_X3_takes aw_3 tk_4 n_5 kd_6 dy_7 nd_8 co_9 od_10 wo_11 (le d2)).2.2.2.2.2.1) ((s_X3_takes aw_3 tk_4 n_5 kd_6 dy_7 nd_8 co_9 od_10 wo_11 (le d2)).2.2.2.2.2.2.1) ((s_X3_takes aw_3 tk_4 n_5 kd_6 dy_7 nd_8 co_9 od_10 wo_11 (le d2)).2.2.2.2.2.2.2.1) ((s_X3_takes aw_3 tk_4 n_5 kd_6 dy_7 nd_8 co_9 od_10 wo_11 (le d2)).2.2.2.2.2.2.2.2.1) ((s_X3_takes aw_3 tk_4 n_5 kd_6 dy_7 nd_8 co_9 od_10 wo_11 (le d2)).2.2.2.2.2.2.2.2.2)))) = V := hv
      refine r_iln C dX3_readInto_7 rfl 0 rfl ?_
      refine r_aln C dX3_readInto_8 rfl 1 rfl ?_
      refine gf_X3_15 C 0 rfl rfl dX3_readInto_9 ?_
      refine r_icge C (tgt := 48) dX3_readInto_12 (by decide) (fun c15 => ?_) (fun c15 => ?_)
      · exact absurd ((nv_lt (a := d2) (b := ty) rfl rfl (by omega) (by omega)).mpr (by omega)) c15
      · skip
        refine r_aln C dX3_readInto_15 rfl 1 rfl ?_
        refine gf_X3_9 C 0 rfl rfl dX3_readInto_16 ?_
        refine r_iln C dX3_readInto_19 rfl 0 rfl ?_
        refine r_cald C 1 d2 rfl rfl (by omega) (by decide) rfl dX3_readInto_20 ?_
        refine r_isn C (lv' := [(3, .int (le d2)), (2, .int (nI d2)), (0, .ref t0), (1, .ref h)]) dX3_readInto_21 rfl (by decide) rfl ?_
        refine r_iln C dX3_readInto_22 rfl 0 rfl ?_
        refine r_bp C (v := (32 : Int32)) dX3_readInto_23 (by decide) ?_
        refine r_iceq C (tgt := 42) dX3_readInto_25 (by decide) (fun c16 => ?_) (fun c16 => ?_)
        · rw [if_pos c16] at hv
          refine r_inc C (v := nI (d2 + 1)) (lv' := [(2, .int (nI (d2 + 1))), (3, .int (le d2)), (0, .ref t0), (1, .ref h)]) dX3_readInto_42 1 rfl (inc_nI d2) (by decide) rfl ?_
          refine r_goto C (tgt := 7) dX3_readInto_45 (by decide) ?_
          refine r_lv [0, 2, 3] rfl ?_
          exact ih14 (d2 + 1) aw_3 tk_4 n_5 kd_6 dy_7 nd_8 co_9 od_10 wo_11 (by omega) (by first | omega | exact takes_n hn2) hv
        · rw [if_neg c16] at hv
          refine r_aln C dX3_readInto_28 rfl 2 rfl ?_
          refine r_iln C dX3_readInto_29 rfl 0 rfl ?_
          refine r_aln C dX3_readInto_30 rfl 3 rfl ?_
          refine aft_wr (ws2 := wTY D t0 t1 h a1 a2 a3 a4 a5 a6 ty ((s_X3_takes aw_3 tk_4 n_5 kd_6 dy_7 nd_8 co_9 od_10 wo_11 (le d2)).2.1) ((s_X3_takes aw_3 tk_4 n_5 kd_6 dy_7 nd_8 co_9 od_10 wo_11 (le d2)).2.2.1) le pe ((s_X3_takes aw_3 tk_4 n_5 kd_6 dy_7 nd_8 co_9 od_10 wo_11 (le d2)).2.2.2.1) td ys la ri ((s_X3_takes aw_3 tk_4 n_5 kd_6 dy_7 nd_8 co_9 od_10 wo_11 (le d2)).2.2.2.2.1) ((s_X3_takes aw_3 tk_4 n_5 kd_6 dy_7 nd_8 co_9 od_10 wo_11 (le d2)).2.2.2.2.2.1) ((s_X3_takes aw_3 tk_4 n_5 kd_6 dy_7 nd_8 co_9 od_10 wo_11 (le d2)).2.2.2.2.2.2.1) ((s_X3_takes aw_3 tk_4 n_5 kd_6 dy_7 nd_8 co_9 od_10 wo_11 (le d2)).2.2.2.2.2.2.2.1) ((s_X3_takes aw_3 tk_4 n_5 kd_6 dy_7 nd_8 co_9 od_10 wo_11 (le d2)).2.2.2.2.2.2.2.2.1) ((s_X3_takes aw_3 tk_4 n_5 kd_6 dy_7 nd_8 co_9 od_10 wo_11 (le d2)).2.2.2.2.2.2.2.2.2)) (st' := [.int ((s_X3_takes aw_3 tk_4 n_5 kd_6 dy_7 nd_8 co_9 od_10 wo_11 (le d2)).1)]) h0 rfl [0, 1, 2, 3, 4, 5, 6, 7, 8] (run_V (rest := []) C (c_X3_takes l D t0 t1 h a1 a2 a3 a4 a5 a6 ty aw_3 tk_4 le pe n_5 td ys la ri kd_6 dy_7 nd_8 co_9 od_10 wo_11 (le d2) (by omega) (dis_sub h0 [0, 1, 2, 3, 4, 5, 6, 7, 8] (by decide) rfl)) ok_X3_takes wn_X3_takes wl_X3_takes wm_X3_25 [0, 1, 2, 3, 4, 5, 6, 7, 8] 0 rfl rfl rfl ⟨Nat.le_of_ble_eq_true rfl, Nat.le_of_ble_eq_true rfl⟩ rfl rfl (Nat.le_of_ble_eq_true rfl) dX3_readInto_31) rfl rfl rfl rfl rfl ?_
          refine r_ifne C (tgt := 42) dX3_readInto_34 (by decide) (fun c17 => ?_) (fun c17 => ?_)
          · rw [if_neg c17] at hv
            refine r_inc C (v := nI (d2 + 1)) (lv' := [(2, .int (nI (d2 + 1))), (3, .int (le d2)), (0, .ref t0), (1, .ref h)]) dX3_readInto_42 1 rfl (inc_nI d2) (by decide) rfl ?_
            refine r_goto C (tgt := 7) dX3_readInto_45 (by decide) ?_
            refine r_lv [0, 2, 3] rfl ?_
            exact ih14 (d2 + 1) ((s_X3_takes aw_3 tk_4 n_5 kd_6 dy_7 nd_8 co_9 od_10 wo_11 (le d2)).2.1) ((s_X3_takes aw_3 tk_4 n_5 kd_6 dy_7 nd_8 co_9 od_10 wo_11 (le d2)).2.2.1) ((s_X3_takes aw_3 tk_4 n_5 kd_6 dy_7 nd_8 co_9 od_10 wo_11 (le d2)).2.2.2.1) ((s_X3_takes aw_3 tk_4 n_5 kd_6 dy_7 nd_8 co_9 od_10 wo_11 (le d2)).2.2.2.2.1) ((s_X3_takes aw_3 tk_4 n_5 kd_6 dy_7 nd_8 co_9 od_10 wo_11 (le d2)).2.2.2.2.2.1) ((s_X3_takes aw_3 tk_4 n_5 kd_6 dy_7 nd_8 co_9 od_10 wo_11 (le d2)).2.2.2.2.2.2.1) ((s_X3_takes aw_3 tk_4 n_5 kd_6 dy_7 nd_8 co_9 od_10 wo_11 (le d2)).2.2.2.2.2.2.2.1) ((s_X3_takes aw_3 tk_4 n_5 kd_6 dy_7 nd_8 co_9 od_10 wo_11 (le d2)).2.2.2.2.2.2.2.2.1) ((s_X3_takes aw_3 tk_4 n_5 kd_6 dy_7 nd_8 co_9 od_10 wo_11 (le d2)).2.2.2.2.2.2.2.2.2) (by omega) (by first | omega | exact takes_n hn2) hv
          · rw [if_pos c17] at hv
            refine r_bp C (v := (-20 : Int32)) dX3_readInto_37 (by decide) ?_
            refine r_iln C dX3_readInto_39 rfl 1 rfl ?_
            refine r_isub C dX3_readInto_40 ?_
            exact r_iret rfl C (by rw [← hv]) (by rw [← hv]) dX3_readInto_41
  refine r_lve (lv2 := [(2, .int (nI 0)), (0, .ref t0), (1, .ref h)]) (congrArg (fun (z : Int32) => ([(2, .int z), (0, .ref t0), (1, .ref h)] : List (Nat × Value))) rfl) ?_
  exact L18 ty 0 (0 : Int32) tk n kd dy nd co od wo (by omega) hn hv

def s_X2_holds (ln : Nat → Int32) (sheet : Nat) : Int32 := (if ln sheet = (-1 : Int32) then (0 : Int32) else (1 : Int32))
set_option maxHeartbeats 8000000 in
set_option maxRecDepth 100000 in
theorem c_X2_holds (l : Launch) (D : va_G) (s0 : Nat) (s1 : Nat) (s2 : Nat) (s3 : Nat) (ln : Nat → Int32) (sz : Nat → Int32) (it : Nat → Int64) (sheet : Nat) (hs : sheet < 4) : ct l yX2_holds cX2_holds 2 (some .boolean) 0 0 D [.ref s0, .int (nI sheet)] (wS D s0 s1 s2 s3 ln sz it) (wS D s0 s1 s2 s3 ln sz it) (fun _ => False) (some (Value.int (s_X2_holds ln sheet))) := by
  obtain ⟨V, hv⟩ : ∃ V, s_X2_holds ln sheet = V := ⟨_, rfl⟩
  rw [hv]
  refine ct_intro (own := RX2) (lv := [(0, .ref s0), (1, .int (nI sheet))]) (by decide) rfl (Nat.le_of_ble_eq_true rfl) rfl ?_
  intro p_ e_ s_ m_ below_ meth_ c_ C
  have hv : (if ln sheet = (-1 : Int32) then (0 : Int32) else (1 : Int32)) = V := hv
  refine r_aln C dX2_holds_0 rfl 0 rfl ?_
  refine gf_X2_9 C 0 rfl rfl dX2_holds_1 ?_
  refine r_iln C dX2_holds_4 rfl 1 rfl ?_
  refine r_iald C 1 sheet rfl rfl (by omega) (by decide) rfl dX2_holds_5 ?_
  refine r_ic C (v := (-1 : Int32)) dX2_holds_6 (by decide) ?_
  refine r_iceq C (tgt := 14) dX2_holds_7 (by decide) (fun c1 => ?_) (fun c1 => ?_)
  · rw [if_pos c1] at hv
    refine r_ic C (v := (0 : Int32)) dX2_holds_14 (by decide) ?_
    exact r_zret rfl C rfl (congrArg (fun z => some (Value.int z)) hv) rfl dX2_holds_15
  · rw [if_neg c1] at hv
    refine r_ic C (v := (1 : Int32)) dX2_holds_10 (by decide) ?_
    refine r_goto C (tgt := 15) dX2_holds_11 (by decide) ?_
    exact r_zret rfl C rfl (congrArg (fun z => some (Value.int z)) hv) rfl dX2_holds_15

def s_X2_reaches (sz : Nat → Int32) (sheet : Nat) (i : Int32) (m : Int32) : Int32 := (if i < (0 : Int32) then (0 : Int32) else (if m < (0 : Int32) then (0 : Int32) else (if sz sheet < i then (0 : Int32) else (if (sz sheet) - i < m then (0 : Int32) else (1 : Int32)))))
set_option maxHeartbeats 8000000 in
set_option maxRecDepth 100000 in
theorem c_X2_reaches (l : Launch) (D : va_G) (s0 : Nat) (s1 : Nat) (s2 : Nat) (s3 : Nat) (ln : Nat → Int32) (sz : Nat → Int32) (it : Nat → Int64) (sheet : Nat) (i : Int32) (m : Int32) (hs : sheet < 4) : ct l yX2_reaches cX2_reaches 4 (some .boolean) 0 0 D [.ref s0, .int (nI sheet), .int i, .int m] (wS D s0 s1 s2 s3 ln sz it) (wS D s0 s1 s2 s3 ln sz it) (fun _ => False) (some (Value.int (s_X2_reaches sz sheet i m))) := by
  obtain ⟨V, hv⟩ : ∃ V, s_X2_reaches sz sheet i m = V := ⟨_, rfl⟩
  rw [hv]
  refine ct_intro (own := RX2) (lv := [(0, .ref s0), (1, .int (nI sheet)), (2, .int i), (3, .int m)]) (by decide) rfl (Nat.le_of_ble_eq_true rfl) rfl ?_
  intro p_ e_ s_ m_ below_ meth_ c_ C
  have hv : (if i < (0 : Int32) then (0 : Int32) else (if m < (0 : Int32) then (0 : Int32) else (if sz sheet < i then (0 : Int32) else (if (sz sheet) - i < m then (0 : Int32) else (1 : Int32))))) = V := hv
  refine r_iln C dX2_reaches_0 rfl 2 rfl ?_
  refine r_iflt C (tgt := 34) dX2_reaches_1 (by decide) (fun c1 => ?_) (fun c1 => ?_)
  · rw [if_pos c1] at hv
    refine r_ic C (v := (0 : Int32)) dX2_reaches_34 (by decide) ?_
    exact r_zret rfl C rfl (congrArg (fun z => some (Value.int z)) hv) rfl dX2_reaches_35
  · rw [if_neg c1] at hv
    refine r_iln C dX2_reaches_4 rfl 3 rfl ?_
    refine r_iflt C (tgt := 34) dX2_reaches_5 (by decide) (fun c2 => ?_) (fun c2 => ?_)
    · rw [if_pos c2] at hv
      refine r_ic C (v := (0 : Int32)) dX2_reaches_34 (by decide) ?_
      exact r_zret rfl C rfl (congrArg (fun z => some (Value.int z)) hv) rfl dX2_reaches_35
    · rw [if_neg c2] at hv
      refine r_iln C dX2_reaches_8 rfl 2 rfl ?_
      refine r_aln C dX2_reaches_9 rfl 0 rfl ?_
      refine gf_X2_15 C 0 rfl rfl dX2_reaches_10 ?_
      refine r_iln C dX2_reaches_13 rfl 1 rfl ?_
      refine r_iald C 2 sheet rfl rfl (by omega) (by decide) rfl dX2_reaches_14 ?_
      refine r_icgt C (tgt := 34) dX2_reaches_15 (by decide) (fun c3 => ?_) (fun c3 => ?_)
      · rw [if_pos c3] at hv
        refine r_ic C (v := (0 : Int32)) dX2_reaches_34 (by decide) ?_
        exact r_zret rfl C rfl (congrArg (fun z => some (Value.int z)) hv) rfl dX2_reaches_35
      · rw [if_neg c3] at hv
        refine r_iln C dX2_reaches_18 rfl 3 rfl ?_
        refine r_aln C dX2_reaches_19 rfl 0 rfl ?_
        refine gf_X2_15 C 0 rfl rfl dX2_reaches_20 ?_
        refine r_iln C dX2_reaches_23 rfl 1 rfl ?_
        refine r_iald C 2 sheet rfl rfl (by omega) (by decide) rfl dX2_reaches_24 ?_
        refine r_iln C dX2_reaches_25 rfl 2 rfl ?_
        refine r_isub C dX2_reaches_26 ?_
        refine r_icgt C (tgt := 34) dX2_reaches_27 (by decide) (fun c4 => ?_) (fun c4 => ?_)
        · rw [if_pos c4] at hv
          refine r_ic C (v := (0 : Int32)) dX2_reaches_34 (by decide) ?_
          exact r_zret rfl C rfl (congrArg (fun z => some (Value.int z)) hv) rfl dX2_reaches_35
        · rw [if_neg c4] at hv
          refine r_ic C (v := (1 : Int32)) dX2_reaches_30 (by decide) ?_
          refine r_goto C (tgt := 35) dX2_reaches_31 (by decide) ?_
          exact r_zret rfl C rfl (congrArg (fun z => some (Value.int z)) hv) rfl dX2_reaches_35

def s_X2_faultOf (ln : Nat → Int32) (sz : Nat → Int32) (sheet : Int32) (asLane : Int32) (i : Int32) (m : Int32) : Int32 := (if s_X6_isSheet sheet = (0 : Int32) then (-1 : Int32) else (if s_X6_isLane asLane = (0 : Int32) then (-1 : Int32) else (if s_X2_holds ln sheet.toNatClampNeg = (0 : Int32) then (-11 : Int32) else (if ln sheet.toNatClampNeg = asLane then (if s_X2_reaches sz sheet.toNatClampNeg i m = (0 : Int32) then (-13 : Int32) else (0 : Int32)) else (-12 : Int32)))))
set_option maxHeartbeats 8000000 in
set_option maxRecDepth 100000 in
theorem c_X2_faultOf (l : Launch) (D : va_G) (s0 : Nat) (s1 : Nat) (s2 : Nat) (s3 : Nat) (ln : Nat → Int32) (sz : Nat → Int32) (it : Nat → Int64) (sheet : Int32) (asLane : Int32) (i : Int32) (m : Int32) : ct l yX2_faultOf cX2_faultOf 5 (some .int) 1 23 D [.ref s0, .int sheet, .int asLane, .int i, .int m] (wS D s0 s1 s2 s3 ln sz it) (wS D s0 s1 s2 s3 ln sz it) (fun _ => False) (some (Value.int (s_X2_faultOf ln sz sheet asLane i m))) := by
  obtain ⟨V, hv⟩ : ∃ V, s_X2_faultOf ln sz sheet asLane i m = V := ⟨_, rfl⟩
  rw [hv]
  refine ct_intro (own := RX2) (lv := [(0, .ref s0), (1, .int sheet), (2, .int asLane), (3, .int i), (4, .int m)]) (by decide) rfl (Nat.le_of_ble_eq_true rfl) rfl ?_
  intro p_ e_ s_ m_ below_ meth_ c_ C
  have hv : (if s_X6_isSheet sheet = (0 : Int32) then (-1 : Int32) else (if s_X6_isLane asLane = (0 : Int32) then (-1 : Int32) else (if s_X2_holds ln sheet.toNatClampNeg = (0 : Int32) then (-11 : Int32) else (if ln sheet.toNatClampNeg = asLane then (if s_X2_reaches sz sheet.toNatClampNeg i m = (0 : Int32) then (-13 : Int32) else (0 : Int32)) else (-12 : Int32))))) = V := hv
  refine r_iln C dX2_faultOf_0 rfl 1 rfl ?_
  refine aft_rd (st' := [.int (s_X6_isSheet sheet)]) (run_SN (rest := []) C (c_X6_isSheet l D sheet ) ok_X6_isSheet ws_X6_isSheet wm_X2_22 [] rfl ⟨Nat.le_of_ble_eq_true rfl, Nat.le_of_ble_eq_true rfl⟩ rfl rfl (Nat.le_of_ble_eq_true rfl) dX2_faultOf_1) rfl ?_
  refine r_ifeq C (tgt := 14) dX2_faultOf_4 (by decide) (fun c1 => ?_) (fun c1 => ?_)
  · rw [if_pos c1] at hv
    refine r_ic C (v := (-1 : Int32)) dX2_faultOf_14 (by decide) ?_
    exact r_iret rfl C (congrArg (fun z => some (Value.int z)) hv) rfl dX2_faultOf_15
  · rw [if_neg c1] at hv
    have e2 := isSheet_nat c1
    refine r_iln C dX2_faultOf_7 rfl 2 rfl ?_
    refine aft_rd (st' := [.int (s_X6_isLane asLane)]) (run_SN (rest := []) C (c_X6_isLane l D asLane ) ok_X6_isLane ws_X6_isLane wm_X2_26 [] rfl ⟨Nat.le_of_ble_eq_true rfl, Nat.le_of_ble_eq_true rfl⟩ rfl rfl (Nat.le_of_ble_eq_true rfl) dX2_faultOf_8) rfl ?_
    refine r_ifne C (tgt := 16) dX2_faultOf_11 (by decide) (fun c3 => ?_) (fun c3 => ?_)
    · rw [if_neg c3] at hv
      refine r_aln C dX2_faultOf_16 rfl 0 rfl ?_
      refine r_iln C dX2_faultOf_17 rfl 1 rfl ?_
      refine r_stk (st2 := [.int (nI sheet.toNatClampNeg), .ref s0]) (congrArg (fun (z : Int32) => ([.int z, .ref s0] : List Value)) e2.1) ?_
      refine aft_rd (st' := [.int (s_X2_holds ln sheet.toNatClampNeg)]) (run_V (rest := []) C (c_X2_holds l D s0 s1 s2 s3 ln sz it sheet.toNatClampNeg (by omega)) ok_X2_holds wn_X2_holds wl_X2_holds wm_X2_29 [0, 1, 2, 3] 0 rfl rfl rfl ⟨Nat.le_of_ble_eq_true rfl, Nat.le_of_ble_eq_true rfl⟩ rfl rfl (Nat.le_of_ble_eq_true rfl) dX2_faultOf_18) rfl ?_
      refine r_ifne C (tgt := 27) dX2_faultOf_21 (by decide) (fun c4 => ?_) (fun c4 => ?_)
      · rw [if_neg c4] at hv
        refine r_aln C dX2_faultOf_27 rfl 0 rfl ?_
        refine gf_X2_9 C 0 rfl rfl dX2_faultOf_28 ?_
        refine r_iln C dX2_faultOf_31 rfl 1 rfl ?_
        refine r_iald C 1 sheet.toNatClampNeg rfl e2.1 (by omega) (by decide) rfl dX2_faultOf_32 ?_
        refine r_iln C dX2_faultOf_33 rfl 2 rfl ?_
        refine r_iceq C (tgt := 40) dX2_faultOf_34 (by decide) (fun c5 => ?_) (fun c5 => ?_)
        · rw [if_pos c5] at hv
          refine r_aln C dX2_faultOf_40 rfl 0 rfl ?_
          refine r_iln C dX2_faultOf_41 rfl 1 rfl ?_
          refine r_iln C dX2_faultOf_42 rfl 3 rfl ?_
          refine r_il C dX2_faultOf_43 4 rfl ?_
          refine r_stk (st2 := [.int m, .int i, .int (nI sheet.toNatClampNeg), .ref s0]) (congrArg (fun (z : Int32) => ([.int m, .int i, .int z, .ref s0] : List Value)) e2.1) ?_
          refine aft_rd (st' := [.int (s_X2_reaches sz sheet.toNatClampNeg i m)]) (run_V (rest := []) C (c_X2_reaches l D s0 s1 s2 s3 ln sz it sheet.toNatClampNeg i m (by omega)) ok_X2_reaches wn_X2_reaches wl_X2_reaches wm_X2_32 [0, 1, 2, 3] 0 rfl rfl rfl ⟨Nat.le_of_ble_eq_true rfl, Nat.le_of_ble_eq_true rfl⟩ rfl rfl (Nat.le_of_ble_eq_true rfl) dX2_faultOf_45) rfl ?_
          refine r_ifeq C (tgt := 55) dX2_faultOf_48 (by decide) (fun c6 => ?_) (fun c6 => ?_)
          · rw [if_pos c6] at hv
            refine r_bp C (v := (-13 : Int32)) dX2_faultOf_55 (by decide) ?_
            exact r_iret rfl C (congrArg (fun z => some (Value.int z)) hv) rfl dX2_faultOf_57
          · rw [if_neg c6] at hv
            refine r_ic C (v := (0 : Int32)) dX2_faultOf_51 (by decide) ?_
            refine r_goto C (tgt := 57) dX2_faultOf_52 (by decide) ?_
            exact r_iret rfl C (congrArg (fun z => some (Value.int z)) hv) rfl dX2_faultOf_57
        · rw [if_neg c5] at hv
          refine r_bp C (v := (-12 : Int32)) dX2_faultOf_37 (by decide) ?_
          exact r_iret rfl C (congrArg (fun z => some (Value.int z)) hv) rfl dX2_faultOf_39
      · rw [if_pos c4] at hv
        refine r_bp C (v := (-11 : Int32)) dX2_faultOf_24 (by decide) ?_
        exact r_iret rfl C (congrArg (fun z => some (Value.int z)) hv) rfl dX2_faultOf_26
    · rw [if_pos c3] at hv
      refine r_ic C (v := (-1 : Int32)) dX2_faultOf_14 (by decide) ?_
      exact r_iret rfl C (congrArg (fun z => some (Value.int z)) hv) rfl dX2_faultOf_15

def s_X2_begin_L17 (sheet : Nat) : Nat → Nat → (Nat → Int64) → (Nat → Int64)
  | 0, _, it_3 => it_3
  | k1 + 1, d2, it_3 => (s_X2_begin_L17 sheet k1 (d2 + 1) (vp_updL it_3 ((sheet * 16) + d2) (0 : Int64)))
def s_X2_begin (ln : Nat → Int32) (sz : Nat → Int32) (it : Nat → Int64) (sheet : Nat) (itsLane : Int32) (m : Int32) : (Nat → Int32) × (Nat → Int32) × (Nat → Int64) := (upd ln sheet itsLane, upd sz sheet m, (s_X2_begin_L17 sheet 16 0 it))
set_option maxHeartbeats 8000000 in
set_option maxRecDepth 100000 in
theorem c_X2_begin (l : Launch) (D : va_G) (s0 : Nat) (s1 : Nat) (s2 : Nat) (s3 : Nat) (ln : Nat → Int32) (sz : Nat → Int32) (it : Nat → Int64) (sheet : Nat) (itsLane : Int32) (m : Int32) (hs : sheet < 4) (h0 : va_D (fun _ => True) (wS D s0 s1 s2 s3 ln sz it)) : ct l yX2_begin cX2_begin 5 none 0 0 D [.ref s0, .int (nI sheet), .int itsLane, .int m] (wS D s0 s1 s2 s3 ln sz it) (wS D s0 s1 s2 s3 (s_X2_begin ln sz it sheet itsLane m).1 (s_X2_begin ln sz it sheet itsLane m).2.1 (s_X2_begin ln sz it sheet itsLane m).2.2) (Ad (wS D s0 s1 s2 s3 ln sz it)) (none) := by
  obtain ⟨V, hv⟩ : ∃ V, s_X2_begin ln sz it sheet itsLane m = V := ⟨_, rfl⟩
  rw [hv]
  refine ct_intro (own := RX2) (lv := [(0, .ref s0), (1, .int (nI sheet)), (2, .int itsLane), (3, .int m)]) (by decide) rfl (Nat.le_of_ble_eq_true rfl) rfl ?_
  intro p_ e_ s_ m_ below_ meth_ c_ C
  have hv : (upd ln sheet itsLane, upd sz sheet m, (s_X2_begin_L17 sheet 16 0 it)) = V := hv
  refine r_aln C dX2_begin_0 rfl 0 rfl ?_
  refine gf_X2_9 C 0 rfl rfl dX2_begin_1 ?_
  refine r_iln C dX2_begin_4 rfl 1 rfl ?_
  refine r_iln C dX2_begin_5 rfl 2 rfl ?_
  refine r_iast C (ws2 := wS D s0 s1 s2 s3 (upd ln sheet itsLane) sz it) h0 rfl 1 sheet rfl rfl (by omega) (by decide) dX2_begin_6 rfl rfl ?_
  refine r_aln C dX2_begin_7 rfl 0 rfl ?_
  refine gf_X2_15 C 0 rfl rfl dX2_begin_8 ?_
  refine r_iln C dX2_begin_11 rfl 1 rfl ?_
  refine r_iln C dX2_begin_12 rfl 3 rfl ?_
  refine r_iast C (ws2 := wS D s0 s1 s2 s3 (upd ln sheet itsLane) (upd sz sheet m) it) h0 rfl 2 sheet rfl rfl (by omega) (by decide) dX2_begin_13 rfl rfl ?_
  refine r_ic C (v := (0 : Int32)) dX2_begin_14 (by decide) ?_
  refine r_is C (lv' := [(4, .int (0 : Int32)), (0, .ref s0), (1, .int (nI sheet)), (2, .int itsLane), (3, .int m)]) dX2_begin_15 (by decide) rfl ?_
  have L7 : ∀ (k1 : Nat) (d2 : Nat) (it_3 : Nat → Int64), (d2 + k1 = 16) → (upd ln sheet itsLane, upd sz sheet m, (s_X2_begin_L17 sheet k1 d2 it_3)) = V → GM p_ l e_ s_ m_ below_ meth_ c_ D 0 0 5 [.ref s0, .int (nI sheet), .int itsLane, .int m] (wS D s0 s1 s2 s3 V.1 V.2.1 V.2.2) (Ad (wS D s0 s1 s2 s3 ln sz it)) (none) (wS D s0 s1 s2 s3 (upd ln sheet itsLane) (upd sz sheet m) it_3) 17 [(4, .int (nI d2)), (0, .ref s0), (1, .int (nI sheet)), (2, .int itsLane), (3, .int m)] [] := by
    intro k1
    induction k1 with
    | zero =>
      intro d2 it_3 hk hv
      have hv : (upd ln sheet itsLane, upd sz sheet m, it_3) = V := hv
      refine r_il C dX2_begin_17 0 rfl ?_
      refine r_bp C (v := (16 : Int32)) dX2_begin_19 (by decide) ?_
      refine r_icge C (tgt := 43) dX2_begin_21 (by decide) (fun c4 => ?_) (fun c4 => ?_)
      · skip
        exact r_vret rfl C (by rw [← hv]) dX2_begin_43
      · exact absurd c4 (fun z => absurd ((nv_lt (a := d2) (b := 16) rfl rfl (by omega) (by omega)).mp z) (by omega))
    | succ k1 ih5 =>
      intro d2 it_3 hk hv
      have hv : (upd ln sheet itsLane, upd sz sheet m, (s_X2_begin_L17 sheet k1 (d2 + 1) (vp_updL it_3 ((sheet * 16) + d2) (0 : Int64)))) = V := hv
      refine r_il C dX2_begin_17 0 rfl ?_
      refine r_bp C (v := (16 : Int32)) dX2_begin_19 (by decide) ?_
      refine r_icge C (tgt := 43) dX2_begin_21 (by decide) (fun c6 => ?_) (fun c6 => ?_)
      · exact absurd ((nv_lt (a := d2) (b := 16) rfl rfl (by omega) (by omega)).mpr (by omega)) c6
      · skip
        refine r_aln C dX2_begin_24 rfl 1 rfl ?_
        refine gf_X2_18 C 0 rfl rfl dX2_begin_25 ?_
        refine r_iln C dX2_begin_28 rfl 2 rfl ?_
        refine r_bp C (v := (16 : Int32)) dX2_begin_29 (by decide) ?_
        refine r_imul C dX2_begin_31 ?_
        refine r_il C dX2_begin_32 0 rfl ?_
        refine r_iadd C dX2_begin_34 ?_
        refine r_lc C (v := (0 : Int64)) dX2_begin_35 (by decide) ?_
        refine r_last C (ws2 := wS D s0 s1 s2 s3 (upd ln sheet itsLane) (upd sz sheet m) (vp_updL it_3 ((sheet * 16) + d2) (0 : Int64))) h0 rfl 3 ((sheet * 16) + d2) rfl (nv_add (nv_mul rfl rfl) rfl) (by omega) (by decide) dX2_begin_36 rfl rfl ?_
        refine r_inc C (v := nI (d2 + 1)) (lv' := [(4, .int (nI (d2 + 1))), (0, .ref s0), (1, .int (nI sheet)), (2, .int itsLane), (3, .int m)]) dX2_begin_37 0 rfl (inc_nI d2) (by decide) rfl ?_
        refine r_goto C (tgt := 17) dX2_begin_40 (by decide) ?_
        exact ih5 (d2 + 1) (vp_updL it_3 ((sheet * 16) + d2) (0 : Int64)) (by omega) hv
  refine r_lve (lv2 := [(4, .int (nI 0)), (0, .ref s0), (1, .int (nI sheet)), (2, .int itsLane), (3, .int m)]) (congrArg (fun (z : Int32) => ([(4, .int z), (0, .ref s0), (1, .int (nI sheet)), (2, .int itsLane), (3, .int m)] : List (Nat × Value))) rfl) ?_
  exact L7 16 0 it (by omega) hv

def s_X2_at (it : Nat → Int64) (sheet : Nat) (i : Nat) : Int64 := it ((sheet * 16) + i)
set_option maxHeartbeats 8000000 in
set_option maxRecDepth 100000 in
theorem c_X2_at (l : Launch) (D : va_G) (s0 : Nat) (s1 : Nat) (s2 : Nat) (s3 : Nat) (ln : Nat → Int32) (sz : Nat → Int32) (it : Nat → Int64) (sheet : Nat) (i : Nat) (hs : sheet < 4) (hi : i < 16) : ct l yX2_at cX2_at 3 (some .long) 0 0 D [.ref s0, .int (nI sheet), .int (nI i)] (wS D s0 s1 s2 s3 ln sz it) (wS D s0 s1 s2 s3 ln sz it) (fun _ => False) (some (Value.long (s_X2_at it sheet i))) := by
  obtain ⟨V, hv⟩ : ∃ V, s_X2_at it sheet i = V := ⟨_, rfl⟩
  rw [hv]
  refine ct_intro (own := RX2) (lv := [(0, .ref s0), (1, .int (nI sheet)), (2, .int (nI i))]) (by decide) rfl (Nat.le_of_ble_eq_true rfl) rfl ?_
  intro p_ e_ s_ m_ below_ meth_ c_ C
  have hv : it ((sheet * 16) + i) = V := hv
  refine r_aln C dX2_at_0 rfl 0 rfl ?_
  refine gf_X2_18 C 0 rfl rfl dX2_at_1 ?_
  refine r_iln C dX2_at_4 rfl 1 rfl ?_
  refine r_bp C (v := (16 : Int32)) dX2_at_5 (by decide) ?_
  refine r_imul C dX2_at_7 ?_
  refine r_iln C dX2_at_8 rfl 2 rfl ?_
  refine r_iadd C dX2_at_9 ?_
  refine r_lald C 3 ((sheet * 16) + i) rfl (nv_add (nv_mul rfl rfl) rfl) (by omega) (by decide) rfl dX2_at_10 ?_
  exact r_lret rfl C (congrArg (fun z => some (Value.long z)) hv) rfl dX2_at_11

def s_X2_lowest (lane : Int32) (v : Int64) : Int64 := (if lane = (0 : Int32) then v.toInt32.toInt8.toInt32.toInt64 else (if lane = (1 : Int32) then v.toInt32.toInt16.toInt32.toInt64 else (if lane = (2 : Int32) then v.toInt32.toInt64 else v)))
set_option maxHeartbeats 8000000 in
set_option maxRecDepth 100000 in
theorem c_X2_lowest (l : Launch) (D : va_G) (lane : Int32) (v : Int64) : ct l yX2_lowest cX2_lowest 3 (some .long) 0 0 D [.int lane, .long v] (([] : va_W)) (([] : va_W)) (fun _ => False) (some (Value.long (s_X2_lowest lane v))) := by
  obtain ⟨V, hv⟩ : ∃ V, s_X2_lowest lane v = V := ⟨_, rfl⟩
  rw [hv]
  refine ct_intro (own := RX2) (lv := [(0, .int lane), (1, .long v)]) (by decide) rfl (Nat.le_of_ble_eq_true rfl) rfl ?_
  intro p_ e_ s_ m_ below_ meth_ c_ C
  have hv : (if lane = (0 : Int32) then v.toInt32.toInt8.toInt32.toInt64 else (if lane = (1 : Int32) then v.toInt32.toInt16.toInt32.toInt64 else (if lane = (2 : Int32) then v.toInt32.toInt64 else v))) = V := hv
  refine r_iln C dX2_lowest_0 rfl 0 rfl ?_
  by_cases c1 : lane = (0 : Int32)
  · rw [if_pos c1] at hv
    refine r_tabIn C (tgt := 28) dX2_lowest_1 (by rw [c1]; decide) (by rw [c1]; decide) (by rw [c1]; rfl) (by decide) ?_
    refine r_lln C dX2_lowest_28 rfl 1 rfl ?_
    refine r_l2i C dX2_lowest_29 ?_
    refine r_i2b C dX2_lowest_30 ?_
    refine r_i2l C dX2_lowest_31 ?_
    exact r_lret rfl C (congrArg (fun z => some (Value.long z)) hv) rfl dX2_lowest_32
  · rw [if_neg c1] at hv
    by_cases c2 : lane = (1 : Int32)
    · rw [if_pos c2] at hv
      refine r_tabIn C (tgt := 33) dX2_lowest_1 (by rw [c2]; decide) (by rw [c2]; decide) (by rw [c2]; rfl) (by decide) ?_
      refine r_lln C dX2_lowest_33 rfl 1 rfl ?_
      refine r_l2i C dX2_lowest_34 ?_
      refine r_i2s C dX2_lowest_35 ?_
      refine r_i2l C dX2_lowest_36 ?_
      exact r_lret rfl C (congrArg (fun z => some (Value.long z)) hv) rfl dX2_lowest_37
    · rw [if_neg c2] at hv
      by_cases c3 : lane = (2 : Int32)
      · rw [if_pos c3] at hv
        refine r_tabIn C (tgt := 38) dX2_lowest_1 (by rw [c3]; decide) (by rw [c3]; decide) (by rw [c3]; rfl) (by decide) ?_
        refine r_lln C dX2_lowest_38 rfl 1 rfl ?_
        refine r_l2i C dX2_lowest_39 ?_
        refine r_i2l C dX2_lowest_40 ?_
        exact r_lret rfl C (congrArg (fun z => some (Value.long z)) hv) rfl dX2_lowest_41
      · rw [if_neg c3] at hv
        have nc1 : lane.toInt ≠ 0 := fun z => c1 (i32_eq _ _ 0 (by decide) z)
        have nc2 : lane.toInt ≠ 1 := fun z => c2 (i32_eq _ _ 1 (by decide) z)
        have nc3 : lane.toInt ≠ 2 := fun z => c3 (i32_eq _ _ 2 (by decide) z)
        refine r_tabOut C (tgt := 42) dX2_lowest_1 (by omega) (by decide) ?_
        refine r_lln C dX2_lowest_42 rfl 1 rfl ?_
        exact r_lret rfl C (congrArg (fun z => some (Value.long z)) hv) rfl dX2_lowest_43

def s_X2_put (ln : Nat → Int32) (it : Nat → Int64) (sheet : Nat) (i : Nat) (v : Int64) : (Nat → Int64) := vp_updL it ((sheet * 16) + i) (s_X2_lowest (ln sheet) v)
set_option maxHeartbeats 8000000 in
set_option maxRecDepth 100000 in
theorem c_X2_put (l : Launch) (D : va_G) (s0 : Nat) (s1 : Nat) (s2 : Nat) (s3 : Nat) (ln : Nat → Int32) (sz : Nat → Int32) (it : Nat → Int64) (sheet : Nat) (i : Nat) (v : Int64) (hs : sheet < 4) (hi : i < 16) (h0 : va_D (fun _ => True) (wS D s0 s1 s2 s3 ln sz it)) : ct l yX2_put cX2_put 5 none 1 22 D [.ref s0, .int (nI sheet), .int (nI i), .long v] (wS D s0 s1 s2 s3 ln sz it) (wS D s0 s1 s2 s3 ln sz (s_X2_put ln it sheet i v)) (Ad (wS D s0 s1 s2 s3 ln sz it)) (none) := by
  obtain ⟨V, hv⟩ : ∃ V, s_X2_put ln it sheet i v = V := ⟨_, rfl⟩
  rw [hv]
  refine ct_intro (own := RX2) (lv := [(0, .ref s0), (1, .int (nI sheet)), (2, .int (nI i)), (3, .long v)]) (by decide) rfl (Nat.le_of_ble_eq_true rfl) rfl ?_
  intro p_ e_ s_ m_ below_ meth_ c_ C
  have hv : vp_updL it ((sheet * 16) + i) (s_X2_lowest (ln sheet) v) = V := hv
  refine r_aln C dX2_put_0 rfl 0 rfl ?_
  refine gf_X2_18 C 0 rfl rfl dX2_put_1 ?_
  refine r_iln C dX2_put_4 rfl 1 rfl ?_
  refine r_bp C (v := (16 : Int32)) dX2_put_5 (by decide) ?_
  refine r_imul C dX2_put_7 ?_
  refine r_iln C dX2_put_8 rfl 2 rfl ?_
  refine r_iadd C dX2_put_9 ?_
  refine r_aln C dX2_put_10 rfl 0 rfl ?_
  refine gf_X2_9 C 0 rfl rfl dX2_put_11 ?_
  refine r_iln C dX2_put_14 rfl 1 rfl ?_
  refine r_iald C 1 sheet rfl rfl (by omega) (by decide) rfl dX2_put_15 ?_
  refine r_lln C dX2_put_16 rfl 3 rfl ?_
  refine aft_rd (st' := [.long (s_X2_lowest (ln sheet) v), .int (((nI sheet) * (16 : Int32)) + (nI i)), .ref s3]) (run_S (rest := [.int (((nI sheet) * (16 : Int32)) + (nI i)), .ref s3]) C (c_X2_lowest l D (ln sheet) v ) ok_X2_lowest ws_X2_lowest wm_X2_36 [] rfl ⟨Nat.le_of_ble_eq_true rfl, Nat.le_of_ble_eq_true rfl⟩ rfl rfl (Nat.le_of_ble_eq_true rfl) dX2_put_17) rfl ?_
  refine r_last C (ws2 := wS D s0 s1 s2 s3 ln sz (vp_updL it ((sheet * 16) + i) (s_X2_lowest (ln sheet) v))) h0 rfl 3 ((sheet * 16) + i) rfl (nv_add (nv_mul rfl rfl) rfl) (by omega) (by decide) dX2_put_20 rfl rfl ?_
  exact r_vret rfl C (by rw [← hv]) dX2_put_21

def s_X2_move (it : Nat → Int64) (sa : Nat) (i : Nat) (sb : Nat) (j : Nat) (m : Nat) : (Nat → Int64) := va_cpy it it ((sa * 16) + i) ((sb * 16) + j) m
set_option maxHeartbeats 8000000 in
set_option maxRecDepth 100000 in
theorem c_X2_move (l : Launch) (D : va_G) (s0 : Nat) (s1 : Nat) (s2 : Nat) (s3 : Nat) (ln : Nat → Int32) (sz : Nat → Int32) (it : Nat → Int64) (sa : Nat) (i : Nat) (sb : Nat) (j : Nat) (m : Nat) (hs : sa < 4) (hs2 : sb < 4) (hi : i + m ≤ 16) (hj : j + m ≤ 16) (h0 : va_D (fun _ => True) (wS D s0 s1 s2 s3 ln sz it)) : ct l yX2_move cX2_move 6 none 1 80 D [.ref s0, .int (nI sa), .int (nI i), .int (nI sb), .int (nI j), .int (nI m)] (wS D s0 s1 s2 s3 ln sz it) (wS D s0 s1 s2 s3 ln sz (s_X2_move it sa i sb j m)) (Ad (wS D s0 s1 s2 s3 ln sz it)) (none) := by
  obtain ⟨V, hv⟩ : ∃ V, s_X2_move it sa i sb j m = V := ⟨_, rfl⟩
  rw [hv]
  refine ct_intro (own := RX2) (lv := [(0, .ref s0), (1, .int (nI sa)), (2, .int (nI i)), (3, .int (nI sb)), (4, .int (nI j)), (5, .int (nI m))]) (by decide) rfl (Nat.le_of_ble_eq_true rfl) rfl ?_
  intro p_ e_ s_ m_ below_ meth_ c_ C
  have hv : va_cpy it it ((sa * 16) + i) ((sb * 16) + j) m = V := hv
  refine r_aln C dX2_move_0 rfl 0 rfl ?_
  refine gf_X2_18 C 0 rfl rfl dX2_move_1 ?_
  refine r_iln C dX2_move_4 rfl 1 rfl ?_
  refine r_bp C (v := (16 : Int32)) dX2_move_5 (by decide) ?_
  refine r_imul C dX2_move_7 ?_
  refine r_iln C dX2_move_8 rfl 2 rfl ?_
  refine r_iadd C dX2_move_9 ?_
  refine r_aln C dX2_move_10 rfl 0 rfl ?_
  refine gf_X2_18 C 0 rfl rfl dX2_move_11 ?_
  refine r_iln C dX2_move_14 rfl 3 rfl ?_
  refine r_bp C (v := (16 : Int32)) dX2_move_15 (by decide) ?_
  refine r_imul C dX2_move_17 ?_
  refine r_il C dX2_move_18 4 rfl ?_
  refine r_iadd C dX2_move_20 ?_
  refine r_il C dX2_move_21 5 rfl ?_
  refine r_cpyl C (ws2 := wS D s0 s1 s2 s3 ln sz (va_cpy it it ((sa * 16) + i) ((sb * 16) + j) m)) wm_X2_40 h0 rfl 3 3 ((sa * 16) + i) ((sb * 16) + j) m rfl rfl (nv_add (nv_mul rfl rfl) rfl) (nv_add (nv_mul rfl rfl) rfl) rfl (by omega) (by omega) (by decide) (by decide) (by decide) (by decide) dX2_move_23 rfl rfl ?_
  exact r_vret rfl C (by rw [← hv]) dX2_move_26
