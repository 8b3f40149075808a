def s_X7_is (kd : Nat → Int32) (nd : Nat → Int32) (d : Nat) (stand : Int32) (old : Int32) : Int32 := (if nd d = (0 : Int32) then (if kd d = (0 : Int32) then (if (nd d) &&& (stand ^^^ (-1 : Int32)) = (0 : Int32) then (1 : Int32) else (0 : Int32)) else (if kd d = (1 : Int32) then (1 : Int32) else (if kd d = (2 : Int32) then (if (nd d) &&& stand = (0 : Int32) then (1 : Int32) else (0 : Int32)) else (1 : Int32)))) else (if (nd d) &&& stand = (0 : Int32) then (if kd d = (0 : Int32) then (if (nd d) &&& (stand ^^^ (-1 : Int32)) = (0 : Int32) then (1 : Int32) else (0 : Int32)) else (if kd d = (1 : Int32) then (0 : Int32) else (if kd d = (2 : Int32) then (1 : Int32) else (if (old >>> ((nI d) &&& 31)) &&& (1 : Int32) = (1 : Int32) then (1 : Int32) else (0 : Int32))))) else (if kd d = (0 : Int32) then (if (nd d) &&& (stand ^^^ (-1 : Int32)) = (0 : Int32) then (1 : Int32) else (0 : Int32)) else (if kd d = (1 : Int32) then (1 : Int32) else (if kd d = (2 : Int32) then (0 : Int32) else (1 : Int32))))))
set_option maxHeartbeats 8000000 in
set_option maxRecDepth 100000 in
theorem c_X7_is (l : Launch) (D : va_G) (o : Nat) (q1 : Nat) (q2 : Nat) (q3 : Nat) (q4 : Nat) (q5 : Nat) (q6 : Nat) (q7 : Nat) (q8 : Nat) (q9 : Nat) (q10 : Nat) (q11 : Nat) (q12 : Nat) (q13 : Nat) (q14 : Nat) (q15 : Nat) (q16 : Nat) (q17 : Nat) (q18 : Nat) (q19 : Nat) (q20 : Nat) (q21 : Nat) (q22 : Nat) (pe : Nat) (n : Nat) (la : Int32) (ri : Int32) (td : Int32) (ys : Int32) (ty : Nat) (ap : Nat) (wg : Int32) (rd : Nat) (sm : Int32) (bt : Int32) (up : Int64) (lw : Int64) (ii : Int32) (kd : Nat → Int32) (dy : Nat → Int32) (nd : Nat → Int32) (co : Nat → Int32) (od : Nat → Int32) (wo : Nat → Int32) (tp : Nat → Int32) (rk : Nat → Int32) (ry : Nat → Int32) (rn : Nat → Int32) (vs : Nat → Int32) (bs : Nat → Int32) (ch : Nat → Int32) (tr : Nat → Int32) (en : Nat → Int32) (du : Nat → Int32) (ol : Nat → Int32) (ig : Nat → Int32) (ln : Nat → Int32) (sz : Nat → Int32) (it : Nat → Int64) (mo : Nat → Int64) (d : Nat) (stand : Int32) (old : Int32) (hd : d < 12) : ct l yX7_is cX7_is 5 (some .boolean) 0 0 D [.ref o, .int (nI d), .int stand, .int old] (wM D o q1 q2 q3 q4 q5 q6 q7 q8 q9 q10 q11 q12 q13 q14 q15 q16 q17 q18 q19 q20 q21 q22 pe n la ri td ys ty ap wg rd sm bt up lw ii kd dy nd co od wo tp rk ry rn vs bs ch tr en du ol ig ln sz it mo) (wM D o q1 q2 q3 q4 q5 q6 q7 q8 q9 q10 q11 q12 q13 q14 q15 q16 q17 q18 q19 q20 q21 q22 pe n la ri td ys ty ap wg rd sm bt up lw ii kd dy nd co od wo tp rk ry rn vs bs ch tr en du ol ig ln sz it mo) (fun _ => False) (some (Value.int (s_X7_is kd nd d stand old))) := by
  obtain ⟨V, hv⟩ : ∃ V, s_X7_is kd nd d stand old = V := ⟨_, rfl⟩
  rw [hv]
  refine ct_intro (own := RX7) (lv := [(0, .ref o), (1, .int (nI d)), (2, .int stand), (3, .int old)]) (by decide) rfl (Nat.le_of_ble_eq_true rfl) rfl ?_
  intro p_ e_ s_ m_ below_ meth_ c_ C
  have hv : (if nd d = (0 : Int32) then (if kd d = (0 : Int32) then (if (nd d) &&& (stand ^^^ (-1 : Int32)) = (0 : Int32) then (1 : Int32) else (0 : Int32)) else (if kd d = (1 : Int32) then (1 : Int32) else (if kd d = (2 : Int32) then (if (nd d) &&& stand = (0 : Int32) then (1 : Int32) else (0 : Int32)) else (1 : Int32)))) else (if (nd d) &&& stand = (0 : Int32) then (if kd d = (0 : Int32) then (if (nd d) &&& (stand ^^^ (-1 : Int32)) = (0 : Int32) then (1 : Int32) else (0 : Int32)) else (if kd d = (1 : Int32) then (0 : Int32) else (if kd d = (2 : Int32) then (1 : Int32) else (if (old >>> ((nI d) &&& 31)) &&& (1 : Int32) = (1 : Int32) then (1 : Int32) else (0 : Int32))))) else (if kd d = (0 : Int32) then (if (nd d) &&& (stand ^^^ (-1 : Int32)) = (0 : Int32) then (1 : Int32) else (0 : Int32)) else (if kd d = (1 : Int32) then (1 : Int32) else (if kd d = (2 : Int32) then (0 : Int32) else (1 : Int32)))))) = V := hv
  refine r_aln C dX7_is_0 rfl 0 rfl ?_
  refine gf_X7_16 C 0 rfl rfl dX7_is_1 ?_
  refine r_iln C dX7_is_4 rfl 1 rfl ?_
  refine r_iald C 3 d rfl rfl (by omega) (by decide) rfl dX7_is_5 ?_
  refine r_ifeq C (tgt := 20) dX7_is_6 (by decide) (fun c1 => ?_) (fun c1 => ?_)
  · rw [if_pos c1] at hv
    refine r_ic C (v := (1 : Int32)) dX7_is_20 (by decide) ?_
    refine r_goto C (tgt := 25) dX7_is_21 (by decide) ?_
    refine r_is C (lv' := [(4, .int (1 : Int32)), (0, .ref o), (1, .int (nI d)), (2, .int stand), (3, .int old)]) dX7_is_25 (by decide) rfl ?_
    refine r_aln C dX7_is_27 rfl 1 rfl ?_
    refine gf_X7_7 C 0 rfl rfl dX7_is_28 ?_
    refine r_iln C dX7_is_31 rfl 2 rfl ?_
    refine r_iald C 1 d rfl rfl (by omega) (by decide) rfl dX7_is_32 ?_
    by_cases c2 : kd d = (0 : Int32)
    · rw [if_pos c2] at hv
      refine r_tabIn C (tgt := 60) dX7_is_33 (by rw [c2]; decide) (by rw [c2]; decide) (by rw [c2]; rfl) (by decide) ?_
      refine r_aln C dX7_is_60 rfl 1 rfl ?_
      refine gf_X7_16 C 0 rfl rfl dX7_is_61 ?_
      refine r_iln C dX7_is_64 rfl 2 rfl ?_
      refine r_iald C 3 d rfl rfl (by omega) (by decide) rfl dX7_is_65 ?_
      refine r_iln C dX7_is_66 rfl 3 rfl ?_
      refine r_ic C (v := (-1 : Int32)) dX7_is_67 (by decide) ?_
      refine r_ixor C dX7_is_68 ?_
      refine r_iand C dX7_is_69 ?_
      refine r_ifne C (tgt := 77) dX7_is_70 (by decide) (fun c3 => ?_) (fun c3 => ?_)
      · rw [if_neg c3] at hv
        refine r_ic C (v := (0 : Int32)) dX7_is_77 (by decide) ?_
        exact r_zret rfl C rfl (congrArg (fun z => some (Value.int z)) hv) rfl dX7_is_78
      · rw [if_pos c3] at hv
        refine r_ic C (v := (1 : Int32)) dX7_is_73 (by decide) ?_
        refine r_goto C (tgt := 78) dX7_is_74 (by decide) ?_
        exact r_zret rfl C rfl (congrArg (fun z => some (Value.int z)) hv) rfl dX7_is_78
    · rw [if_neg c2] at hv
      by_cases c4 : kd d = (1 : Int32)
      · rw [if_pos c4] at hv
        refine r_tabIn C (tgt := 79) dX7_is_33 (by rw [c4]; decide) (by rw [c4]; decide) (by rw [c4]; rfl) (by decide) ?_
        refine r_il C dX7_is_79 0 rfl ?_
        exact r_zret rfl C rfl (congrArg (fun z => some (Value.int z)) hv) rfl dX7_is_81
      · rw [if_neg c4] at hv
        by_cases c5 : kd d = (2 : Int32)
        · rw [if_pos c5] at hv
          refine r_tabIn C (tgt := 82) dX7_is_33 (by rw [c5]; decide) (by rw [c5]; decide) (by rw [c5]; rfl) (by decide) ?_
          refine r_aln C dX7_is_82 rfl 1 rfl ?_
          refine gf_X7_16 C 0 rfl rfl dX7_is_83 ?_
          refine r_iln C dX7_is_86 rfl 2 rfl ?_
          refine r_iald C 3 d rfl rfl (by omega) (by decide) rfl dX7_is_87 ?_
          refine r_iln C dX7_is_88 rfl 3 rfl ?_
          refine r_iand C dX7_is_89 ?_
          refine r_ifne C (tgt := 97) dX7_is_90 (by decide) (fun c6 => ?_) (fun c6 => ?_)
          · rw [if_neg c6] at hv
            refine r_ic C (v := (0 : Int32)) dX7_is_97 (by decide) ?_
            exact r_zret rfl C rfl (congrArg (fun z => some (Value.int z)) hv) rfl dX7_is_98
          · rw [if_pos c6] at hv
            refine r_ic C (v := (1 : Int32)) dX7_is_93 (by decide) ?_
            refine r_goto C (tgt := 98) dX7_is_94 (by decide) ?_
            exact r_zret rfl C rfl (congrArg (fun z => some (Value.int z)) hv) rfl dX7_is_98
        · rw [if_neg c5] at hv
          have nc2 : (kd d).toInt ≠ 0 := fun z => c2 (i32_eq _ _ 0 (by decide) z)
          have nc4 : (kd d).toInt ≠ 1 := fun z => c4 (i32_eq _ _ 1 (by decide) z)
          have nc5 : (kd d).toInt ≠ 2 := fun z => c5 (i32_eq _ _ 2 (by decide) z)
          refine r_tabOut C (tgt := 99) dX7_is_33 (by omega) (by decide) ?_
          refine r_il C dX7_is_99 0 rfl ?_
          refine r_ifne C (tgt := 113) dX7_is_101 (by decide) (fun c7 => ?_) (fun c7 => ?_)
          · skip
            refine r_ic C (v := (1 : Int32)) dX7_is_113 (by decide) ?_
            refine r_goto C (tgt := 118) dX7_is_114 (by decide) ?_
            exact r_zret rfl C rfl (congrArg (fun z => some (Value.int z)) hv) rfl dX7_is_118
          · exact absurd c7 (by decide)
  · rw [if_neg c1] at hv
    refine r_aln C dX7_is_9 rfl 0 rfl ?_
    refine gf_X7_16 C 0 rfl rfl dX7_is_10 ?_
    refine r_iln C dX7_is_13 rfl 1 rfl ?_
    refine r_iald C 3 d rfl rfl (by omega) (by decide) rfl dX7_is_14 ?_
    refine r_iln C dX7_is_15 rfl 2 rfl ?_
    refine r_iand C dX7_is_16 ?_
    refine r_ifeq C (tgt := 24) dX7_is_17 (by decide) (fun c8 => ?_) (fun c8 => ?_)
    · rw [if_pos c8] at hv
      refine r_ic C (v := (0 : Int32)) dX7_is_24 (by decide) ?_
      refine r_is C (lv' := [(4, .int (0 : Int32)), (0, .ref o), (1, .int (nI d)), (2, .int stand), (3, .int old)]) dX7_is_25 (by decide) rfl ?_
      refine r_aln C dX7_is_27 rfl 1 rfl ?_
      refine gf_X7_7 C 0 rfl rfl dX7_is_28 ?_
      refine r_iln C dX7_is_31 rfl 2 rfl ?_
      refine r_iald C 1 d rfl rfl (by omega) (by decide) rfl dX7_is_32 ?_
      by_cases c9 : kd d = (0 : Int32)
      · rw [if_pos c9] at hv
        refine r_tabIn C (tgt := 60) dX7_is_33 (by rw [c9]; decide) (by rw [c9]; decide) (by rw [c9]; rfl) (by decide) ?_
        refine r_aln C dX7_is_60 rfl 1 rfl ?_
        refine gf_X7_16 C 0 rfl rfl dX7_is_61 ?_
        refine r_iln C dX7_is_64 rfl 2 rfl ?_
        refine r_iald C 3 d rfl rfl (by omega) (by decide) rfl dX7_is_65 ?_
        refine r_iln C dX7_is_66 rfl 3 rfl ?_
        refine r_ic C (v := (-1 : Int32)) dX7_is_67 (by decide) ?_
        refine r_ixor C dX7_is_68 ?_
        refine r_iand C dX7_is_69 ?_
        refine r_ifne C (tgt := 77) dX7_is_70 (by decide) (fun c10 => ?_) (fun c10 => ?_)
        · rw [if_neg c10] at hv
          refine r_ic C (v := (0 : Int32)) dX7_is_77 (by decide) ?_
          exact r_zret rfl C rfl (congrArg (fun z => some (Value.int z)) hv) rfl dX7_is_78
        · rw [if_pos c10] at hv
          refine r_ic C (v := (1 : Int32)) dX7_is_73 (by decide) ?_
          refine r_goto C (tgt := 78) dX7_is_74 (by decide) ?_
          exact r_zret rfl C rfl (congrArg (fun z => some (Value.int z)) hv) rfl dX7_is_78
      · rw [if_neg c9] at hv
        by_cases c11 : kd d = (1 : Int32)
        · rw [if_pos c11] at hv
          refine r_tabIn C (tgt := 79) dX7_is_33 (by rw [c11]; decide) (by rw [c11]; decide) (by rw [c11]; rfl) (by decide) ?_
          refine r_il C dX7_is_79 0 rfl ?_
          exact r_zret rfl C rfl (congrArg (fun z => some (Value.int z)) hv) rfl dX7_is_81
        · rw [if_neg c11] at hv
          by_cases c12 : kd d = (2 : Int32)
          · rw [if_pos c12] at hv
            refine r_tabIn C (tgt := 82) dX7_is_33 (by rw [c12]; decide) (by rw [c12]; decide) (by rw [c12]; rfl) (by decide) ?_
            refine r_aln C dX7_is_82 rfl 1 rfl ?_
            refine gf_X7_16 C 0 rfl rfl dX7_is_83 ?_
            refine r_iln C dX7_is_86 rfl 2 rfl ?_
            refine r_iald C 3 d rfl rfl (by omega) (by decide) rfl dX7_is_87 ?_
            refine r_iln C dX7_is_88 rfl 3 rfl ?_
            refine r_iand C dX7_is_89 ?_
            refine r_ifne C (tgt := 97) dX7_is_90 (by decide) (fun c13 => ?_) (fun c13 => ?_)
            · exact absurd c8 c13
            · skip
              refine r_ic C (v := (1 : Int32)) dX7_is_93 (by decide) ?_
              refine r_goto C (tgt := 98) dX7_is_94 (by decide) ?_
              exact r_zret rfl C rfl (congrArg (fun z => some (Value.int z)) hv) rfl dX7_is_98
          · rw [if_neg c12] at hv
            have nc9 : (kd d).toInt ≠ 0 := fun z => c9 (i32_eq _ _ 0 (by decide) z)
            have nc11 : (kd d).toInt ≠ 1 := fun z => c11 (i32_eq _ _ 1 (by decide) z)
            have nc12 : (kd d).toInt ≠ 2 := fun z => c12 (i32_eq _ _ 2 (by decide) z)
            refine r_tabOut C (tgt := 99) dX7_is_33 (by omega) (by decide) ?_
            refine r_il C dX7_is_99 0 rfl ?_
            refine r_ifne C (tgt := 113) dX7_is_101 (by decide) (fun c14 => ?_) (fun c14 => ?_)
            · exact absurd (by decide) c14
            · skip
              refine r_iln C dX7_is_104 rfl 4 rfl ?_
              refine r_iln C dX7_is_105 rfl 2 rfl ?_
              refine r_ishr C dX7_is_106 ?_
              refine r_ic C (v := (1 : Int32)) dX7_is_107 (by decide) ?_
              refine r_iand C dX7_is_108 ?_
              refine r_ic C (v := (1 : Int32)) dX7_is_109 (by decide) ?_
              refine r_icne C (tgt := 117) dX7_is_110 (by decide) (fun c15 => ?_) (fun c15 => ?_)
              · rw [if_neg c15] at hv
                refine r_ic C (v := (0 : Int32)) dX7_is_117 (by decide) ?_
                exact r_zret rfl C rfl (congrArg (fun z => some (Value.int z)) hv) rfl dX7_is_118
              · rw [if_pos c15] at hv
                refine r_ic C (v := (1 : Int32)) dX7_is_113 (by decide) ?_
                refine r_goto C (tgt := 118) dX7_is_114 (by decide) ?_
                exact r_zret rfl C rfl (congrArg (fun z => some (Value.int z)) hv) rfl dX7_is_118
    · rw [if_neg c8] at hv
      refine r_ic C (v := (1 : Int32)) dX7_is_20 (by decide) ?_
      refine r_goto C (tgt := 25) dX7_is_21 (by decide) ?_
      refine r_is C (lv' := [(4, .int (1 : Int32)), (0, .ref o), (1, .int (nI d)), (2, .int stand), (3, .int old)]) dX7_is_25 (by decide) rfl ?_
      refine r_aln C dX7_is_27 rfl 1 rfl ?_
      refine gf_X7_7 C 0 rfl rfl dX7_is_28 ?_
      refine r_iln C dX7_is_31 rfl 2 rfl ?_
      refine r_iald C 1 d rfl rfl (by omega) (by decide) rfl dX7_is_32 ?_
      by_cases c16 : kd d = (0 : Int32)
      · rw [if_pos c16] at hv
        refine r_tabIn C (tgt := 60) dX7_is_33 (by rw [c16]; decide) (by rw [c16]; decide) (by rw [c16]; rfl) (by decide) ?_
        refine r_aln C dX7_is_60 rfl 1 rfl ?_
        refine gf_X7_16 C 0 rfl rfl dX7_is_61 ?_
        refine r_iln C dX7_is_64 rfl 2 rfl ?_
        refine r_iald C 3 d rfl rfl (by omega) (by decide) rfl dX7_is_65 ?_
        refine r_iln C dX7_is_66 rfl 3 rfl ?_
        refine r_ic C (v := (-1 : Int32)) dX7_is_67 (by decide) ?_
        refine r_ixor C dX7_is_68 ?_
        refine r_iand C dX7_is_69 ?_
        refine r_ifne C (tgt := 77) dX7_is_70 (by decide) (fun c17 => ?_) (fun c17 => ?_)
        · rw [if_neg c17] at hv
          refine r_ic C (v := (0 : Int32)) dX7_is_77 (by decide) ?_
          exact r_zret rfl C rfl (congrArg (fun z => some (Value.int z)) hv) rfl dX7_is_78
        · rw [if_pos c17] at hv
          refine r_ic C (v := (1 : Int32)) dX7_is_73 (by decide) ?_
          refine r_goto C (tgt := 78) dX7_is_74 (by decide) ?_
          exact r_zret rfl C rfl (congrArg (fun z => some (Value.int z)) hv) rfl dX7_is_78
      · rw [if_neg c16] at hv
        by_cases c18 : kd d = (1 : Int32)
        · rw [if_pos c18] at hv
          refine r_tabIn C (tgt := 79) dX7_is_33 (by rw [c18]; decide) (by rw [c18]; decide) (by rw [c18]; rfl) (by decide) ?_
          refine r_il C dX7_is_79 0 rfl ?_
          exact r_zret rfl C rfl (congrArg (fun z => some (Value.int z)) hv) rfl dX7_is_81
        · rw [if_neg c18] at hv
          by_cases c19 : kd d = (2 : Int32)
          · rw [if_pos c19] at hv
            refine r_tabIn C (tgt := 82) dX7_is_33 (by rw [c19]; decide) (by rw [c19]; decide) (by rw [c19]; rfl) (by decide) ?_
            refine r_aln C dX7_is_82 rfl 1 rfl ?_
            refine gf_X7_16 C 0 rfl rfl dX7_is_83 ?_
            refine r_iln C dX7_is_86 rfl 2 rfl ?_
            refine r_iald C 3 d rfl rfl (by omega) (by decide) rfl dX7_is_87 ?_
            refine r_iln C dX7_is_88 rfl 3 rfl ?_
            refine r_iand C dX7_is_89 ?_
            refine r_ifne C (tgt := 97) dX7_is_90 (by decide) (fun c20 => ?_) (fun c20 => ?_)
            · skip
              refine r_ic C (v := (0 : Int32)) dX7_is_97 (by decide) ?_
              exact r_zret rfl C rfl (congrArg (fun z => some (Value.int z)) hv) rfl dX7_is_98
            · exact absurd c20 c8
          · rw [if_neg c19] at hv
            have nc16 : (kd d).toInt ≠ 0 := fun z => c16 (i32_eq _ _ 0 (by decide) z)
            have nc18 : (kd d).toInt ≠ 1 := fun z => c18 (i32_eq _ _ 1 (by decide) z)
            have nc19 : (kd d).toInt ≠ 2 := fun z => c19 (i32_eq _ _ 2 (by decide) z)
            refine r_tabOut C (tgt := 99) dX7_is_33 (by omega) (by decide) ?_
            refine r_il C dX7_is_99 0 rfl ?_
            refine r_ifne C (tgt := 113) dX7_is_101 (by decide) (fun c21 => ?_) (fun c21 => ?_)
            · skip
              refine r_ic C (v := (1 : Int32)) dX7_is_113 (by decide) ?_
              refine r_goto C (tgt := 118) dX7_is_114 (by decide) ?_
              exact r_zret rfl C rfl (congrArg (fun z => some (Value.int z)) hv) rfl dX7_is_118
            · exact absurd c21 (by decide)

