def s_X7_is (kd : Nat → Int32) (nd : Nat → Int32) (d : Nat) (stand : Int32) (old : Int32) : Int32 := (if nd d = (0 : Int32) then (if kd d = (0 : Int32) then (if (nd d) &&& (stand ^^^ (-1 : Int32)) = (0 : Int32) then (1 : Int32) else (0 : Int32)) else (if kd d = (1 : Int32) then (1 : Int32) else (if kd d = (2 : Int32) then (if (nd d) &&& stand = (0 : Int32) then (1 : Int32) else (0 : Int32)) else (1 : Int32)))) else (if (nd d) &&& stand = (0 : Int32) then (if kd d = (0 : Int32) then (if (nd d) &&& (stand ^^^ (-1 : Int32)) = (0 : Int32) then (1 : Int32) else (0 : Int32)) else (if kd d = (1 : Int32) then (0 : Int32) else (if kd d = (2 : Int32) then (1 : Int32) else (if (old >>> ((nI d) &&& 31)) &&& (1 : Int32) = (1 : Int32) then (1 : Int32) else (0 : Int32))))) else (if kd d = (0 : Int32) then (if (nd d) &&& (stand ^^^ (-1 : Int32)) = (0 : Int32) then (1 : Int32) else (0 : Int32)) else (if kd d = (1 : Int32) then (1 : Int32) else (if kd d = (2 : Int32) then (0 : Int32) else (1 : Int32))))))
set_option maxHeartbeats 8000000 in
set_option maxRecDepth 100000 in
theorem c_X7_is (l : Launch) (D : va_G) (o : Nat) (q1 : Nat) (q2 : Nat) (q3 : Nat) (q4 : Nat) (q5 : Nat) (q6 : Nat) (q7 : Nat) (q8 : Nat) (q9 : Nat) (q10 : Nat) (q11 : Nat) (q12 : Nat) (q13 : Nat) (q14 : Nat) (q15 : Nat) (q16 : Nat) (q17 : Nat) (q18 : Nat) (q19 : Nat) (q20 : Nat) (q21 : Nat) (q22 : Nat) (pe : Nat) (n : Nat) (la : Int32) (ri : Int32) (td : Int32) (ys : Int32) (ty : Nat) (ap : Nat) (wg : Int32) (rd : Nat) (sm : Int32) (bt : Int32) (up : Int64) (lw : Int64) (ii : Int32) (kd : Nat → Int32) (dy : Nat → Int32) (nd : Nat → Int32) (co : Nat → Int32) (od : Nat → Int32) (wo : Nat → Int32) (tp : Nat → Int32) (rk : Nat → Int32) (ry : Nat → Int32) (rn : Nat → Int32) (vs : Nat → Int32) (bs : Nat → Int32) (ch : Nat → Int32) (tr : Nat → Int32) (en : Nat → Int32) (du : Nat → Int32) (ol : Nat → Int32) (ig : Nat → Int32) (ln : Nat → Int32) (sz : Nat → Int32) (it : Nat → Int64) (mo : Nat → Int64) (d : Nat) (stand : Int32) (old : Int32) (hd : d < 12) : ct l yX7_is cX7_is 5 (some .boolean) 0 0 D [.ref o, .int (nI d), .int stand, .int old] (wM D o q1 q2 q3 q4 q5 q6 q7 q8 q9 q10 q11 q12 q13 q14 q15 q16 q17 q18 q19 q20 q21 q22 pe n la ri td ys ty ap wg rd sm bt up lw ii kd dy nd co od wo tp rk ry rn vs bs ch tr en du ol ig ln sz it mo) (wM D o q1 q2 q3 q4 q5 q6 q7 q8 q9 q10 q11 q12 q13 q14 q15 q16 q17 q18 q19 q20 q21 q22 pe n la ri td ys ty ap wg rd sm bt up lw ii kd dy nd co od wo tp rk ry rn vs bs ch tr en du ol ig ln sz it mo) (fun _ => False) (some (Value.int (s_X7_is kd nd d stand old))) := by
  obtain ⟨V, hv⟩ : ∃ V, s_X7_is kd nd d stand old = V := ⟨_, rfl⟩
  rw [hv]
  refine ct_intro (own := RX7) (lv := [(0, .ref o), (1, .int (nI d)), (2, .int stand), (3, .int old)]) (by decide) rfl (Nat.le_of_ble_eq_true rfl) rfl ?_
  intro p_ e_ s_ m_ below_ meth_ c_ C
  have hv : (if nd d = (0 : Int32) then (if kd d = (0 : Int32) then (if (nd d) &&& (stand ^^^ (-1 : Int32)) = (0 : Int32) then (1 : Int32) else (0 : Int32)) else (if kd d = (1 : Int32) then (1 : Int32) else (if kd d = (2 : Int32) then (if (nd d) &&& stand = (0 : Int32) then (1 : Int32) else (0 : Int32)) else (1 : Int32)))) else (if (nd d) &&& stand = (0 : Int32) then (if kd d = (0 : Int32) then (if (nd d) &&& (stand ^^^ (-1 : Int32)) = (0 : Int32) then (1 : Int32) else (0 : Int32)) else (if kd d = (1 : Int32) then (0 : Int32) else (if kd d = (2 : Int32) then (1 : Int32) else (if (old >>> ((nI d) &&& 31)) &&& (1 : Int32) = (1 : Int32) then (1 : Int32) else (0 : Int32))))) else (if kd d = (0 : Int32) then (if (nd d) &&& (stand ^^^ (-1 : Int32)) = (0 : Int32) then (1 : Int32) else (0 : Int32)) else (if kd d = (1 : Int32) then (1 : Int32) else (if kd d = (2 : Int32) then (0 : Int32) else (1 : Int32)))))) = V := hv
  refine r_aln C dX7_is_0 rfl 0 rfl ?_
  refine gf_X7_16 C 0 rfl rfl dX7_is_1 ?_
  refine r_iln C dX7_is_4 rfl 1 rfl ?_
  refine r_iald C 3 d rfl rfl (by omega) (by decide) rfl dX7_is_5 ?_
  refine r_ifeq C (tgt := 20) dX7_is_6 (by decide) (fun c1 => ?_) (fun c1 => ?_)
  · rw [if_pos c1] at hv
    refine r_ic C (v := (1 : Int32)) dX7_is_20 (by decide) ?_
    refine r_goto C (tgt := 25) dX7_is_21 (by decide) ?_
    refine r_is C (lv' := [(4, .int (1 : Int32)), (0, .ref o), (1, .int (nI d)), (2, .int stand), (3, .int old)]) dX7_is_25 (by decide) rfl ?_
    refine r_aln C dX7_is_27 rfl 1 rfl ?_
    refine gf_X7_7 C 0 rfl rfl dX7_is_28 ?_
    refine r_iln C dX7_is_31 rfl 2 rfl ?_
    refine r_iald C 1 d rfl rfl (by omega) (by decide) rfl dX7_is_32 ?_
    by_cases c2 : kd d = (0 : Int32)
    · rw [if_pos c2] at hv
      refine r_tabIn C (tgt := 60) dX7_is_33 (by rw [c2]; decide) (by rw [c2]; decide) (by rw [c2]; rfl) (by decide) ?_
      refine r_aln C dX7_is_60 rfl 1 rfl ?_
      refine gf_X7_16 C 0 rfl rfl dX7_is_61 ?_
      refine r_iln C dX7_is_64 rfl 2 rfl ?_
      refine r_iald C 3 d rfl rfl (by omega) (by decide) rfl dX7_is_65 ?_
      refine r_iln C dX7_is_66 rfl 3 rfl ?_
      refine r_ic C (v := (-1 : Int32)) dX7_is_67 (by decide) ?_
      refine r_ixor C dX7_is_68 ?_
      refine r_iand C dX7_is_69 ?_
      refine r_ifne C (tgt := 77) dX7_is_70 (by decide) (fun c3 => ?_) (fun c3 => ?_)
      · rw [if_neg c3] at hv
        refine r_ic C (v := (0 : Int32)) dX7_is_77 (by decide) ?_
        exact r_zret rfl C rfl (congrArg (fun z => some (Value.int z)) hv) rfl dX7_is_78
      · rw [if_pos c3] at hv
        refine r_ic C (v := (1 : Int32)) dX7_is_73 (by decide) ?_
        refine r_goto C (tgt := 78) dX7_is_74 (by decide) ?_
        exact r_zret rfl C rfl (congrArg (fun z => some (Value.int z)) hv) rfl dX7_is_78
    · rw [if_neg c2] at hv
      by_cases c4 : kd d = (1 : Int32)
      · rw [if_pos c4] at hv
        refine r_tabIn C (tgt := 79) dX7_is_33 (by rw [c4]; decide) (by rw [c4]; decide) (by rw [c4]; rfl) (by decide) ?_
        refine r_il C dX7_is_79 0 rfl ?_
        exact r_zret rfl C rfl (congrArg (fun z => some (Value.int z)) hv) rfl dX7_is_81
      · rw [if_neg c4] at hv
        by_cases c5 : kd d = (2 : Int32)
        · rw [if_pos c5] at hv
          refine r_tabIn C (tgt := 82) dX7_is_33 (by rw [c5]; decide) (by rw [c5]; decide) (by rw [c5]; rfl) (by decide) ?_
          refine r_aln C dX7_is_82 rfl 1 rfl ?_
          refine gf_X7_16 C 0 rfl rfl dX7_is_83 ?_
          refine r_iln C dX7_is_86 rfl 2 rfl ?_
          refine r_iald C 3 d rfl rfl (by omega) (by decide) rfl dX7_is_87 ?_
          refine r_iln C dX7_is_88 rfl 3 rfl ?_
          refine r_iand C dX7_is_89 ?_
          refine r_ifne C (tgt := 97) dX7_is_90 (by decide) (fun c6 => ?_) (fun c6 => ?_)
          · rw [if_neg c6] at hv
            refine r_ic C (v := (0 : Int32)) dX7_is_97 (by decide) ?_
            exact r_zret rfl C rfl (congrArg (fun z => some (Value.int z)) hv) rfl dX7_is_98
          · rw [if_pos c6] at hv
            refine r_ic C (v := (1 : Int32)) dX7_is_93 (by decide) ?_
            refine r_goto C (tgt := 98) dX7_is_94 (by decide) ?_
            exact r_zret rfl C rfl (congrArg (fun z => some (Value.int z)) hv) rfl dX7_is_98
        · rw [if_neg c5] at hv
          have nc2 : (kd d).toInt ≠ 0 := fun z => c2 (i32_eq _ _ 0 (by decide) z)
          have nc4 : (kd d).toInt ≠ 1 := fun z => c4 (i32_eq _ _ 1 (by decide) z)
          have nc5 : (kd d).toInt ≠ 2 := fun z => c5 (i32_eq _ _ 2 (by decide) z)
          refine r_tabOut C (tgt := 99) dX7_is_33 (by omega) (by decide) ?_
          refine r_il C dX7_is_99 0 rfl ?_
          refine r_ifne C (tgt := 113) dX7_is_101 (by decide) (fun c7 => ?_) (fun c7 => ?_)
          · skip
            refine r_ic C (v := (1 : Int32)) dX7_is_113 (by decide) ?_
            refine r_goto C (tgt := 118) dX7_is_114 (by decide) ?_
            exact r_zret rfl C rfl (congrArg (fun z => some (Value.int z)) hv) rfl dX7_is_118
          · exact absurd c7 (by decide)
  · rw [if_neg c1] at hv
    refine r_aln C dX7_is_9 rfl 0 rfl ?_
    refine gf_X7_16 C 0 rfl rfl dX7_is_10 ?_
    refine r_iln C dX7_is_13 rfl 1 rfl ?_
    refine r_iald C 3 d rfl rfl (by omega) (by decide) rfl dX7_is_14 ?_
    refine r_iln C dX7_is_15 rfl 2 rfl ?_
    refine r_iand C dX7_is_16 ?_
    refine r_ifeq C (tgt := 24) dX7_is_17 (by decide) (fun c8 => ?_) (fun c8 => ?_)
    · rw [if_pos c8] at hv
      refine r_ic C (v := (0 : Int32)) dX7_is_24 (by decide) ?_
      refine r_is C (lv' := [(4, .int (0 : Int32)), (0, .ref o), (1, .int (nI d)), (2, .int stand), (3, .int old)]) dX7_is_25 (by decide) rfl ?_
      refine r_aln C dX7_is_27 rfl 1 rfl ?_
      refine gf_X7_7 C 0 rfl rfl dX7_is_28 ?_
      refine r_iln C dX7_is_31 rfl 2 rfl ?_
      refine r_iald C 1 d rfl rfl (by omega) (by decide) rfl dX7_is_32 ?_
      by_cases c9 : kd d = (0 : Int32)
      · rw [if_pos c9] at hv
        refine r_tabIn C (tgt := 60) dX7_is_33 (by rw [c9]; decide) (by rw [c9]; decide) (by rw [c9]; rfl) (by decide) ?_
        refine r_aln C dX7_is_60 rfl 1 rfl ?_
        refine gf_X7_16 C 0 rfl rfl dX7_is_61 ?_
        refine r_iln C dX7_is_64 rfl 2 rfl ?_
        refine r_iald C 3 d rfl rfl (by omega) (by decide) rfl dX7_is_65 ?_
        refine r_iln C dX7_is_66 rfl 3 rfl ?_
        refine r_ic C (v := (-1 : Int32)) dX7_is_67 (by decide) ?_
        refine r_ixor C dX7_is_68 ?_
        refine r_iand C dX7_is_69 ?_
        refine r_ifne C (tgt := 77) dX7_is_70 (by decide) (fun c10 => ?_) (fun c10 => ?_)
        · rw [if_neg c10] at hv
          refine r_ic C (v := (0 : Int32)) dX7_is_77 (by decide) ?_
          exact r_zret rfl C rfl (congrArg (fun z => some (Value.int z)) hv) rfl dX7_is_78
        · rw [if_pos c10] at hv
          refine r_ic C (v := (1 : Int32)) dX7_is_73 (by decide) ?_
          refine r_goto C (tgt := 78) dX7_is_74 (by decide) ?_
          exact r_zret rfl C rfl (congrArg (fun z => some (Value.int z)) hv) rfl dX7_is_78
      · rw [if_neg c9] at hv
        by_cases c11 : kd d = (1 : Int32)
        · rw [if_pos c11] at hv
          refine r_tabIn C (tgt := 79) dX7_is_33 (by rw [c11]; decide) (by rw [c11]; decide) (by rw [c11]; rfl) (by decide) ?_
          refine r_il C dX7_is_79 0 rfl ?_
          exact r_zret rfl C rfl (congrArg (fun z => some (Value.int z)) hv) rfl dX7_is_81
        · rw [if_neg c11] at hv
          by_cases c12 : kd d = (2 : Int32)
          · rw [if_pos c12] at hv
            refine r_tabIn C (tgt := 82) dX7_is_33 (by rw [c12]; decide) (by rw [c12]; decide) (by rw [c12]; rfl) (by decide) ?_
            refine r_aln C dX7_is_82 rfl 1 rfl ?_
            refine gf_X7_16 C 0 rfl rfl dX7_is_83 ?_
            refine r_iln C dX7_is_86 rfl 2 rfl ?_
            refine r_iald C 3 d rfl rfl (by omega) (by decide) rfl dX7_is_87 ?_
            refine r_iln C dX7_is_88 rfl 3 rfl ?_
            refine r_iand C dX7_is_89 ?_
            refine r_ifne C (tgt := 97) dX7_is_90 (by decide) (fun c13 => ?_) (fun c13 => ?_)
            · exact absurd c8 c13
            · skip
              refine r_ic C (v := (1 : Int32)) dX7_is_93 (by decide) ?_
              refine r_goto C (tgt := 98) dX7_is_94 (by decide) ?_
              exact r_zret rfl C rfl (congrArg (fun z => some (Value.int z)) hv) rfl dX7_is_98
          · rw [if_neg c12] at hv
            have nc9 : (kd d).toInt ≠ 0 := fun z => c9 (i32_eq _ _ 0 (by decide) z)
            have nc11 : (kd d).toInt ≠ 1 := fun z => c11 (i32_eq _ _ 1 (by decide) z)
            have nc12 : (kd d).toInt ≠ 2 := fun z => c12 (i32_eq _ _ 2 (by decide) z)
            refine r_tabOut C (tgt := 99) dX7_is_33 (by omega) (by decide) ?_
            refine r_il C dX7_is_99 0 rfl ?_
            refine r_ifne C (tgt := 113) dX7_is_101 (by decide) (fun c14 => ?_) (fun c14 => ?_)
            · exact absurd (by decide) c14
            · skip
              refine r_iln C dX7_is_104 rfl 4 rfl ?_
              refine r_iln C dX7_is_105 rfl 2 rfl ?_
              refine r_ishr C dX7_is_106 ?_
              refine r_ic C (v := (1 : Int32)) dX7_is_107 (by decide) ?_
              refine r_iand C dX7_is_108 ?_
              refine r_ic C (v := (1 : Int32)) dX7_is_109 (by decide) ?_
              refine r_icne C (tgt := 117) dX7_is_110 (by decide) (fun c15 => ?_) (fun c15 => ?_)
              · rw [if_neg c15] at hv
                refine r_ic C (v := (0 : Int32)) dX7_is_117 (by decide) ?_
                exact r_zret rfl C rfl (congrArg (fun z => some (Value.int z)) hv) rfl dX7_is_118
              · rw [if_pos c15] at hv
                refine r_ic C (v := (1 : Int32)) dX7_is_113 (by decide) ?_
                refine r_goto C (tgt := 118) dX7_is_114 (by decide) ?_
                exact r_zret rfl C rfl (congrArg (fun z => some (Value.int z)) hv) rfl dX7_is_118
    · rw [if_neg c8] at hv
      refine r_ic C (v := (1 : Int32)) dX7_is_20 (by decide) ?_
      refine r_goto C (tgt := 25) dX7_is_21 (by decide) ?_
      refine r_is C (lv' := [(4, .int (1 : Int32)), (0, .ref o), (1, .int (nI d)), (2, .int stand), (3, .int old)]) dX7_is_25 (by decide) rfl ?_
      refine r_aln C dX7_is_27 rfl 1 rfl ?_
      refine gf_X7_7 C 0 rfl rfl dX7_is_28 ?_
      refine r_iln C dX7_is_31 rfl 2 rfl ?_
      refine r_iald C 1 d rfl rfl (by omega) (by decide) rfl dX7_is_32 ?_
      by_cases c16 : kd d = (0 : Int32)
      · rw [if_pos c16] at hv
        refine r_tabIn C (tgt := 60) dX7_is_33 (by rw [c16]; decide) (by rw [c16]; decide) (by rw [c16]; rfl) (by decide) ?_
        refine r_aln C dX7_is_60 rfl 1 rfl ?_
        refine gf_X7_16 C 0 rfl rfl dX7_is_61 ?_
        refine r_iln C dX7_is_64 rfl 2 rfl ?_
        refine r_iald C 3 d rfl rfl (by omega) (by decide) rfl dX7_is_65 ?_
        refine r_iln C dX7_is_66 rfl 3 rfl ?_
        refine r_ic C (v := (-1 : Int32)) dX7_is_67 (by decide) ?_
        refine r_ixor C dX7_is_68 ?_
        refine r_iand C dX7_is_69 ?_
        refine r_ifne C (tgt := 77) dX7_is_70 (by decide) (fun c17 => ?_) (fun c17 => ?_)
        · rw [if_neg c17] at hv
          refine r_ic C (v := (0 : Int32)) dX7_is_77 (by decide) ?_
          exact r_zret rfl C rfl (congrArg (fun z => some (Value.int z)) hv) rfl dX7_is_78
        · rw [if_pos c17] at hv
          refine r_ic C (v := (1 : Int32)) dX7_is_73 (by decide) ?_
          refine r_goto C (tgt := 78) dX7_is_74 (by decide) ?_
          exact r_zret rfl C rfl (congrArg (fun z => some (Value.int z)) hv) rfl dX7_is_78
      · rw [if_neg c16] at hv
        by_cases c18 : kd d = (1 : Int32)
        · rw [if_pos c18] at hv
          refine r_tabIn C (tgt := 79) dX7_is_33 (by rw [c18]; decide) (by rw [c18]; decide) (by rw [c18]; rfl) (by decide) ?_
          refine r_il C dX7_is_79 0 rfl ?_
          exact r_zret rfl C rfl (congrArg (fun z => some (Value.int z)) hv) rfl dX7_is_81
        · rw [if_neg c18] at hv
          by_cases c19 : kd d = (2 : Int32)
          · rw [if_pos c19] at hv
            refine r_tabIn C (tgt := 82) dX7_is_33 (by rw [c19]; decide) (by rw [c19]; decide) (by rw [c19]; rfl) (by decide) ?_
            refine r_aln C dX7_is_82 rfl 1 rfl ?_
            refine gf_X7_16 C 0 rfl rfl dX7_is_83 ?_
            refine r_iln C dX7_is_86 rfl 2 rfl ?_
            refine r_iald C 3 d rfl rfl (by omega) (by decide) rfl dX7_is_87 ?_
            refine r_iln C dX7_is_88 rfl 3 rfl ?_
            refine r_iand C dX7_is_89 ?_
            refine r_ifne C (tgt := 97) dX7_is_90 (by decide) (fun c20 => ?_) (fun c20 => ?_)
            · skip
              refine r_ic C (v := (0 : Int32)) dX7_is_97 (by decide) ?_
              exact r_zret rfl C rfl (congrArg (fun z => some (Value.int z)) hv) rfl dX7_is_98
            · exact absurd c20 c8
          · rw [if_neg c19] at hv
            have nc16 : (kd d).toInt ≠ 0 := fun z => c16 (i32_eq _ _ 0 (by decide) z)
            have nc18 : (kd d).toInt ≠ 1 := fun z => c18 (i32_eq _ _ 1 (by decide) z)
            have nc19 : (kd d).toInt ≠ 2 := fun z => c19 (i32_eq _ _ 2 (by decide) z)
            refine r_tabOut C (tgt := 99) dX7_is_33 (by omega) (by decide) ?_
            refine r_il C dX7_is_99 0 rfl ?_
            refine r_ifne C (tgt := 113) dX7_is_101 (by decide) (fun c21 => ?_) (fun c21 => ?_)
            · skip
              refine r_ic C (v := (1 : Int32)) dX7_is_113 (by decide) ?_
              refine r_goto C (tgt := 118) dX7_is_114 (by decide) ?_
              exact r_zret rfl C rfl (congrArg (fun z => some (Value.int z)) hv) rfl dX7_is_118
            · exact absurd c21 (by decide)

def s_X7_stands_L5 (kd : Nat → Int32) (nd : Nat → Int32) (right : Int32) (old : Int32) : Nat → Nat → Int32 → Int32
  | 0, _, stand_3 => stand_3
  | k1 + 1, d2, stand_3 => (if (right >>> ((nI d2) &&& 31)) &&& (1 : Int32) = (0 : Int32) then (if s_X7_is kd nd d2 stand_3 old = (0 : Int32) then (s_X7_stands_L5 kd nd right old k1 (d2 + 1) (stand_3 ||| (0 : Int32))) else (s_X7_stands_L5 kd nd right old k1 (d2 + 1) (stand_3 ||| ((1 : Int32) <<< ((nI d2) &&& 31))))) else (s_X7_stands_L5 kd nd right old k1 (d2 + 1) (stand_3 ||| (0 : Int32))))
def s_X7_stands (n : Nat) (kd : Nat → Int32) (nd : Nat → Int32) (right : Int32) (old : Int32) : Int32 := (s_X7_stands_L5 kd nd right old n 0 (0 : Int32))
set_option maxHeartbeats 8000000 in
set_option maxRecDepth 100000 in
theorem c_X7_stands (l : Launch) (D : va_G) (o : Nat) (q1 : Nat) (q2 : Nat) (q3 : Nat) (q4 : Nat) (q5 : Nat) (q6 : Nat) (q7 : Nat) (q8 : Nat) (q9 : Nat) (q10 : Nat) (q11 : Nat) (q12 : Nat) (q13 : Nat) (q14 : Nat) (q15 : Nat) (q16 : Nat) (q17 : Nat) (q18 : Nat) (q19 : Nat) (q20 : Nat) (q21 : Nat) (q22 : Nat) (pe : Nat) (n : Nat) (la : Int32) (ri : Int32) (td : Int32) (ys : Int32) (ty : Nat) (ap : Nat) (wg : Int32) (rd : Nat) (sm : Int32) (bt : Int32) (up : Int64) (lw : Int64) (ii : Int32) (kd : Nat → Int32) (dy : Nat → Int32) (nd : Nat → Int32) (co : Nat → Int32) (od : Nat → Int32) (wo : Nat → Int32) (tp : Nat → Int32) (rk : Nat → Int32) (ry : Nat → Int32) (rn : Nat → Int32) (vs : Nat → Int32) (bs : Nat → Int32) (ch : Nat → Int32) (tr : Nat → Int32) (en : Nat → Int32) (du : Nat → Int32) (ol : Nat → Int32) (ig : Nat → Int32) (ln : Nat → Int32) (sz : Nat → Int32) (it : Nat → Int64) (mo : Nat → Int64) (right : Int32) (old : Int32) (hn : n ≤ 12) : ct l yX7_stands cX7_stands 5 (some .int) 1 24 D [.ref o, .int right, .int old] (wM D o q1 q2 q3 q4 q5 q6 q7 q8 q9 q10 q11 q12 q13 q14 q15 q16 q17 q18 q19 q20 q21 q22 pe n la ri td ys ty ap wg rd sm bt up lw ii kd dy nd co od wo tp rk ry rn vs bs ch tr en du ol ig ln sz it mo) (wM D o q1 q2 q3 q4 q5 q6 q7 q8 q9 q10 q11 q12 q13 q14 q15 q16 q17 q18 q19 q20 q21 q22 pe n la ri td ys ty ap wg rd sm bt up lw ii kd dy nd co od wo tp rk ry rn vs bs ch tr en du ol ig ln sz it mo) (fun _ => False) (some (Value.int (s_X7_stands n kd nd right old))) := by
  obtain ⟨V, hv⟩ : ∃ V, s_X7_stands n kd nd right old = V := ⟨_, rfl⟩
  rw [hv]
  refine ct_intro (own := RX7) (lv := [(0, .ref o), (1, .int right), (2, .int old)]) (by decide) rfl (Nat.le_of_ble_eq_true rfl) rfl ?_
  intro p_ e_ s_ m_ below_ meth_ c_ C
  have hv : (s_X7_stands_L5 kd nd right old n 0 (0 : Int32)) = V := hv
  refine r_ic C (v := (0 : Int32)) dX7_stands_0 (by decide) ?_
  refine r_isn C (lv' := [(3, .int (0 : Int32)), (0, .ref o), (1, .int right), (2, .int old)]) dX7_stands_1 rfl (by decide) rfl ?_
  refine r_ic C (v := (0 : Int32)) dX7_stands_2 (by decide) ?_
  refine r_is C (lv' := [(4, .int (0 : Int32)), (3, .int (0 : Int32)), (0, .ref o), (1, .int right), (2, .int old)]) dX7_stands_3 (by decide) rfl ?_
  have L9 : ∀ (k1 : Nat) (d2 : Nat) (stand_3 : Int32), (d2 + k1 = n) → (s_X7_stands_L5 kd nd right old k1 d2 stand_3) = V → GM p_ l e_ s_ m_ below_ meth_ c_ D 1 24 5 [.ref o, .int right, .int old] (wM D o q1 q2 q3 q4 q5 q6 q7 q8 q9 q10 q11 q12 q13 q14 q15 q16 q17 q18 q19 q20 q21 q22 pe n la ri td ys ty ap wg rd sm bt up lw ii kd dy nd co od wo tp rk ry rn vs bs ch tr en du ol ig ln sz it mo) (fun _ => False) (some (Value.int V)) (wM D o q1 q2 q3 q4 q5 q6 q7 q8 q9 q10 q11 q12 q13 q14 q15 q16 q17 q18 q19 q20 q21 q22 pe n la ri td ys ty ap wg rd sm bt up lw ii kd dy nd co od wo tp rk ry rn vs bs ch tr en du ol ig ln sz it mo) 5 [(4, .int (nI d2)), (3, .int stand_3), (0, .ref o), (1, .int right), (2, .int old)] [] := by
    intro k1
    induction k1 with
    | zero =>
      intro d2 stand_3 hk hv
      have hv : stand_3 = V := hv
      refine r_il C dX7_stands_5 0 rfl ?_
      refine r_aln C dX7_stands_7 rfl 2 rfl ?_
      refine gf_X7_84 C 0 rfl rfl dX7_stands_8 ?_
      refine r_icge C (tgt := 51) dX7_stands_11 (by decide) (fun c4 => ?_) (fun c4 => ?_)
      · skip
        refine r_iln C dX7_stands_51 rfl 1 rfl ?_
        exact r_iret rfl C (congrArg (fun z => some (Value.int z)) hv) rfl dX7_stands_52
      · exact absurd c4 (fun z => absurd ((nv_lt (a := d2) (b := n) rfl rfl (by omega) (by omega)).mp z) (by omega))
    | succ k1 ih5 =>
      intro d2 stand_3 hk hv
      have hv : (if (right >>> ((nI d2) &&& 31)) &&& (1 : Int32) = (0 : Int32) then (if s_X7_is kd nd d2 stand_3 old = (0 : Int32) then (s_X7_stands_L5 kd nd right old k1 (d2 + 1) (stand_3 ||| (0 : Int32))) else (s_X7_stands_L5 kd nd right old k1 (d2 + 1) (stand_3 ||| ((1 : Int32) <<< ((nI d2) &&& 31))))) else (s_X7_stands_L5 kd nd right old k1 (d2 + 1) (stand_3 ||| (0 : Int32)))) = V := hv
      refine r_il C dX7_stands_5 0 rfl ?_
      refine r_aln C dX7_stands_7 rfl 2 rfl ?_
      refine gf_X7_84 C 0 rfl rfl dX7_stands_8 ?_
      refine r_icge C (tgt := 51) dX7_stands_11 (by decide) (fun c6 => ?_) (fun c6 => ?_)
      · exact absurd ((nv_lt (a := d2) (b := n) rfl rfl (by omega) (by omega)).mpr (by omega)) c6
      · skip
        refine r_iln C dX7_stands_14 rfl 1 rfl ?_
        refine r_iln C dX7_stands_15 rfl 3 rfl ?_
        refine r_il C dX7_stands_16 0 rfl ?_
        refine r_ishr C dX7_stands_18 ?_
        refine r_ic C (v := (1 : Int32)) dX7_stands_19 (by decide) ?_
        refine r_iand C dX7_stands_20 ?_
        refine r_ifne C (tgt := 42) dX7_stands_21 (by decide) (fun c7 => ?_) (fun c7 => ?_)
        · rw [if_neg c7] at hv
          refine r_ic C (v := (0 : Int32)) dX7_stands_42 (by decide) ?_
          refine r_ior C dX7_stands_43 ?_
          refine r_isn C (lv' := [(3, .int (stand_3 ||| (0 : Int32))), (4, .int (nI d2)), (0, .ref o), (1, .int right), (2, .int old)]) dX7_stands_44 rfl (by decide) rfl ?_
          refine r_inc C (v := nI (d2 + 1)) (lv' := [(4, .int (nI (d2 + 1))), (3, .int (stand_3 ||| (0 : Int32))), (0, .ref o), (1, .int right), (2, .int old)]) dX7_stands_45 1 rfl (inc_nI d2) (by decide) rfl ?_
          refine r_goto C (tgt := 5) dX7_stands_48 (by decide) ?_
          exact ih5 (d2 + 1) (stand_3 ||| (0 : Int32)) (by omega) hv
        · rw [if_pos c7] at hv
          refine r_aln C dX7_stands_24 rfl 2 rfl ?_
          refine r_il C dX7_stands_25 0 rfl ?_
          refine r_iln C dX7_stands_27 rfl 1 rfl ?_
          refine r_iln C dX7_stands_28 rfl 4 rfl ?_
          refine aft_rd (st' := [.int (s_X7_is kd nd d2 stand_3 old), .int stand_3]) (run_V (rest := [.int stand_3]) C (c_X7_is l D o q1 q2 q3 q4 q5 q6 q7 q8 q9 q10 q11 q12 q13 q14 q15 q16 q17 q18 q19 q20 q21 q22 pe n la ri td ys ty ap wg rd sm bt up lw ii kd dy nd co od wo tp rk ry rn vs bs ch tr en du ol ig ln sz it mo d2 stand_3 old (by omega)) ok_X7_is wn_X7_is wl_X7_is wm_X7_105 [0, 1, 2, 3, 4, 5, 6, 7, 8, 9, 10, 11, 12, 13, 14, 15, 16, 17, 18, 19, 20, 21, 22] 0 rfl rfl rfl ⟨Nat.le_of_ble_eq_true rfl, Nat.le_of_ble_eq_true rfl⟩ rfl rfl (Nat.le_of_ble_eq_true rfl) dX7_stands_29) rfl ?_
          refine r_ifeq C (tgt := 42) dX7_stands_32 (by decide) (fun c8 => ?_) (fun c8 => ?_)
          · rw [if_pos c8] at hv
            refine r_ic C (v := (0 : Int32)) dX7_stands_42 (by decide) ?_
            refine r_ior C dX7_stands_43 ?_
            refine r_isn C (lv' := [(3, .int (stand_3 ||| (0 : Int32))), (4, .int (nI d2)), (0, .ref o), (1, .int right), (2, .int old)]) dX7_stands_44 rfl (by decide) rfl ?_
            refine r_inc C (v := nI (d2 + 1)) (lv' := [(4, .int (nI (d2 + 1))), (3, .int (stand_3 ||| (0 : Int32))), (0, .ref o), (1, .int right), (2, .int old)]) dX7_stands_45 1 rfl (inc_nI d2) (by decide) rfl ?_
            refine r_goto C (tgt := 5) dX7_stands_48 (by decide) ?_
            exact ih5 (d2 + 1) (stand_3 ||| (0 : Int32)) (by omega) hv
          · rw [if_neg c8] at hv
            refine r_ic C (v := (1 : Int32)) dX7_stands_35 (by decide) ?_
            refine r_il C dX7_stands_36 0 rfl ?_
            refine r_ishl C dX7_stands_38 ?_
            refine r_goto C (tgt := 43) dX7_stands_39 (by decide) ?_
            refine r_ior C dX7_stands_43 ?_
            refine r_isn C (lv' := [(3, .int (stand_3 ||| ((1 : Int32) <<< ((nI d2) &&& 31)))), (4, .int (nI d2)), (0, .ref o), (1, .int right), (2, .int old)]) dX7_stands_44 rfl (by decide) rfl ?_
            refine r_inc C (v := nI (d2 + 1)) (lv' := [(4, .int (nI (d2 + 1))), (3, .int (stand_3 ||| ((1 : Int32) <<< ((nI d2) &&& 31)))), (0, .ref o), (1, .int right), (2, .int old)]) dX7_stands_45 1 rfl (inc_nI d2) (by decide) rfl ?_
            refine r_goto C (tgt := 5) dX7_stands_48 (by decide) ?_
            exact ih5 (d2 + 1) (stand_3 ||| ((1 : Int32) <<< ((nI d2) &&& 31))) (by omega) hv
  refine r_lve (lv2 := [(4, .int (nI 0)), (3, .int (0 : Int32)), (0, .ref o), (1, .int right), (2, .int old)]) (congrArg (fun (z : Int32) => ([(4, .int z), (3, .int (0 : Int32)), (0, .ref o), (1, .int right), (2, .int old)] : List (Nat × Value))) rfl) ?_
  exact L9 n 0 (0 : Int32) (by omega) hv

def s_X7_told (n : Nat) (la : Int32) (ri : Int32) (kd : Nat → Int32) (dy : Nat → Int32) (nd : Nat → Int32) (co : Nat → Int32) (od : Nat → Int32) (deed : Int32) (what : Int32) : Int32 := (if s_X7_isDeed n deed.toInt64 = (0 : Int32) then (-1 : Int32) else (if what = (0 : Int32) then kd deed.toNatClampNeg else (if what = (1 : Int32) then dy deed.toNatClampNeg else (if what = (2 : Int32) then nd deed.toNatClampNeg else (if what = (3 : Int32) then co deed.toNatClampNeg else (if what = (4 : Int32) then od deed.toNatClampNeg else (if what = (5 : Int32) then ((s_X7_stands n kd nd ri la) >>> (deed &&& 31)) &&& (1 : Int32) else (if what = (6 : Int32) then (ri >>> (deed &&& 31)) &&& (1 : Int32) else (-1 : Int32)))))))))
set_option maxHeartbeats 8000000 in
set_option maxRecDepth 100000 in
theorem c_X7_told (l : Launch) (D : va_G) (o : Nat) (q1 : Nat) (q2 : Nat) (q3 : Nat) (q4 : Nat) (q5 : Nat) (q6 : Nat) (q7 : Nat) (q8 : Nat) (q9 : Nat) (q10 : Nat) (q11 : Nat) (q12 : Nat) (q13 : Nat) (q14 : Nat) (q15 : Nat) (q16 : Nat) (q17 : Nat) (q18 : Nat) (q19 : Nat) (q20 : Nat) (q21 : Nat) (q22 : Nat) (pe : Nat) (n : Nat) (la : Int32) (ri : Int32) (td : Int32) (ys : Int32) (ty : Nat) (ap : Nat) (wg : Int32) (rd : Nat) (sm : Int32) (bt : Int32) (up : Int64) (lw : Int64) (ii : Int32) (kd : Nat → Int32) (dy : Nat → Int32) (nd : Nat → Int32) (co : Nat → Int32) (od : Nat → Int32) (wo : Nat → Int32) (tp : Nat → Int32) (rk : Nat → Int32) (ry : Nat → Int32) (rn : Nat → Int32) (vs : Nat → Int32) (bs : Nat → Int32) (ch : Nat → Int32) (tr : Nat → Int32) (en : Nat → Int32) (du : Nat → Int32) (ol : Nat → Int32) (ig : Nat → Int32) (ln : Nat → Int32) (sz : Nat → Int32) (it : Nat → Int64) (mo : Nat → Int64) (deed : Int32) (what : Int32) (hn : n ≤ 12) : ct l yX7_told cX7_told 3 (some .int) 2 48 D [.ref o, .int deed, .int what] (wM D o q1 q2 q3 q4 q5 q6 q7 q8 q9 q10 q11 q12 q13 q14 q15 q16 q17 q18 q19 q20 q21 q22 pe n la ri td ys ty ap wg rd sm bt up lw ii kd dy nd co od wo tp rk ry rn vs bs ch tr en du ol ig ln sz it mo) (wM D o q1 q2 q3 q4 q5 q6 q7 q8 q9 q10 q11 q12 q13 q14 q15 q16 q17 q18 q19 q20 q21 q22 pe n la ri td ys ty ap wg rd sm bt up lw ii kd dy nd co od wo tp rk ry rn vs bs ch tr en du ol ig ln sz it mo) (fun _ => False) (some (Value.int (s_X7_told n la ri kd dy nd co od deed what))) := by
  obtain ⟨V, hv⟩ : ∃ V, s_X7_told n la ri kd dy nd co od deed what = V := ⟨_, rfl⟩
  rw [hv]
  refine ct_intro (own := RX7) (lv := [(0, .ref o), (1, .int deed), (2, .int what)]) (by decide) rfl (Nat.le_of_ble_eq_true rfl) rfl ?_
  intro p_ e_ s_ m_ below_ meth_ c_ C
  have hv : (if s_X7_isDeed n deed.toInt64 = (0 : Int32) then (-1 : Int32) else (if what = (0 : Int32) then kd deed.toNatClampNeg else (if what = (1 : Int32) then dy deed.toNatClampNeg else (if what = (2 : Int32) then nd deed.toNatClampNeg else (if what = (3 : Int32) then co deed.toNatClampNeg else (if what = (4 : Int32) then od deed.toNatClampNeg else (if what = (5 : Int32) then ((s_X7_stands n kd nd ri la) >>> (deed &&& 31)) &&& (1 : Int32) else (if what = (6 : Int32) then (ri >>> (deed &&& 31)) &&& (1 : Int32) else (-1 : Int32))))))))) = V := hv
  refine r_aln C dX7_told_0 rfl 0 rfl ?_
  refine r_iln C dX7_told_1 rfl 1 rfl ?_
  refine r_i2l C dX7_told_2 ?_
  refine aft_rd (st' := [.int (s_X7_isDeed n deed.toInt64)]) (run_V (rest := []) C (c_X7_isDeed l D o q1 q2 q3 q4 q5 q6 q7 q8 q9 q10 q11 q12 q13 q14 q15 q16 q17 q18 q19 q20 q21 q22 pe n la ri td ys ty ap wg rd sm bt up lw ii kd dy nd co od wo tp rk ry rn vs bs ch tr en du ol ig ln sz it mo deed.toInt64 ) ok_X7_isDeed wn_X7_isDeed wl_X7_isDeed wm_X7_109 [0, 1, 2, 3, 4, 5, 6, 7, 8, 9, 10, 11, 12, 13, 14, 15, 16, 17, 18, 19, 20, 21, 22] 0 rfl rfl rfl ⟨Nat.le_of_ble_eq_true rfl, Nat.le_of_ble_eq_true rfl⟩ rfl rfl (Nat.le_of_ble_eq_true rfl) dX7_told_3) rfl ?_
  refine r_ifne C (tgt := 11) dX7_told_6 (by decide) (fun c1 => ?_) (fun c1 => ?_)
  · rw [if_neg c1] at hv
    have e2 := mdeed_nat hn c1
    refine r_iln C dX7_told_11 rfl 2 rfl ?_
    by_cases c3 : what = (0 : Int32)
    · rw [if_pos c3] at hv
      refine r_tabIn C (tgt := 56) dX7_told_12 (by rw [c3]; decide) (by rw [c3]; decide) (by rw [c3]; rfl) (by decide) ?_
      refine r_aln C dX7_told_56 rfl 0 rfl ?_
      refine gf_X7_7 C 0 rfl rfl dX7_told_57 ?_
      refine r_iln C dX7_told_60 rfl 1 rfl ?_
      refine r_iald C 1 deed.toNatClampNeg rfl e2.1 (by omega) (by decide) rfl dX7_told_61 ?_
      exact r_iret rfl C (congrArg (fun z => some (Value.int z)) hv) rfl dX7_told_62
    · rw [if_neg c3] at hv
      by_cases c4 : what = (1 : Int32)
      · rw [if_pos c4] at hv
        refine r_tabIn C (tgt := 63) dX7_told_12 (by rw [c4]; decide) (by rw [c4]; decide) (by rw [c4]; rfl) (by decide) ?_
        refine r_aln C dX7_told_63 rfl 0 rfl ?_
        refine gf_X7_13 C 0 rfl rfl dX7_told_64 ?_
        refine r_iln C dX7_told_67 rfl 1 rfl ?_
        refine r_iald C 2 deed.toNatClampNeg rfl e2.1 (by omega) (by decide) rfl dX7_told_68 ?_
        exact r_iret rfl C (congrArg (fun z => some (Value.int z)) hv) rfl dX7_told_69
      · rw [if_neg c4] at hv
        by_cases c5 : what = (2 : Int32)
        · rw [if_pos c5] at hv
          refine r_tabIn C (tgt := 70) dX7_told_12 (by rw [c5]; decide) (by rw [c5]; decide) (by rw [c5]; rfl) (by decide) ?_
          refine r_aln C dX7_told_70 rfl 0 rfl ?_
          refine gf_X7_16 C 0 rfl rfl dX7_told_71 ?_
          refine r_iln C dX7_told_74 rfl 1 rfl ?_
          refine r_iald C 3 deed.toNatClampNeg rfl e2.1 (by omega) (by decide) rfl dX7_told_75 ?_
          exact r_iret rfl C (congrArg (fun z => some (Value.int z)) hv) rfl dX7_told_76
        · rw [if_neg c5] at hv
          by_cases c6 : what = (3 : Int32)
          · rw [if_pos c6] at hv
            refine r_tabIn C (tgt := 77) dX7_told_12 (by rw [c6]; decide) (by rw [c6]; decide) (by rw [c6]; rfl) (by decide) ?_
            refine r_aln C dX7_told_77 rfl 0 rfl ?_
            refine gf_X7_19 C 0 rfl rfl dX7_told_78 ?_
            refine r_iln C dX7_told_81 rfl 1 rfl ?_
            refine r_iald C 4 deed.toNatClampNeg rfl e2.1 (by omega) (by decide) rfl dX7_told_82 ?_
            exact r_iret rfl C (congrArg (fun z => some (Value.int z)) hv) rfl dX7_told_83
          · rw [if_neg c6] at hv
            by_cases c7 : what = (4 : Int32)
            · rw [if_pos c7] at hv
              refine r_tabIn C (tgt := 84) dX7_told_12 (by rw [c7]; decide) (by rw [c7]; decide) (by rw [c7]; rfl) (by decide) ?_
              refine r_aln C dX7_told_84 rfl 0 rfl ?_
              refine gf_X7_22 C 0 rfl rfl dX7_told_85 ?_
              refine r_iln C dX7_told_88 rfl 1 rfl ?_
              refine r_iald C 5 deed.toNatClampNeg rfl e2.1 (by omega) (by decide) rfl dX7_told_89 ?_
              exact r_iret rfl C (congrArg (fun z => some (Value.int z)) hv) rfl dX7_told_90
            · rw [if_neg c7] at hv
              by_cases c8 : what = (5 : Int32)
              · rw [if_pos c8] at hv
                refine r_tabIn C (tgt := 91) dX7_told_12 (by rw [c8]; decide) (by rw [c8]; decide) (by rw [c8]; rfl) (by decide) ?_
                refine r_aln C dX7_told_91 rfl 0 rfl ?_
                refine r_aln C dX7_told_92 rfl 0 rfl ?_
                refine gf_X7_113 C 0 rfl rfl dX7_told_93 ?_
                refine r_aln C dX7_told_96 rfl 0 rfl ?_
                refine gf_X7_116 C 0 rfl rfl dX7_told_97 ?_
                refine aft_rd (st' := [.int (s_X7_stands n kd nd ri la)]) (run_V (rest := []) C (c_X7_stands l D o q1 q2 q3 q4 q5 q6 q7 q8 q9 q10 q11 q12 q13 q14 q15 q16 q17 q18 q19 q20 q21 q22 pe n la ri td ys ty ap wg rd sm bt up lw ii kd dy nd co od wo tp rk ry rn vs bs ch tr en du ol ig ln sz it mo ri la (by omega)) ok_X7_stands wn_X7_stands wl_X7_stands wm_X7_119 [0, 1, 2, 3, 4, 5, 6, 7, 8, 9, 10, 11, 12, 13, 14, 15, 16, 17, 18, 19, 20, 21, 22] 0 rfl rfl rfl ⟨Nat.le_of_ble_eq_true rfl, Nat.le_of_ble_eq_true rfl⟩ rfl rfl (Nat.le_of_ble_eq_true rfl) dX7_told_100) rfl ?_
                refine r_iln C dX7_told_103 rfl 1 rfl ?_
                refine r_ishr C dX7_told_104 ?_
                refine r_ic C (v := (1 : Int32)) dX7_told_105 (by decide) ?_
                refine r_iand C dX7_told_106 ?_
                exact r_iret rfl C (congrArg (fun z => some (Value.int z)) hv) rfl dX7_told_107
              · rw [if_neg c8] at hv
                by_cases c9 : what = (6 : Int32)
                · rw [if_pos c9] at hv
                  refine r_tabIn C (tgt := 108) dX7_told_12 (by rw [c9]; decide) (by rw [c9]; decide) (by rw [c9]; rfl) (by decide) ?_
                  refine r_aln C dX7_told_108 rfl 0 rfl ?_
                  refine gf_X7_113 C 0 rfl rfl dX7_told_109 ?_
                  refine r_iln C dX7_told_112 rfl 1 rfl ?_
                  refine r_ishr C dX7_told_113 ?_
                  refine r_ic C (v := (1 : Int32)) dX7_told_114 (by decide) ?_
                  refine r_iand C dX7_told_115 ?_
                  exact r_iret rfl C (congrArg (fun z => some (Value.int z)) hv) rfl dX7_told_116
                · rw [if_neg c9] at hv
                  have nc3 : what.toInt ≠ 0 := fun z => c3 (i32_eq _ _ 0 (by decide) z)
                  have nc4 : what.toInt ≠ 1 := fun z => c4 (i32_eq _ _ 1 (by decide) z)
                  have nc5 : what.toInt ≠ 2 := fun z => c5 (i32_eq _ _ 2 (by decide) z)
                  have nc6 : what.toInt ≠ 3 := fun z => c6 (i32_eq _ _ 3 (by decide) z)
                  have nc7 : what.toInt ≠ 4 := fun z => c7 (i32_eq _ _ 4 (by decide) z)
                  have nc8 : what.toInt ≠ 5 := fun z => c8 (i32_eq _ _ 5 (by decide) z)
                  have nc9 : what.toInt ≠ 6 := fun z => c9 (i32_eq _ _ 6 (by decide) z)
                  refine r_tabOut C (tgt := 117) dX7_told_12 (by omega) (by decide) ?_
                  refine r_ic C (v := (-1 : Int32)) dX7_told_117 (by decide) ?_
                  exact r_iret rfl C (congrArg (fun z => some (Value.int z)) hv) rfl dX7_told_118
  · rw [if_pos c1] at hv
    refine r_ic C (v := (-1 : Int32)) dX7_told_9 (by decide) ?_
    exact r_iret rfl C (congrArg (fun z => some (Value.int z)) hv) rfl dX7_told_10

def s_X7_set (n : Nat) (co : Nat → Int32) (od : Nat → Int32) (deed : Int32) (what : Int32) (v : Int32) : Int32 × (Nat → Int32) × (Nat → Int32) := (if s_X7_isDeed n deed.toInt64 = (0 : Int32) then ((-1 : Int32), co, od) else (if s_X7_in what.toInt64 (0 : Int64) (1 : Int64) = (0 : Int32) then ((-1 : Int32), co, od) else (if what = (0 : Int32) then (if s_X7_in v.toInt64 (0 : Int64) (9 : Int64) = (0 : Int32) then ((-1 : Int32), co, od) else (co deed.toNatClampNeg, upd co deed.toNatClampNeg v, upd od deed.toNatClampNeg (od deed.toNatClampNeg))) else (if s_X7_in v.toInt64 (0 : Int64) (4 : Int64) = (0 : Int32) then ((-1 : Int32), co, od) else (od deed.toNatClampNeg, upd co deed.toNatClampNeg (co deed.toNatClampNeg), upd od deed.toNatClampNeg v)))))
set_option maxHeartbeats 8000000 in
set_option maxRecDepth 100000 in
theorem c_X7_set (l : Launch) (D : va_G) (o : Nat) (q1 : Nat) (q2 : Nat) (q3 : Nat) (q4 : Nat) (q5 : Nat) (q6 : Nat) (q7 : Nat) (q8 : Nat) (q9 : Nat) (q10 : Nat) (q11 : Nat) (q12 : Nat) (q13 : Nat) (q14 : Nat) (q15 : Nat) (q16 : Nat) (q17 : Nat) (q18 : Nat) (q19 : Nat) (q20 : Nat) (q21 : Nat) (q22 : Nat) (pe : Nat) (n : Nat) (la : Int32) (ri : Int32) (td : Int32) (ys : Int32) (ty : Nat) (ap : Nat) (wg : Int32) (rd : Nat) (sm : Int32) (bt : Int32) (up : Int64) (lw : Int64) (ii : Int32) (kd : Nat → Int32) (dy : Nat → Int32) (nd : Nat → Int32) (co : Nat → Int32) (od : Nat → Int32) (wo : Nat → Int32) (tp : Nat → Int32) (rk : Nat → Int32) (ry : Nat → Int32) (rn : Nat → Int32) (vs : Nat → Int32) (bs : Nat → Int32) (ch : Nat → Int32) (tr : Nat → Int32) (en : Nat → Int32) (du : Nat → Int32) (ol : Nat → Int32) (ig : Nat → Int32) (ln : Nat → Int32) (sz : Nat → Int32) (it : Nat → Int64) (mo : Nat → Int64) (deed : Int32) (what : Int32) (v : Int32) (hn : n ≤ 12) (h0 : va_D (fun _ => True) (wM D o q1 q2 q3 q4 q5 q6 q7 q8 q9 q10 q11 q12 q13 q14 q15 q16 q17 q18 q19 q20 q21 q22 pe n la ri td ys ty ap wg rd sm bt up lw ii kd dy nd co od wo tp rk ry rn vs bs ch tr en du ol ig ln sz it mo)) : ct l yX7_set cX7_set 5 (some .int) 2 47 D [.ref o, .int deed, .int what, .int v] (wM D o q1 q2 q3 q4 q5 q6 q7 q8 q9 q10 q11 q12 q13 q14 q15 q16 q17 q18 q19 q20 q21 q22 pe n la ri td ys ty ap wg rd sm bt up lw ii kd dy nd co od wo tp rk ry rn vs bs ch tr en du ol ig ln sz it mo) (wM D o q1 q2 q3 q4 q5 q6 q7 q8 q9 q10 q11 q12 q13 q14 q15 q16 q17 q18 q19 q20 q21 q22 pe n la ri td ys ty ap wg rd sm bt up lw ii kd dy nd (s_X7_set n co od deed what v).2.1 (s_X7_set n co od deed what v).2.2 wo tp rk ry rn vs bs ch tr en du ol ig ln sz it mo) (Ad (wM D o q1 q2 q3 q4 q5 q6 q7 q8 q9 q10 q11 q12 q13 q14 q15 q16 q17 q18 q19 q20 q21 q22 pe n la ri td ys ty ap wg rd sm bt up lw ii kd dy nd co od wo tp rk ry rn vs bs ch tr en du ol ig ln sz it mo)) (some (Value.int (s_X7_set n co od deed what v).1)) := by
  obtain ⟨V, hv⟩ : ∃ V, s_X7_set n co od deed what v = V := ⟨_, rfl⟩
  rw [hv]
  refine ct_intro (own := RX7) (lv := [(0, .ref o), (1, .int deed), (2, .int what), (3, .int v)]) (by decide) rfl (Nat.le_of_ble_eq_true rfl) rfl ?_
  intro p_ e_ s_ m_ below_ meth_ c_ C
  have hv : (if s_X7_isDeed n deed.toInt64 = (0 : Int32) then ((-1 : Int32), co, od) else (if s_X7_in what.toInt64 (0 : Int64) (1 : Int64) = (0 : Int32) then ((-1 : Int32), co, od) else (if what = (0 : Int32) then (if s_X7_in v.toInt64 (0 : Int64) (9 : Int64) = (0 : Int32) then ((-1 : Int32), co, od) else (co deed.toNatClampNeg, upd co deed.toNatClampNeg v, upd od deed.toNatClampNeg (od deed.toNatClampNeg))) else (if s_X7_in v.toInt64 (0 : Int64) (4 : Int64) = (0 : Int32) then ((-1 : Int32), co, od) else (od deed.toNatClampNeg, upd co deed.toNatClampNeg (co deed.toNatClampNeg), upd od deed.toNatClampNeg v))))) = V := hv
  refine r_aln C dX7_set_0 rfl 0 rfl ?_
  refine r_iln C dX7_set_1 rfl 1 rfl ?_
  refine r_i2l C dX7_set_2 ?_
  refine aft_rd (st' := [.int (s_X7_isDeed n deed.toInt64)]) (run_V (rest := []) C (c_X7_isDeed l D o q1 q2 q3 q4 q5 q6 q7 q8 q9 q10 q11 q12 q13 q14 q15 q16 q17 q18 q19 q20 q21 q22 pe n la ri td ys ty ap wg rd sm bt up lw ii kd dy nd co od wo tp rk ry rn vs bs ch tr en du ol ig ln sz it mo deed.toInt64 ) ok_X7_isDeed wn_X7_isDeed wl_X7_isDeed wm_X7_109 [0, 1, 2, 3, 4, 5, 6, 7, 8, 9, 10, 11, 12, 13, 14, 15, 16, 17, 18, 19, 20, 21, 22] 0 rfl rfl rfl ⟨Nat.le_of_ble_eq_true rfl, Nat.le_of_ble_eq_true rfl⟩ rfl rfl (Nat.le_of_ble_eq_true rfl) dX7_set_3) rfl ?_
  refine r_ifeq C (tgt := 41) dX7_set_6 (by decide) (fun c1 => ?_) (fun c1 => ?_)
  · rw [if_pos c1] at hv
    refine r_ic C (v := (-1 : Int32)) dX7_set_41 (by decide) ?_
    exact r_iret rfl C (by rw [← hv]) (by rw [← hv]) dX7_set_42
  · rw [if_neg c1] at hv
    have e2 := mdeed_nat hn c1
    refine r_iln C dX7_set_9 rfl 2 rfl ?_
    refine r_i2l C dX7_set_10 ?_
    refine r_lc C (v := (0 : Int64)) dX7_set_11 (by decide) ?_
    refine r_lc C (v := (1 : Int64)) dX7_set_12 (by decide) ?_
    refine aft_rd (st' := [.int (s_X7_in what.toInt64 (0 : Int64) (1 : Int64))]) (run_S (rest := []) C (c_X7_in l D what.toInt64 (0 : Int64) (1 : Int64) ) ok_X7_in ws_X7_in wm_X7_87 [] rfl ⟨Nat.le_of_ble_eq_true rfl, Nat.le_of_ble_eq_true rfl⟩ rfl rfl (Nat.le_of_ble_eq_true rfl) dX7_set_13) rfl ?_
    refine r_ifeq C (tgt := 41) dX7_set_16 (by decide) (fun c3 => ?_) (fun c3 => ?_)
    · rw [if_pos c3] at hv
      refine r_ic C (v := (-1 : Int32)) dX7_set_41 (by decide) ?_
      exact r_iret rfl C (by rw [← hv]) (by rw [← hv]) dX7_set_42
    · rw [if_neg c3] at hv
      refine r_iln C dX7_set_19 rfl 3 rfl ?_
      refine r_i2l C dX7_set_20 ?_
      refine r_lc C (v := (0 : Int64)) dX7_set_21 (by decide) ?_
      refine r_iln C dX7_set_22 rfl 2 rfl ?_
      refine r_ifne C (tgt := 32) dX7_set_23 (by decide) (fun c4 => ?_) (fun c4 => ?_)
      · rw [if_neg c4] at hv
        refine r_ldc2 C wc_X7_91 dX7_set_32 ?_
        refine aft_rd (st' := [.int (s_X7_in v.toInt64 (0 : Int64) (4 : Int64))]) (run_S (rest := []) C (c_X7_in l D v.toInt64 (0 : Int64) (4 : Int64) ) ok_X7_in ws_X7_in wm_X7_87 [] rfl ⟨Nat.le_of_ble_eq_true rfl, Nat.le_of_ble_eq_true rfl⟩ rfl rfl (Nat.le_of_ble_eq_true rfl) dX7_set_35) rfl ?_
        refine r_ifne C (tgt := 43) dX7_set_38 (by decide) (fun c5 => ?_) (fun c5 => ?_)
        · rw [if_neg c5] at hv
          refine r_iln C dX7_set_43 rfl 2 rfl ?_
          refine r_ifne C (tgt := 56) dX7_set_44 (by decide) (fun c6 => ?_) (fun c6 => ?_)
          · skip
            refine r_aln C dX7_set_56 rfl 0 rfl ?_
            refine gf_X7_22 C 0 rfl rfl dX7_set_57 ?_
            refine r_iln C dX7_set_60 rfl 1 rfl ?_
            refine r_iald C 5 deed.toNatClampNeg rfl e2.1 (by omega) (by decide) rfl dX7_set_61 ?_
            refine r_is C (lv' := [(4, .int (od deed.toNatClampNeg)), (0, .ref o), (1, .int deed), (2, .int what), (3, .int v)]) dX7_set_62 (by decide) rfl ?_
            refine r_aln C dX7_set_64 rfl 1 rfl ?_
            refine gf_X7_19 C 0 rfl rfl dX7_set_65 ?_
            refine r_iln C dX7_set_68 rfl 2 rfl ?_
            refine r_iln C dX7_set_69 rfl 3 rfl ?_
            refine r_ifne C (tgt := 77) dX7_set_70 (by decide) (fun c7 => ?_) (fun c7 => ?_)
            · skip
              refine r_aln C dX7_set_77 rfl 1 rfl ?_
              refine gf_X7_19 C 0 rfl rfl dX7_set_78 ?_
              refine r_iln C dX7_set_81 rfl 2 rfl ?_
              refine r_iald C 4 deed.toNatClampNeg rfl e2.1 (by omega) (by decide) rfl dX7_set_82 ?_
              refine r_iast C (ws2 := wM D o q1 q2 q3 q4 q5 q6 q7 q8 q9 q10 q11 q12 q13 q14 q15 q16 q17 q18 q19 q20 q21 q22 pe n la ri td ys ty ap wg rd sm bt up lw ii kd dy nd (upd co deed.toNatClampNeg (co deed.toNatClampNeg)) od wo tp rk ry rn vs bs ch tr en du ol ig ln sz it mo) h0 rfl 4 deed.toNatClampNeg rfl e2.1 (by omega) (by decide) dX7_set_83 rfl rfl ?_
              refine r_aln C dX7_set_84 rfl 1 rfl ?_
              refine gf_X7_22 C 0 rfl rfl dX7_set_85 ?_
              refine r_iln C dX7_set_88 rfl 2 rfl ?_
              refine r_iln C dX7_set_89 rfl 3 rfl ?_
              refine r_ifne C (tgt := 102) dX7_set_90 (by decide) (fun c8 => ?_) (fun c8 => ?_)
              · skip
                refine r_iln C dX7_set_102 rfl 4 rfl ?_
                refine r_iast C (ws2 := wM D o q1 q2 q3 q4 q5 q6 q7 q8 q9 q10 q11 q12 q13 q14 q15 q16 q17 q18 q19 q20 q21 q22 pe n la ri td ys ty ap wg rd sm bt up lw ii kd dy nd (upd co deed.toNatClampNeg (co deed.toNatClampNeg)) (upd od deed.toNatClampNeg v) wo tp rk ry rn vs bs ch tr en du ol ig ln sz it mo) h0 rfl 5 deed.toNatClampNeg rfl e2.1 (by omega) (by decide) dX7_set_103 rfl rfl ?_
                refine r_il C dX7_set_104 0 rfl ?_
                exact r_iret rfl C (by rw [← hv]) (by rw [← hv]) dX7_set_106
              · exact absurd c8 c4
            · exact absurd c7 c4
          · exact absurd c6 c4
        · rw [if_pos c5] at hv
          refine r_ic C (v := (-1 : Int32)) dX7_set_41 (by decide) ?_
          exact r_iret rfl C (by rw [← hv]) (by rw [← hv]) dX7_set_42
      · rw [if_pos c4] at hv
        refine r_ldc2 C wc_X7_123 dX7_set_26 ?_
        refine r_goto C (tgt := 35) dX7_set_29 (by decide) ?_
        refine aft_rd (st' := [.int (s_X7_in v.toInt64 (0 : Int64) (9 : Int64))]) (run_S (rest := []) C (c_X7_in l D v.toInt64 (0 : Int64) (9 : Int64) ) ok_X7_in ws_X7_in wm_X7_87 [] rfl ⟨Nat.le_of_ble_eq_true rfl, Nat.le_of_ble_eq_true rfl⟩ rfl rfl (Nat.le_of_ble_eq_true rfl) dX7_set_35) rfl ?_
        refine r_ifne C (tgt := 43) dX7_set_38 (by decide) (fun c9 => ?_) (fun c9 => ?_)
        · rw [if_neg c9] at hv
          refine r_iln C dX7_set_43 rfl 2 rfl ?_
          refine r_ifne C (tgt := 56) dX7_set_44 (by decide) (fun c10 => ?_) (fun c10 => ?_)
          · exact absurd c4 c10
          · skip
            refine r_aln C dX7_set_47 rfl 0 rfl ?_
            refine gf_X7_19 C 0 rfl rfl dX7_set_48 ?_
            refine r_iln C dX7_set_51 rfl 1 rfl ?_
            refine r_iald C 4 deed.toNatClampNeg rfl e2.1 (by omega) (by decide) rfl dX7_set_52 ?_
            refine r_goto C (tgt := 62) dX7_set_53 (by decide) ?_
            refine r_is C (lv' := [(4, .int (co deed.toNatClampNeg)), (0, .ref o), (1, .int deed), (2, .int what), (3, .int v)]) dX7_set_62 (by decide) rfl ?_
            refine r_aln C dX7_set_64 rfl 1 rfl ?_
            refine gf_X7_19 C 0 rfl rfl dX7_set_65 ?_
            refine r_iln C dX7_set_68 rfl 2 rfl ?_
            refine r_iln C dX7_set_69 rfl 3 rfl ?_
            refine r_ifne C (tgt := 77) dX7_set_70 (by decide) (fun c11 => ?_) (fun c11 => ?_)
            · exact absurd c4 c11
            · skip
              refine r_iln C dX7_set_73 rfl 4 rfl ?_
              refine r_goto C (tgt := 83) dX7_set_74 (by decide) ?_
              refine r_iast C (ws2 := wM D o q1 q2 q3 q4 q5 q6 q7 q8 q9 q10 q11 q12 q13 q14 q15 q16 q17 q18 q19 q20 q21 q22 pe n la ri td ys ty ap wg rd sm bt up lw ii kd dy nd (upd co deed.toNatClampNeg v) od wo tp rk ry rn vs bs ch tr en du ol ig ln sz it mo) h0 rfl 4 deed.toNatClampNeg rfl e2.1 (by omega) (by decide) dX7_set_83 rfl rfl ?_
              refine r_aln C dX7_set_84 rfl 1 rfl ?_
              refine gf_X7_22 C 0 rfl rfl dX7_set_85 ?_
              refine r_iln C dX7_set_88 rfl 2 rfl ?_
              refine r_iln C dX7_set_89 rfl 3 rfl ?_
              refine r_ifne C (tgt := 102) dX7_set_90 (by decide) (fun c12 => ?_) (fun c12 => ?_)
              · exact absurd c4 c12
              · skip
                refine r_aln C dX7_set_93 rfl 1 rfl ?_
                refine gf_X7_22 C 0 rfl rfl dX7_set_94 ?_
                refine r_iln C dX7_set_97 rfl 2 rfl ?_
                refine r_iald C 5 deed.toNatClampNeg rfl e2.1 (by omega) (by decide) rfl dX7_set_98 ?_
                refine r_goto C (tgt := 103) dX7_set_99 (by decide) ?_
                refine r_iast C (ws2 := wM D o q1 q2 q3 q4 q5 q6 q7 q8 q9 q10 q11 q12 q13 q14 q15 q16 q17 q18 q19 q20 q21 q22 pe n la ri td ys ty ap wg rd sm bt up lw ii kd dy nd (upd co deed.toNatClampNeg v) (upd od deed.toNatClampNeg (od deed.toNatClampNeg)) wo tp rk ry rn vs bs ch tr en du ol ig ln sz it mo) h0 rfl 5 deed.toNatClampNeg rfl e2.1 (by omega) (by decide) dX7_set_103 rfl rfl ?_
                refine r_il C dX7_set_104 0 rfl ?_
                exact r_iret rfl C (by rw [← hv]) (by rw [← hv]) dX7_set_106
        · rw [if_pos c9] at hv
          refine r_ic C (v := (-1 : Int32)) dX7_set_41 (by decide) ?_
          exact r_iret rfl C (by rw [← hv]) (by rw [← hv]) dX7_set_42

def s_X7_worth (n : Nat) (wo : Nat → Int32) (deed : Int32) (person : Int32) (v : Int32) : Int32 × (Nat → Int32) := (if s_X7_isDeed n deed.toInt64 = (0 : Int32) then ((-100001 : Int32), wo) else (if s_X7_in person.toInt64 (0 : Int64) (3 : Int64) = (0 : Int32) then ((-100001 : Int32), wo) else (if s_X7_in v.toInt64 (-9 : Int64) (9 : Int64) = (0 : Int32) then ((-100001 : Int32), wo) else (wo ((4 * deed.toNatClampNeg) + person.toNatClampNeg), upd wo ((4 * deed.toNatClampNeg) + person.toNatClampNeg) v))))
set_option maxHeartbeats 8000000 in
set_option maxRecDepth 100000 in
theorem c_X7_worth (l : Launch) (D : va_G) (o : Nat) (q1 : Nat) (q2 : Nat) (q3 : Nat) (q4 : Nat) (q5 : Nat) (q6 : Nat) (q7 : Nat) (q8 : Nat) (q9 : Nat) (q10 : Nat) (q11 : Nat) (q12 : Nat) (q13 : Nat) (q14 : Nat) (q15 : Nat) (q16 : Nat) (q17 : Nat) (q18 : Nat) (q19 : Nat) (q20 : Nat) (q21 : Nat) (q22 : Nat) (pe : Nat) (n : Nat) (la : Int32) (ri : Int32) (td : Int32) (ys : Int32) (ty : Nat) (ap : Nat) (wg : Int32) (rd : Nat) (sm : Int32) (bt : Int32) (up : Int64) (lw : Int64) (ii : Int32) (kd : Nat → Int32) (dy : Nat → Int32) (nd : Nat → Int32) (co : Nat → Int32) (od : Nat → Int32) (wo : Nat → Int32) (tp : Nat → Int32) (rk : Nat → Int32) (ry : Nat → Int32) (rn : Nat → Int32) (vs : Nat → Int32) (bs : Nat → Int32) (ch : Nat → Int32) (tr : Nat → Int32) (en : Nat → Int32) (du : Nat → Int32) (ol : Nat → Int32) (ig : Nat → Int32) (ln : Nat → Int32) (sz : Nat → Int32) (it : Nat → Int64) (mo : Nat → Int64) (deed : Int32) (person : Int32) (v : Int32) (hn : n ≤ 12) (h0 : va_D (fun _ => True) (wM D o q1 q2 q3 q4 q5 q6 q7 q8 q9 q10 q11 q12 q13 q14 q15 q16 q17 q18 q19 q20 q21 q22 pe n la ri td ys ty ap wg rd sm bt up lw ii kd dy nd co od wo tp rk ry rn vs bs ch tr en du ol ig ln sz it mo)) : ct l yX7_worth cX7_worth 5 (some .int) 2 47 D [.ref o, .int deed, .int person, .int v] (wM D o q1 q2 q3 q4 q5 q6 q7 q8 q9 q10 q11 q12 q13 q14 q15 q16 q17 q18 q19 q20 q21 q22 pe n la ri td ys ty ap wg rd sm bt up lw ii kd dy nd co od wo tp rk ry rn vs bs ch tr en du ol ig ln sz it mo) (wM D o q1 q2 q3 q4 q5 q6 q7 q8 q9 q10 q11 q12 q13 q14 q15 q16 q17 q18 q19 q20 q21 q22 pe n la ri td ys ty ap wg rd sm bt up lw ii kd dy nd co od (s_X7_worth n wo deed person v).2 tp rk ry rn vs bs ch tr en du ol ig ln sz it mo) (Ad (wM D o q1 q2 q3 q4 q5 q6 q7 q8 q9 q10 q11 q12 q13 q14 q15 q16 q17 q18 q19 q20 q21 q22 pe n la ri td ys ty ap wg rd sm bt up lw ii kd dy nd co od wo tp rk ry rn vs bs ch tr en du ol ig ln sz it mo)) (some (Value.int (s_X7_worth n wo deed person v).1)) := by
  obtain ⟨V, hv⟩ : ∃ V, s_X7_worth n wo deed person v = V := ⟨_, rfl⟩
  rw [hv]
  refine ct_intro (own := RX7) (lv := [(0, .ref o), (1, .int deed), (2, .int person), (3, .int v)]) (by decide) rfl (Nat.le_of_ble_eq_true rfl) rfl ?_
  intro p_ e_ s_ m_ below_ meth_ c_ C
  have hv : (if s_X7_isDeed n deed.toInt64 = (0 : Int32) then ((-100001 : Int32), wo) else (if s_X7_in person.toInt64 (0 : Int64) (3 : Int64) = (0 : Int32) then ((-100001 : Int32), wo) else (if s_X7_in v.toInt64 (-9 : Int64) (9 : Int64) = (0 : Int32) then ((-100001 : Int32), wo) else (wo ((4 * deed.toNatClampNeg) + person.toNatClampNeg), upd wo ((4 * deed.toNatClampNeg) + person.toNatClampNeg) v)))) = V := hv
  refine r_aln C dX7_worth_0 rfl 0 rfl ?_
  refine r_iln C dX7_worth_1 rfl 1 rfl ?_
  refine r_i2l C dX7_worth_2 ?_
  refine aft_rd (st' := [.int (s_X7_isDeed n deed.toInt64)]) (run_V (rest := []) C (c_X7_isDeed l D o q1 q2 q3 q4 q5 q6 q7 q8 q9 q10 q11 q12 q13 q14 q15 q16 q17 q18 q19 q20 q21 q22 pe n la ri td ys ty ap wg rd sm bt up lw ii kd dy nd co od wo tp rk ry rn vs bs ch tr en du ol ig ln sz it mo deed.toInt64 ) ok_X7_isDeed wn_X7_isDeed wl_X7_isDeed wm_X7_109 [0, 1, 2, 3, 4, 5, 6, 7, 8, 9, 10, 11, 12, 13, 14, 15, 16, 17, 18, 19, 20, 21, 22] 0 rfl rfl rfl ⟨Nat.le_of_ble_eq_true rfl, Nat.le_of_ble_eq_true rfl⟩ rfl rfl (Nat.le_of_ble_eq_true rfl) dX7_worth_3) rfl ?_
  refine r_ifeq C (tgt := 35) dX7_worth_6 (by decide) (fun c1 => ?_) (fun c1 => ?_)
  · rw [if_pos c1] at hv
    refine r_ldc C wc_X7_127 dX7_worth_35 ?_
    exact r_iret rfl C (by rw [← hv]) (by rw [← hv]) dX7_worth_37
  · rw [if_neg c1] at hv
    have e2 := mdeed_nat hn c1
    refine r_iln C dX7_worth_9 rfl 2 rfl ?_
    refine r_i2l C dX7_worth_10 ?_
    refine r_lc C (v := (0 : Int64)) dX7_worth_11 (by decide) ?_
    refine r_ldc2 C wc_X7_93 dX7_worth_12 ?_
    refine aft_rd (st' := [.int (s_X7_in person.toInt64 (0 : Int64) (3 : Int64))]) (run_S (rest := []) C (c_X7_in l D person.toInt64 (0 : Int64) (3 : Int64) ) ok_X7_in ws_X7_in wm_X7_87 [] rfl ⟨Nat.le_of_ble_eq_true rfl, Nat.le_of_ble_eq_true rfl⟩ rfl rfl (Nat.le_of_ble_eq_true rfl) dX7_worth_15) rfl ?_
    refine r_ifeq C (tgt := 35) dX7_worth_18 (by decide) (fun c3 => ?_) (fun c3 => ?_)
    · rw [if_pos c3] at hv
      refine r_ldc C wc_X7_127 dX7_worth_35 ?_
      exact r_iret rfl C (by rw [← hv]) (by rw [← hv]) dX7_worth_37
    · rw [if_neg c3] at hv
      have e4 := m03_nat c3
      refine r_iln C dX7_worth_21 rfl 3 rfl ?_
      refine r_i2l C dX7_worth_22 ?_
      refine r_ldc2 C wc_X7_125 dX7_worth_23 ?_
      refine r_ldc2 C wc_X7_123 dX7_worth_26 ?_
      refine aft_rd (st' := [.int (s_X7_in v.toInt64 (-9 : Int64) (9 : Int64))]) (run_S (rest := []) C (c_X7_in l D v.toInt64 (-9 : Int64) (9 : Int64) ) ok_X7_in ws_X7_in wm_X7_87 [] rfl ⟨Nat.le_of_ble_eq_true rfl, Nat.le_of_ble_eq_true rfl⟩ rfl rfl (Nat.le_of_ble_eq_true rfl) dX7_worth_29) rfl ?_
      refine r_ifne C (tgt := 38) dX7_worth_32 (by decide) (fun c5 => ?_) (fun c5 => ?_)
      · rw [if_neg c5] at hv
        refine r_aln C dX7_worth_38 rfl 0 rfl ?_
        refine gf_X7_25 C 0 rfl rfl dX7_worth_39 ?_
        refine r_ic C (v := (4 : Int32)) dX7_worth_42 (by decide) ?_
        refine r_iln C dX7_worth_43 rfl 1 rfl ?_
        refine r_imul C dX7_worth_44 ?_
        refine r_iln C dX7_worth_45 rfl 2 rfl ?_
        refine r_iadd C dX7_worth_46 ?_
        refine r_iald C 6 ((4 * deed.toNatClampNeg) + person.toNatClampNeg) rfl (nv_add (nv_mul rfl e2.1) e4.1) (by omega) (by decide) rfl dX7_worth_47 ?_
        refine r_is C (lv' := [(4, .int (wo ((4 * deed.toNatClampNeg) + person.toNatClampNeg))), (0, .ref o), (1, .int deed), (2, .int person), (3, .int v)]) dX7_worth_48 (by decide) rfl ?_
        refine r_aln C dX7_worth_50 rfl 1 rfl ?_
        refine gf_X7_25 C 0 rfl rfl dX7_worth_51 ?_
        refine r_ic C (v := (4 : Int32)) dX7_worth_54 (by decide) ?_
        refine r_iln C dX7_worth_55 rfl 2 rfl ?_
        refine r_imul C dX7_worth_56 ?_
        refine r_iln C dX7_worth_57 rfl 3 rfl ?_
        refine r_iadd C dX7_worth_58 ?_
        refine r_iln C dX7_worth_59 rfl 4 rfl ?_
        refine r_iast C (ws2 := wM D o q1 q2 q3 q4 q5 q6 q7 q8 q9 q10 q11 q12 q13 q14 q15 q16 q17 q18 q19 q20 q21 q22 pe n la ri td ys ty ap wg rd sm bt up lw ii kd dy nd co od (upd wo ((4 * deed.toNatClampNeg) + person.toNatClampNeg) v) tp rk ry rn vs bs ch tr en du ol ig ln sz it mo) h0 rfl 6 ((4 * deed.toNatClampNeg) + person.toNatClampNeg) rfl (nv_add (nv_mul rfl e2.1) e4.1) (by omega) (by decide) dX7_worth_60 rfl rfl ?_
        refine r_il C dX7_worth_61 0 rfl ?_
        exact r_iret rfl C (by rw [← hv]) (by rw [← hv]) dX7_worth_63
      · rw [if_pos c5] at hv
        refine r_ldc C wc_X7_127 dX7_worth_35 ?_
        exact r_iret rfl C (by rw [← hv]) (by rw [← hv]) dX7_worth_37

def s_X7_worthOf (n : Nat) (wo : Nat → Int32) (deed : Int32) (person : Int32) : Int32 := (if s_X7_isDeed n deed.toInt64 = (0 : Int32) then (-100001 : Int32) else (if s_X7_in person.toInt64 (0 : Int64) (3 : Int64) = (0 : Int32) then (-100001 : Int32) else wo ((4 * deed.toNatClampNeg) + person.toNatClampNeg)))
set_option maxHeartbeats 8000000 in
set_option maxRecDepth 100000 in
theorem c_X7_worthOf (l : Launch) (D : va_G) (o : Nat) (q1 : Nat) (q2 : Nat) (q3 : Nat) (q4 : Nat) (q5 : Nat) (q6 : Nat) (q7 : Nat) (q8 : Nat) (q9 : Nat) (q10 : Nat) (q11 : Nat) (q12 : Nat) (q13 : Nat) (q14 : Nat) (q15 : Nat) (q16 : Nat) (q17 : Nat) (q18 : Nat) (q19 : Nat) (q20 : Nat) (q21 : Nat) (q22 : Nat) (pe : Nat) (n : Nat) (la : Int32) (ri : Int32) (td : Int32) (ys : Int32) (ty : Nat) (ap : Nat) (wg : Int32) (rd : Nat) (sm : Int32) (bt : Int32) (up : Int64) (lw : Int64) (ii : Int32) (kd : Nat → Int32) (dy : Nat → Int32) (nd : Nat → Int32) (co : Nat → Int32) (od : Nat → Int32) (wo : Nat → Int32) (tp : Nat → Int32) (rk : Nat → Int32) (ry : Nat → Int32) (rn : Nat → Int32) (vs : Nat → Int32) (bs : Nat → Int32) (ch : Nat → Int32) (tr : Nat → Int32) (en : Nat → Int32) (du : Nat → Int32) (ol : Nat → Int32) (ig : Nat → Int32) (ln : Nat → Int32) (sz : Nat → Int32) (it : Nat → Int64) (mo : Nat → Int64) (deed : Int32) (person : Int32) (hn : n ≤ 12) : ct l yX7_worthOf cX7_worthOf 3 (some .int) 2 47 D [.ref o, .int deed, .int person] (wM D o q1 q2 q3 q4 q5 q6 q7 q8 q9 q10 q11 q12 q13 q14 q15 q16 q17 q18 q19 q20 q21 q22 pe n la ri td ys ty ap wg rd sm bt up lw ii kd dy nd co od wo tp rk ry rn vs bs ch tr en du ol ig ln sz it mo) (wM D o q1 q2 q3 q4 q5 q6 q7 q8 q9 q10 q11 q12 q13 q14 q15 q16 q17 q18 q19 q20 q21 q22 pe n la ri td ys ty ap wg rd sm bt up lw ii kd dy nd co od wo tp rk ry rn vs bs ch tr en du ol ig ln sz it mo) (fun _ => False) (some (Value.int (s_X7_worthOf n wo deed person))) := by
  obtain ⟨V, hv⟩ : ∃ V, s_X7_worthOf n wo deed person = V := ⟨_, rfl⟩
  rw [hv]
  refine ct_intro (own := RX7) (lv := [(0, .ref o), (1, .int deed), (2, .int person)]) (by decide) rfl (Nat.le_of_ble_eq_true rfl) rfl ?_
  intro p_ e_ s_ m_ below_ meth_ c_ C
  have hv : (if s_X7_isDeed n deed.toInt64 = (0 : Int32) then (-100001 : Int32) else (if s_X7_in person.toInt64 (0 : Int64) (3 : Int64) = (0 : Int32) then (-100001 : Int32) else wo ((4 * deed.toNatClampNeg) + person.toNatClampNeg))) = V := hv
  refine r_aln C dX7_worthOf_0 rfl 0 rfl ?_
  refine r_iln C dX7_worthOf_1 rfl 1 rfl ?_
  refine r_i2l C dX7_worthOf_2 ?_
  refine aft_rd (st' := [.int (s_X7_isDeed n deed.toInt64)]) (run_V (rest := []) C (c_X7_isDeed l D o q1 q2 q3 q4 q5 q6 q7 q8 q9 q10 q11 q12 q13 q14 q15 q16 q17 q18 q19 q20 q21 q22 pe n la ri td ys ty ap wg rd sm bt up lw ii kd dy nd co od wo tp rk ry rn vs bs ch tr en du ol ig ln sz it mo deed.toInt64 ) ok_X7_isDeed wn_X7_isDeed wl_X7_isDeed wm_X7_109 [0, 1, 2, 3, 4, 5, 6, 7, 8, 9, 10, 11, 12, 13, 14, 15, 16, 17, 18, 19, 20, 21, 22] 0 rfl rfl rfl ⟨Nat.le_of_ble_eq_true rfl, Nat.le_of_ble_eq_true rfl⟩ rfl rfl (Nat.le_of_ble_eq_true rfl) dX7_worthOf_3) rfl ?_
  refine r_ifeq C (tgt := 34) dX7_worthOf_6 (by decide) (fun c1 => ?_) (fun c1 => ?_)
  · rw [if_pos c1] at hv
    refine r_ldc C wc_X7_127 dX7_worthOf_34 ?_
    exact r_iret rfl C (congrArg (fun z => some (Value.int z)) hv) rfl dX7_worthOf_36
  · rw [if_neg c1] at hv
    have e2 := mdeed_nat hn c1
    refine r_iln C dX7_worthOf_9 rfl 2 rfl ?_
    refine r_i2l C dX7_worthOf_10 ?_
    refine r_lc C (v := (0 : Int64)) dX7_worthOf_11 (by decide) ?_
    refine r_ldc2 C wc_X7_93 dX7_worthOf_12 ?_
    refine aft_rd (st' := [.int (s_X7_in person.toInt64 (0 : Int64) (3 : Int64))]) (run_S (rest := []) C (c_X7_in l D person.toInt64 (0 : Int64) (3 : Int64) ) ok_X7_in ws_X7_in wm_X7_87 [] rfl ⟨Nat.le_of_ble_eq_true rfl, Nat.le_of_ble_eq_true rfl⟩ rfl rfl (Nat.le_of_ble_eq_true rfl) dX7_worthOf_15) rfl ?_
    refine r_ifeq C (tgt := 34) dX7_worthOf_18 (by decide) (fun c3 => ?_) (fun c3 => ?_)
    · rw [if_pos c3] at hv
      refine r_ldc C wc_X7_127 dX7_worthOf_34 ?_
      exact r_iret rfl C (congrArg (fun z => some (Value.int z)) hv) rfl dX7_worthOf_36
    · rw [if_neg c3] at hv
      have e4 := m03_nat c3
      refine r_aln C dX7_worthOf_21 rfl 0 rfl ?_
      refine gf_X7_25 C 0 rfl rfl dX7_worthOf_22 ?_
      refine r_ic C (v := (4 : Int32)) dX7_worthOf_25 (by decide) ?_
      refine r_iln C dX7_worthOf_26 rfl 1 rfl ?_
      refine r_imul C dX7_worthOf_27 ?_
      refine r_iln C dX7_worthOf_28 rfl 2 rfl ?_
      refine r_iadd C dX7_worthOf_29 ?_
      refine r_iald C 6 ((4 * deed.toNatClampNeg) + person.toNatClampNeg) rfl (nv_add (nv_mul rfl e2.1) e4.1) (by omega) (by decide) rfl dX7_worthOf_30 ?_
      refine r_goto C (tgt := 36) dX7_worthOf_31 (by decide) ?_
      exact r_iret rfl C (congrArg (fun z => some (Value.int z)) hv) rfl dX7_worthOf_36

def s_X7_last (n : Nat) (la : Int32) (set : Int32) : Int32 × Int32 := (if s_X7_areDeeds n set.toInt64 = (0 : Int32) then ((-1 : Int32), la) else (la, set))
set_option maxHeartbeats 8000000 in
set_option maxRecDepth 100000 in
theorem c_X7_last (l : Launch) (D : va_G) (o : Nat) (q1 : Nat) (q2 : Nat) (q3 : Nat) (q4 : Nat) (q5 : Nat) (q6 : Nat) (q7 : Nat) (q8 : Nat) (q9 : Nat) (q10 : Nat) (q11 : Nat) (q12 : Nat) (q13 : Nat) (q14 : Nat) (q15 : Nat) (q16 : Nat) (q17 : Nat) (q18 : Nat) (q19 : Nat) (q20 : Nat) (q21 : Nat) (q22 : Nat) (pe : Nat) (n : Nat) (la : Int32) (ri : Int32) (td : Int32) (ys : Int32) (ty : Nat) (ap : Nat) (wg : Int32) (rd : Nat) (sm : Int32) (bt : Int32) (up : Int64) (lw : Int64) (ii : Int32) (kd : Nat → Int32) (dy : Nat → Int32) (nd : Nat → Int32) (co : Nat → Int32) (od : Nat → Int32) (wo : Nat → Int32) (tp : Nat → Int32) (rk : Nat → Int32) (ry : Nat → Int32) (rn : Nat → Int32) (vs : Nat → Int32) (bs : Nat → Int32) (ch : Nat → Int32) (tr : Nat → Int32) (en : Nat → Int32) (du : Nat → Int32) (ol : Nat → Int32) (ig : Nat → Int32) (ln : Nat → Int32) (sz : Nat → Int32) (it : Nat → Int64) (mo : Nat → Int64) (set : Int32) (hn : n ≤ 12) (h0 : va_D (fun _ => True) (wM D o q1 q2 q3 q4 q5 q6 q7 q8 q9 q10 q11 q12 q13 q14 q15 q16 q17 q18 q19 q20 q21 q22 pe n la ri td ys ty ap wg rd sm bt up lw ii kd dy nd co od wo tp rk ry rn vs bs ch tr en du ol ig ln sz it mo)) : ct l yX7_last cX7_last 3 (some .int) 2 47 D [.ref o, .int set] (wM D o q1 q2 q3 q4 q5 q6 q7 q8 q9 q10 q11 q12 q13 q14 q15 q16 q17 q18 q19 q20 q21 q22 pe n la ri td ys ty ap wg rd sm bt up lw ii kd dy nd co od wo tp rk ry rn vs bs ch tr en du ol ig ln sz it mo) (wM D o q1 q2 q3 q4 q5 q6 q7 q8 q9 q10 q11 q12 q13 q14 q15 q16 q17 q18 q19 q20 q21 q22 pe n (s_X7_last n la set).2 ri td ys ty ap wg rd sm bt up lw ii kd dy nd co od wo tp rk ry rn vs bs ch tr en du ol ig ln sz it mo) (Ad (wM D o q1 q2 q3 q4 q5 q6 q7 q8 q9 q10 q11 q12 q13 q14 q15 q16 q17 q18 q19 q20 q21 q22 pe n la ri td ys ty ap wg rd sm bt up lw ii kd dy nd co od wo tp rk ry rn vs bs ch tr en du ol ig ln sz it mo)) (some (Value.int (s_X7_last n la set).1)) := by
  obtain ⟨V, hv⟩ : ∃ V, s_X7_last n la set = V := ⟨_, rfl⟩
  rw [hv]
  refine ct_intro (own := RX7) (lv := [(0, .ref o), (1, .int set)]) (by decide) rfl (Nat.le_of_ble_eq_true rfl) rfl ?_
  intro p_ e_ s_ m_ below_ meth_ c_ C
  have hv : (if s_X7_areDeeds n set.toInt64 = (0 : Int32) then ((-1 : Int32), la) else (la, set)) = V := hv
  refine r_aln C dX7_last_0 rfl 0 rfl ?_
  refine r_iln C dX7_last_1 rfl 1 rfl ?_
  refine r_i2l C dX7_last_2 ?_
  refine aft_rd (st' := [.int (s_X7_areDeeds n set.toInt64)]) (run_V (rest := []) C (c_X7_areDeeds l D o q1 q2 q3 q4 q5 q6 q7 q8 q9 q10 q11 q12 q13 q14 q15 q16 q17 q18 q19 q20 q21 q22 pe n la ri td ys ty ap wg rd sm bt up lw ii kd dy nd co od wo tp rk ry rn vs bs ch tr en du ol ig ln sz it mo set.toInt64 (by omega)) ok_X7_areDeeds wn_X7_areDeeds wl_X7_areDeeds wm_X7_128 [0, 1, 2, 3, 4, 5, 6, 7, 8, 9, 10, 11, 12, 13, 14, 15, 16, 17, 18, 19, 20, 21, 22] 0 rfl rfl rfl ⟨Nat.le_of_ble_eq_true rfl, Nat.le_of_ble_eq_true rfl⟩ rfl rfl (Nat.le_of_ble_eq_true rfl) dX7_last_3) rfl ?_
  refine r_ifne C (tgt := 11) dX7_last_6 (by decide) (fun c1 => ?_) (fun c1 => ?_)
  · rw [if_neg c1] at hv
    refine r_aln C dX7_last_11 rfl 0 rfl ?_
    refine gf_X7_116 C 0 rfl rfl dX7_last_12 ?_
    refine r_isn C (lv' := [(2, .int la), (0, .ref o), (1, .int set)]) dX7_last_15 rfl (by decide) rfl ?_
    refine r_aln C dX7_last_16 rfl 1 rfl ?_
    refine r_iln C dX7_last_17 rfl 2 rfl ?_
    refine pf_X7_116 C (ws2 := wM D o q1 q2 q3 q4 q5 q6 q7 q8 q9 q10 q11 q12 q13 q14 q15 q16 q17 q18 q19 q20 q21 q22 pe n set ri td ys ty ap wg rd sm bt up lw ii kd dy nd co od wo tp rk ry rn vs bs ch tr en du ol ig ln sz it mo) h0 rfl 0 rfl (Nat.le_of_ble_eq_true rfl) dX7_last_18 rfl rfl ?_
    refine r_iln C dX7_last_21 rfl 0 rfl ?_
    exact r_iret rfl C (by rw [← hv]) (by rw [← hv]) dX7_last_22
  · rw [if_pos c1] at hv
    refine r_ic C (v := (-1 : Int32)) dX7_last_9 (by decide) ?_
    exact r_iret rfl C (by rw [← hv]) (by rw [← hv]) dX7_last_10

def s_X7_count (pe : Nat) (n : Nat) (la : Int32) (ri : Int32) (td : Int32) (ys : Int32) (kd : Nat → Int32) (nd : Nat → Int32) (what : Int32) : Int32 := (if what = (0 : Int32) then nI pe else (if what = (1 : Int32) then nI n else (if what = (2 : Int32) then td + (1 : Int32) else (if what = (3 : Int32) then ys else (if what = (4 : Int32) then s_X7_stands n kd nd ri la else (if what = (5 : Int32) then ri else (if what = (6 : Int32) then la else (-1 : Int32))))))))
set_option maxHeartbeats 8000000 in
set_option maxRecDepth 100000 in
theorem c_X7_count (l : Launch) (D : va_G) (o : Nat) (q1 : Nat) (q2 : Nat) (q3 : Nat) (q4 : Nat) (q5 : Nat) (q6 : Nat) (q7 : Nat) (q8 : Nat) (q9 : Nat) (q10 : Nat) (q11 : Nat) (q12 : Nat) (q13 : Nat) (q14 : Nat) (q15 : Nat) (q16 : Nat) (q17 : Nat) (q18 : Nat) (q19 : Nat) (q20 : Nat) (q21 : Nat) (q22 : Nat) (pe : Nat) (n : Nat) (la : Int32) (ri : Int32) (td : Int32) (ys : Int32) (ty : Nat) (ap : Nat) (wg : Int32) (rd : Nat) (sm : Int32) (bt : Int32) (up : Int64) (lw : Int64) (ii : Int32) (kd : Nat → Int32) (dy : Nat → Int32) (nd : Nat → Int32) (co : Nat → Int32) (od : Nat → Int32) (wo : Nat → Int32) (tp : Nat → Int32) (rk : Nat → Int32) (ry : Nat → Int32) (rn : Nat → Int32) (vs : Nat → Int32) (bs : Nat → Int32) (ch : Nat → Int32) (tr : Nat → Int32) (en : Nat → Int32) (du : Nat → Int32) (ol : Nat → Int32) (ig : Nat → Int32) (ln : Nat → Int32) (sz : Nat → Int32) (it : Nat → Int64) (mo : Nat → Int64) (what : Int32) (hn : n ≤ 12) : ct l yX7_count cX7_count 2 (some .int) 2 48 D [.ref o, .int what] (wM D o q1 q2 q3 q4 q5 q6 q7 q8 q9 q10 q11 q12 q13 q14 q15 q16 q17 q18 q19 q20 q21 q22 pe n la ri td ys ty ap wg rd sm bt up lw ii kd dy nd co od wo tp rk ry rn vs bs ch tr en du ol ig ln sz it mo) (wM D o q1 q2 q3 q4 q5 q6 q7 q8 q9 q10 q11 q12 q13 q14 q15 q16 q17 q18 q19 q20 q21 q22 pe n la ri td ys ty ap wg rd sm bt up lw ii kd dy nd co od wo tp rk ry rn vs bs ch tr en du ol ig ln sz it mo) (fun _ => False) (some (Value.int (s_X7_count pe n la ri td ys kd nd what))) := by
  obtain ⟨V, hv⟩ : ∃ V, s_X7_count pe n la ri td ys kd nd what = V := ⟨_, rfl⟩
  rw [hv]
  refine ct_intro (own := RX7) (lv := [(0, .ref o), (1, .int what)]) (by decide) rfl (Nat.le_of_ble_eq_true rfl) rfl ?_
  intro p_ e_ s_ m_ below_ meth_ c_ C
  have hv : (if what = (0 : Int32) then nI pe else (if what = (1 : Int32) then nI n else (if what = (2 : Int32) then td + (1 : Int32) else (if what = (3 : Int32) then ys else (if what = (4 : Int32) then s_X7_stands n kd nd ri la else (if what = (5 : Int32) then ri else (if what = (6 : Int32) then la else (-1 : Int32)))))))) = V := hv
  refine r_iln C dX7_count_0 rfl 1 rfl ?_
  by_cases c1 : what = (0 : Int32)
  · rw [if_pos c1] at hv
    refine r_tabIn C (tgt := 44) dX7_count_1 (by rw [c1]; decide) (by rw [c1]; decide) (by rw [c1]; rfl) (by decide) ?_
    refine r_aln C dX7_count_44 rfl 0 rfl ?_
    refine gf_X7_77 C 0 rfl rfl dX7_count_45 ?_
    exact r_iret rfl C (congrArg (fun z => some (Value.int z)) hv) rfl dX7_count_48
  · rw [if_neg c1] at hv
    by_cases c2 : what = (1 : Int32)
    · rw [if_pos c2] at hv
      refine r_tabIn C (tgt := 49) dX7_count_1 (by rw [c2]; decide) (by rw [c2]; decide) (by rw [c2]; rfl) (by decide) ?_
      refine r_aln C dX7_count_49 rfl 0 rfl ?_
      refine gf_X7_84 C 0 rfl rfl dX7_count_50 ?_
      exact r_iret rfl C (congrArg (fun z => some (Value.int z)) hv) rfl dX7_count_53
    · rw [if_neg c2] at hv
      by_cases c3 : what = (2 : Int32)
      · rw [if_pos c3] at hv
        refine r_tabIn C (tgt := 54) dX7_count_1 (by rw [c3]; decide) (by rw [c3]; decide) (by rw [c3]; rfl) (by decide) ?_
        refine r_aln C dX7_count_54 rfl 0 rfl ?_
        refine gf_X7_81 C 0 rfl rfl dX7_count_55 ?_
        refine r_ic C (v := (1 : Int32)) dX7_count_58 (by decide) ?_
        refine r_iadd C dX7_count_59 ?_
        exact r_iret rfl C (congrArg (fun z => some (Value.int z)) hv) rfl dX7_count_60
      · rw [if_neg c3] at hv
        by_cases c4 : what = (3 : Int32)
        · rw [if_pos c4] at hv
          refine r_tabIn C (tgt := 61) dX7_count_1 (by rw [c4]; decide) (by rw [c4]; decide) (by rw [c4]; rfl) (by decide) ?_
          refine r_aln C dX7_count_61 rfl 0 rfl ?_
          refine gf_X7_131 C 0 rfl rfl dX7_count_62 ?_
          exact r_iret rfl C (congrArg (fun z => some (Value.int z)) hv) rfl dX7_count_65
        · rw [if_neg c4] at hv
          by_cases c5 : what = (4 : Int32)
          · rw [if_pos c5] at hv
            refine r_tabIn C (tgt := 66) dX7_count_1 (by rw [c5]; decide) (by rw [c5]; decide) (by rw [c5]; rfl) (by decide) ?_
            refine r_aln C dX7_count_66 rfl 0 rfl ?_
            refine r_aln C dX7_count_67 rfl 0 rfl ?_
            refine gf_X7_113 C 0 rfl rfl dX7_count_68 ?_
            refine r_aln C dX7_count_71 rfl 0 rfl ?_
            refine gf_X7_116 C 0 rfl rfl dX7_count_72 ?_
            refine aft_rd (st' := [.int (s_X7_stands n kd nd ri la)]) (run_V (rest := []) C (c_X7_stands l D o q1 q2 q3 q4 q5 q6 q7 q8 q9 q10 q11 q12 q13 q14 q15 q16 q17 q18 q19 q20 q21 q22 pe n la ri td ys ty ap wg rd sm bt up lw ii kd dy nd co od wo tp rk ry rn vs bs ch tr en du ol ig ln sz it mo ri la (by omega)) ok_X7_stands wn_X7_stands wl_X7_stands wm_X7_119 [0, 1, 2, 3, 4, 5, 6, 7, 8, 9, 10, 11, 12, 13, 14, 15, 16, 17, 18, 19, 20, 21, 22] 0 rfl rfl rfl ⟨Nat.le_of_ble_eq_true rfl, Nat.le_of_ble_eq_true rfl⟩ rfl rfl (Nat.le_of_ble_eq_true rfl) dX7_count_75) rfl ?_
            exact r_iret rfl C (congrArg (fun z => some (Value.int z)) hv) rfl dX7_count_78
          · rw [if_neg c5] at hv
            by_cases c6 : what = (5 : Int32)
            · rw [if_pos c6] at hv
              refine r_tabIn C (tgt := 79) dX7_count_1 (by rw [c6]; decide) (by rw [c6]; decide) (by rw [c6]; rfl) (by decide) ?_
              refine r_aln C dX7_count_79 rfl 0 rfl ?_
              refine gf_X7_113 C 0 rfl rfl dX7_count_80 ?_
              exact r_iret rfl C (congrArg (fun z => some (Value.int z)) hv) rfl dX7_count_83
            · rw [if_neg c6] at hv
              by_cases c7 : what = (6 : Int32)
              · rw [if_pos c7] at hv
                refine r_tabIn C (tgt := 84) dX7_count_1 (by rw [c7]; decide) (by rw [c7]; decide) (by rw [c7]; rfl) (by decide) ?_
                refine r_aln C dX7_count_84 rfl 0 rfl ?_
                refine gf_X7_116 C 0 rfl rfl dX7_count_85 ?_
                exact r_iret rfl C (congrArg (fun z => some (Value.int z)) hv) rfl dX7_count_88
              · rw [if_neg c7] at hv
                have nc1 : what.toInt ≠ 0 := fun z => c1 (i32_eq _ _ 0 (by decide) z)
                have nc2 : what.toInt ≠ 1 := fun z => c2 (i32_eq _ _ 1 (by decide) z)
                have nc3 : what.toInt ≠ 2 := fun z => c3 (i32_eq _ _ 2 (by decide) z)
                have nc4 : what.toInt ≠ 3 := fun z => c4 (i32_eq _ _ 3 (by decide) z)
                have nc5 : what.toInt ≠ 4 := fun z => c5 (i32_eq _ _ 4 (by decide) z)
                have nc6 : what.toInt ≠ 5 := fun z => c6 (i32_eq _ _ 5 (by decide) z)
                have nc7 : what.toInt ≠ 6 := fun z => c7 (i32_eq _ _ 6 (by decide) z)
                refine r_tabOut C (tgt := 89) dX7_count_1 (by omega) (by decide) ?_
                refine r_ic C (v := (-1 : Int32)) dX7_count_89 (by decide) ?_
                exact r_iret rfl C (congrArg (fun z => some (Value.int z)) hv) rfl dX7_count_90

def s_X7_type (ty : Nat) (tp : Nat → Int32) (letter : Int32) : Int32 × Nat × (Nat → Int32) := (if s_X7_in letter.toInt64 (32 : Int64) (126 : Int64) = (0 : Int32) then ((-1 : Int32), ty, tp) else (if nI ty = (80 : Int32) then ((-3 : Int32), ty, tp) else (nI (ty + 1), ty + 1, upd tp ty letter)))
set_option maxHeartbeats 8000000 in
set_option maxRecDepth 100000 in
theorem c_X7_type (l : Launch) (D : va_G) (o : Nat) (q1 : Nat) (q2 : Nat) (q3 : Nat) (q4 : Nat) (q5 : Nat) (q6 : Nat) (q7 : Nat) (q8 : Nat) (q9 : Nat) (q10 : Nat) (q11 : Nat) (q12 : Nat) (q13 : Nat) (q14 : Nat) (q15 : Nat) (q16 : Nat) (q17 : Nat) (q18 : Nat) (q19 : Nat) (q20 : Nat) (q21 : Nat) (q22 : Nat) (pe : Nat) (n : Nat) (la : Int32) (ri : Int32) (td : Int32) (ys : Int32) (ty : Nat) (ap : Nat) (wg : Int32) (rd : Nat) (sm : Int32) (bt : Int32) (up : Int64) (lw : Int64) (ii : Int32) (kd : Nat → Int32) (dy : Nat → Int32) (nd : Nat → Int32) (co : Nat → Int32) (od : Nat → Int32) (wo : Nat → Int32) (tp : Nat → Int32) (rk : Nat → Int32) (ry : Nat → Int32) (rn : Nat → Int32) (vs : Nat → Int32) (bs : Nat → Int32) (ch : Nat → Int32) (tr : Nat → Int32) (en : Nat → Int32) (du : Nat → Int32) (ol : Nat → Int32) (ig : Nat → Int32) (ln : Nat → Int32) (sz : Nat → Int32) (it : Nat → Int64) (mo : Nat → Int64) (letter : Int32) (hty : ty ≤ 80) (h0 : va_D (fun _ => True) (wM D o q1 q2 q3 q4 q5 q6 q7 q8 q9 q10 q11 q12 q13 q14 q15 q16 q17 q18 q19 q20 q21 q22 pe n la ri td ys ty ap wg rd sm bt up lw ii kd dy nd co od wo tp rk ry rn vs bs ch tr en du ol ig ln sz it mo)) : ct l yX7_type cX7_type 2 (some .int) 1 25 D [.ref o, .int letter] (wM D o q1 q2 q3 q4 q5 q6 q7 q8 q9 q10 q11 q12 q13 q14 q15 q16 q17 q18 q19 q20 q21 q22 pe n la ri td ys ty ap wg rd sm bt up lw ii kd dy nd co od wo tp rk ry rn vs bs ch tr en du ol ig ln sz it mo) (wM D o q1 q2 q3 q4 q5 q6 q7 q8 q9 q10 q11 q12 q13 q14 q15 q16 q17 q18 q19 q20 q21 q22 pe n la ri td ys (s_X7_type ty tp letter).2.1 ap wg rd sm bt up lw ii kd dy nd co od wo (s_X7_type ty tp letter).2.2 rk ry rn vs bs ch tr en du ol ig ln sz it mo) (Ad (wM D o q1 q2 q3 q4 q5 q6 q7 q8 q9 q10 q11 q12 q13 q14 q15 q16 q17 q18 q19 q20 q21 q22 pe n la ri td ys ty ap wg rd sm bt up lw ii kd dy nd co od wo tp rk ry rn vs bs ch tr en du ol ig ln sz it mo)) (some (Value.int (s_X7_type ty tp letter).1)) := by
  obtain ⟨V, hv⟩ : ∃ V, s_X7_type ty tp letter = V := ⟨_, rfl⟩
  rw [hv]
  refine ct_intro (own := RX7) (lv := [(0, .ref o), (1, .int letter)]) (by decide) rfl (Nat.le_of_ble_eq_true rfl) rfl ?_
  intro p_ e_ s_ m_ below_ meth_ c_ C
  have hv : (if s_X7_in letter.toInt64 (32 : Int64) (126 : Int64) = (0 : Int32) then ((-1 : Int32), ty, tp) else (if nI ty = (80 : Int32) then ((-3 : Int32), ty, tp) else (nI (ty + 1), ty + 1, upd tp ty letter))) = V := hv
  refine r_iln C dX7_type_0 rfl 1 rfl ?_
  refine r_i2l C dX7_type_1 ?_
  refine r_ldc2 C wc_X7_134 dX7_type_2 ?_
  refine r_ldc2 C wc_X7_136 dX7_type_5 ?_
  refine aft_rd (st' := [.int (s_X7_in letter.toInt64 (32 : Int64) (126 : Int64))]) (run_S (rest := []) C (c_X7_in l D letter.toInt64 (32 : Int64) (126 : Int64) ) ok_X7_in ws_X7_in wm_X7_87 [] rfl ⟨Nat.le_of_ble_eq_true rfl, Nat.le_of_ble_eq_true rfl⟩ rfl rfl (Nat.le_of_ble_eq_true rfl) dX7_type_8) rfl ?_
  refine r_ifne C (tgt := 16) dX7_type_11 (by decide) (fun c1 => ?_) (fun c1 => ?_)
  · rw [if_neg c1] at hv
    refine r_aln C dX7_type_16 rfl 0 rfl ?_
    refine gf_X7_138 C 0 rfl rfl dX7_type_17 ?_
    refine r_bp C (v := (80 : Int32)) dX7_type_20 (by decide) ?_
    refine r_icne C (tgt := 28) dX7_type_22 (by decide) (fun c2 => ?_) (fun c2 => ?_)
    · rw [if_neg c2] at hv
      have fc2 : ¬ (ty = 80) := fun z => c2 ((nv_eq (a := ty) (b := 80) rfl rfl (by omega) (by omega)).mpr z)
      refine r_aln C dX7_type_28 rfl 0 rfl ?_
      refine gf_X7_28 C 0 rfl rfl dX7_type_29 ?_
      refine r_aln C dX7_type_32 rfl 0 rfl ?_
      refine gf_X7_138 C 0 rfl rfl dX7_type_33 ?_
      refine r_iln C dX7_type_36 rfl 1 rfl ?_
      refine r_iast C (ws2 := wM D o q1 q2 q3 q4 q5 q6 q7 q8 q9 q10 q11 q12 q13 q14 q15 q16 q17 q18 q19 q20 q21 q22 pe n la ri td ys ty ap wg rd sm bt up lw ii kd dy nd co od wo (upd tp ty letter) rk ry rn vs bs ch tr en du ol ig ln sz it mo) h0 rfl 7 ty rfl rfl (by omega) (by decide) dX7_type_37 rfl rfl ?_
      refine r_aln C dX7_type_38 rfl 0 rfl ?_
      refine r_dup C dX7_type_39 rfl ?_
      refine gf_X7_138 C 0 rfl rfl dX7_type_40 ?_
      refine r_ic C (v := (1 : Int32)) dX7_type_43 (by decide) ?_
      refine r_iadd C dX7_type_44 ?_
      refine r_top (nv_add rfl rfl) ?_
      refine pf_X7_138 C (ws2 := wM D o q1 q2 q3 q4 q5 q6 q7 q8 q9 q10 q11 q12 q13 q14 q15 q16 q17 q18 q19 q20 q21 q22 pe n la ri td ys (ty + 1) ap wg rd sm bt up lw ii kd dy nd co od wo (upd tp ty letter) rk ry rn vs bs ch tr en du ol ig ln sz it mo) h0 rfl 0 rfl (Nat.le_of_ble_eq_true rfl) dX7_type_45 rfl rfl ?_
      refine r_aln C dX7_type_48 rfl 0 rfl ?_
      refine gf_X7_138 C 0 rfl rfl dX7_type_49 ?_
      exact r_iret rfl C (by rw [← hv]) (by rw [← hv]) dX7_type_52
    · rw [if_pos c2] at hv
      have fc2 : ty = 80 := (nv_eq (a := ty) (b := 80) rfl rfl (by omega) (by omega)).mp c2
      refine r_bp C (v := (-3 : Int32)) dX7_type_25 (by decide) ?_
      exact r_iret rfl C (by rw [← hv]) (by rw [← hv]) dX7_type_27
  · rw [if_pos c1] at hv
    refine r_ic C (v := (-1 : Int32)) dX7_type_14 (by decide) ?_
    exact r_iret rfl C (by rw [← hv]) (by rw [← hv]) dX7_type_15

def s_X7_ofDay_L4 (dy : Nat → Int32) (when0 : Int32) : Nat → Nat → Int32 → Int32
  | 0, _, set_3 => set_3
  | k1 + 1, d2, set_3 => (if dy d2 = when0 then (s_X7_ofDay_L4 dy when0 k1 (d2 + 1) (set_3 ||| ((1 : Int32) <<< ((nI d2) &&& 31)))) else (s_X7_ofDay_L4 dy when0 k1 (d2 + 1) (set_3 ||| (0 : Int32))))
def s_X7_ofDay (n : Nat) (dy : Nat → Int32) (when0 : Int32) : Int32 := (s_X7_ofDay_L4 dy when0 n 0 (0 : Int32))
set_option maxHeartbeats 8000000 in
set_option maxRecDepth 100000 in
theorem c_X7_ofDay (l : Launch) (D : va_G) (o : Nat) (q1 : Nat) (q2 : Nat) (q3 : Nat) (q4 : Nat) (q5 : Nat) (q6 : Nat) (q7 : Nat) (q8 : Nat) (q9 : Nat) (q10 : Nat) (q11 : Nat) (q12 : Nat) (q13 : Nat) (q14 : Nat) (q15 : Nat) (q16 : Nat) (q17 : Nat) (q18 : Nat) (q19 : Nat) (q20 : Nat) (q21 : Nat) (q22 : Nat) (pe : Nat) (n : Nat) (la : Int32) (ri : Int32) (td : Int32) (ys : Int32) (ty : Nat) (ap : Nat) (wg : Int32) (rd : Nat) (sm : Int32) (bt : Int32) (up : Int64) (lw : Int64) (ii : Int32) (kd : Nat → Int32) (dy : Nat → Int32) (nd : Nat → Int32) (co : Nat → Int32) (od : Nat → Int32) (wo : Nat → Int32) (tp : Nat → Int32) (rk : Nat → Int32) (ry : Nat → Int32) (rn : Nat → Int32) (vs : Nat → Int32) (bs : Nat → Int32) (ch : Nat → Int32) (tr : Nat → Int32) (en : Nat → Int32) (du : Nat → Int32) (ol : Nat → Int32) (ig : Nat → Int32) (ln : Nat → Int32) (sz : Nat → Int32) (it : Nat → Int64) (mo : Nat → Int64) (when0 : Int32) (hn : n ≤ 12) : ct l yX7_ofDay cX7_ofDay 4 (some .int) 0 0 D [.ref o, .int when0] (wM D o q1 q2 q3 q4 q5 q6 q7 q8 q9 q10 q11 q12 q13 q14 q15 q16 q17 q18 q19 q20 q21 q22 pe n la ri td ys ty ap wg rd sm bt up lw ii kd dy nd co od wo tp rk ry rn vs bs ch tr en du ol ig ln sz it mo) (wM D o q1 q2 q3 q4 q5 q6 q7 q8 q9 q10 q11 q12 q13 q14 q15 q16 q17 q18 q19 q20 q21 q22 pe n la ri td ys ty ap wg rd sm bt up lw ii kd dy nd co od wo tp rk ry rn vs bs ch tr en du ol ig ln sz it mo) (fun _ => False) (some (Value.int (s_X7_ofDay n dy when0))) := by
  obtain ⟨V, hv⟩ : ∃ V, s_X7_ofDay n dy when0 = V := ⟨_, rfl⟩
  rw [hv]
  refine ct_intro (own := RX7) (lv := [(0, .ref o), (1, .int when0)]) (by decide) rfl (Nat.le_of_ble_eq_true rfl) rfl ?_
  intro p_ e_ s_ m_ below_ meth_ c_ C
  have hv : (s_X7_ofDay_L4 dy when0 n 0 (0 : Int32)) = V := hv
  refine r_ic C (v := (0 : Int32)) dX7_ofDay_0 (by decide) ?_
  refine r_isn C (lv' := [(2, .int (0 : Int32)), (0, .ref o), (1, .int when0)]) dX7_ofDay_1 rfl (by decide) rfl ?_
  refine r_ic C (v := (0 : Int32)) dX7_ofDay_2 (by decide) ?_
  refine r_isn C (lv' := [(3, .int (0 : Int32)), (2, .int (0 : Int32)), (0, .ref o), (1, .int when0)]) dX7_ofDay_3 rfl (by decide) rfl ?_
  have L8 : ∀ (k1 : Nat) (d2 : Nat) (set_3 : Int32), (d2 + k1 = n) → (s_X7_ofDay_L4 dy when0 k1 d2 set_3) = V → GM p_ l e_ s_ m_ below_ meth_ c_ D 0 0 4 [.ref o, .int when0] (wM D o q1 q2 q3 q4 q5 q6 q7 q8 q9 q10 q11 q12 q13 q14 q15 q16 q17 q18 q19 q20 q21 q22 pe n la ri td ys ty ap wg rd sm bt up lw ii kd dy nd co od wo tp rk ry rn vs bs ch tr en du ol ig ln sz it mo) (fun _ => False) (some (Value.int V)) (wM D o q1 q2 q3 q4 q5 q6 q7 q8 q9 q10 q11 q12 q13 q14 q15 q16 q17 q18 q19 q20 q21 q22 pe n la ri td ys ty ap wg rd sm bt up lw ii kd dy nd co od wo tp rk ry rn vs bs ch tr en du ol ig ln sz it mo) 4 [(3, .int (nI d2)), (2, .int set_3), (0, .ref o), (1, .int when0)] [] := by
    intro k1
    induction k1 with
    | zero =>
      intro d2 set_3 hk hv
      have hv : set_3 = V := hv
      refine r_iln C dX7_ofDay_4 rfl 0 rfl ?_
      refine r_aln C dX7_ofDay_5 rfl 2 rfl ?_
      refine gf_X7_84 C 0 rfl rfl dX7_ofDay_6 ?_
      refine r_icge C (tgt := 38) dX7_ofDay_9 (by decide) (fun c4 => ?_) (fun c4 => ?_)
      · skip
        refine r_iln C dX7_ofDay_38 rfl 1 rfl ?_
        exact r_iret rfl C (congrArg (fun z => some (Value.int z)) hv) rfl dX7_ofDay_39
      · exact absurd c4 (fun z => absurd ((nv_lt (a := d2) (b := n) rfl rfl (by omega) (by omega)).mp z) (by omega))
    | succ k1 ih5 =>
      intro d2 set_3 hk hv
      have hv : (if dy d2 = when0 then (s_X7_ofDay_L4 dy when0 k1 (d2 + 1) (set_3 ||| ((1 : Int32) <<< ((nI d2) &&& 31)))) else (s_X7_ofDay_L4 dy when0 k1 (d2 + 1) (set_3 ||| (0 : Int32)))) = V := hv
      refine r_iln C dX7_ofDay_4 rfl 0 rfl ?_
      refine r_aln C dX7_ofDay_5 rfl 2 rfl ?_
      refine gf_X7_84 C 0 rfl rfl dX7_ofDay_6 ?_
      refine r_icge C (tgt := 38) dX7_ofDay_9 (by decide) (fun c6 => ?_) (fun c6 => ?_)
      · exact absurd ((nv_lt (a := d2) (b := n) rfl rfl (by omega) (by omega)).mpr (by omega)) c6
      · skip
        refine r_iln C dX7_ofDay_12 rfl 1 rfl ?_
        refine r_aln C dX7_ofDay_13 rfl 2 rfl ?_
        refine gf_X7_13 C 0 rfl rfl dX7_ofDay_14 ?_
        refine r_iln C dX7_ofDay_17 rfl 0 rfl ?_
        refine r_iald C 2 d2 rfl rfl (by omega) (by decide) rfl dX7_ofDay_18 ?_
        refine r_iln C dX7_ofDay_19 rfl 3 rfl ?_
        refine r_icne C (tgt := 29) dX7_ofDay_20 (by decide) (fun c7 => ?_) (fun c7 => ?_)
        · rw [if_neg c7] at hv
          refine r_ic C (v := (0 : Int32)) dX7_ofDay_29 (by decide) ?_
          refine r_ior C dX7_ofDay_30 ?_
          refine r_isn C (lv' := [(2, .int (set_3 ||| (0 : Int32))), (3, .int (nI d2)), (0, .ref o), (1, .int when0)]) dX7_ofDay_31 rfl (by decide) rfl ?_
          refine r_inc C (v := nI (d2 + 1)) (lv' := [(3, .int (nI (d2 + 1))), (2, .int (set_3 ||| (0 : Int32))), (0, .ref o), (1, .int when0)]) dX7_ofDay_32 1 rfl (inc_nI d2) (by decide) rfl ?_
          refine r_goto C (tgt := 4) dX7_ofDay_35 (by decide) ?_
          exact ih5 (d2 + 1) (set_3 ||| (0 : Int32)) (by omega) hv
        · rw [if_pos c7] at hv
          refine r_ic C (v := (1 : Int32)) dX7_ofDay_23 (by decide) ?_
          refine r_iln C dX7_ofDay_24 rfl 0 rfl ?_
          refine r_ishl C dX7_ofDay_25 ?_
          refine r_goto C (tgt := 30) dX7_ofDay_26 (by decide) ?_
          refine r_ior C dX7_ofDay_30 ?_
          refine r_isn C (lv' := [(2, .int (set_3 ||| ((1 : Int32) <<< ((nI d2) &&& 31)))), (3, .int (nI d2)), (0, .ref o), (1, .int when0)]) dX7_ofDay_31 rfl (by decide) rfl ?_
          refine r_inc C (v := nI (d2 + 1)) (lv' := [(3, .int (nI (d2 + 1))), (2, .int (set_3 ||| ((1 : Int32) <<< ((nI d2) &&& 31)))), (0, .ref o), (1, .int when0)]) dX7_ofDay_32 1 rfl (inc_nI d2) (by decide) rfl ?_
          refine r_goto C (tgt := 4) dX7_ofDay_35 (by decide) ?_
          exact ih5 (d2 + 1) (set_3 ||| ((1 : Int32) <<< ((nI d2) &&& 31))) (by omega) hv
  refine r_lve (lv2 := [(3, .int (nI 0)), (2, .int (0 : Int32)), (0, .ref o), (1, .int when0)]) (congrArg (fun (z : Int32) => ([(3, .int z), (2, .int (0 : Int32)), (0, .ref o), (1, .int when0)] : List (Nat × Value))) rfl) ?_
  exact L8 n 0 (0 : Int32) (by omega) hv

def s_X7_right (n : Nat) (la : Int32) (ri : Int32) (td : Int32) (kd : Nat → Int32) (dy : Nat → Int32) (nd : Nat → Int32) (deed : Int32) : Int32 × Int32 := (if s_X7_isDeed n deed.toInt64 = (0 : Int32) then ((-1 : Int32), ri) else (if dy deed.toNatClampNeg = td then (if ((s_X7_stands n kd nd ri la) >>> (deed &&& 31)) &&& (1 : Int32) = (0 : Int32) then ((-2 : Int32), ri) else (if (s_X7_ofDay n dy td) &&& ri = (0 : Int32) then ((s_X7_stands n kd nd ri la) &&& ((s_X7_stands n kd nd (ri ||| ((1 : Int32) <<< (deed &&& 31))) la) ^^^ (-1 : Int32)), ri ||| ((1 : Int32) <<< (deed &&& 31))) else ((-2 : Int32), ri))) else ((-2 : Int32), ri)))
set_option maxHeartbeats 8000000 in
set_option maxRecDepth 100000 in
theorem c_X7_right (l : Launch) (D : va_G) (o : Nat) (q1 : Nat) (q2 : Nat) (q3 : Nat) (q4 : Nat) (q5 : Nat) (q6 : Nat) (q7 : Nat) (q8 : Nat) (q9 : Nat) (q10 : Nat) (q11 : Nat) (q12 : Nat) (q13 : Nat) (q14 : Nat) (q15 : Nat) (q16 : Nat) (q17 : Nat) (q18 : Nat) (q19 : Nat) (q20 : Nat) (q21 : Nat) (q22 : Nat) (pe : Nat) (n : Nat) (la : Int32) (ri : Int32) (td : Int32) (ys : Int32) (ty : Nat) (ap : Nat) (wg : Int32) (rd : Nat) (sm : Int32) (bt : Int32) (up : Int64) (lw : Int64) (ii : Int32) (kd : Nat → Int32) (dy : Nat → Int32) (nd : Nat → Int32) (co : Nat → Int32) (od : Nat → Int32) (wo : Nat → Int32) (tp : Nat → Int32) (rk : Nat → Int32) (ry : Nat → Int32) (rn : Nat → Int32) (vs : Nat → Int32) (bs : Nat → Int32) (ch : Nat → Int32) (tr : Nat → Int32) (en : Nat → Int32) (du : Nat → Int32) (ol : Nat → Int32) (ig : Nat → Int32) (ln : Nat → Int32) (sz : Nat → Int32) (it : Nat → Int64) (mo : Nat → Int64) (deed : Int32) (hn : n ≤ 12) (h0 : va_D (fun _ => True) (wM D o q1 q2 q3 q4 q5 q6 q7 q8 q9 q10 q11 q12 q13 q14 q15 q16 q17 q18 q19 q20 q21 q22 pe n la ri td ys ty ap wg rd sm bt up lw ii kd dy nd co od wo tp rk ry rn vs bs ch tr en du ol ig ln sz it mo)) : ct l yX7_right cX7_right 3 (some .int) 2 48 D [.ref o, .int deed] (wM D o q1 q2 q3 q4 q5 q6 q7 q8 q9 q10 q11 q12 q13 q14 q15 q16 q17 q18 q19 q20 q21 q22 pe n la ri td ys ty ap wg rd sm bt up lw ii kd dy nd co od wo tp rk ry rn vs bs ch tr en du ol ig ln sz it mo) (wM D o q1 q2 q3 q4 q5 q6 q7 q8 q9 q10 q11 q12 q13 q14 q15 q16 q17 q18 q19 q20 q21 q22 pe n la (s_X7_right n la ri td kd dy nd deed).2 td ys ty ap wg rd sm bt up lw ii kd dy nd co od wo tp rk ry rn vs bs ch tr en du ol ig ln sz it mo) (Ad (wM D o q1 q2 q3 q4 q5 q6 q7 q8 q9 q10 q11 q12 q13 q14 q15 q16 q17 q18 q19 q20 q21 q22 pe n la ri td ys ty ap wg rd sm bt up lw ii kd dy nd co od wo tp rk ry rn vs bs ch tr en du ol ig ln sz it mo)) (some (Value.int (s_X7_right n la ri td kd dy nd deed).1)) := by
  obtain ⟨V, hv⟩ : ∃ V, s_X7_right n la ri td kd dy nd deed = V := ⟨_, rfl⟩
  rw [hv]
  refine ct_intro (own := RX7) (lv := [(0, .ref o), (1, .int deed)]) (by decide) rfl (Nat.le_of_ble_eq_true rfl) rfl ?_
  intro p_ e_ s_ m_ below_ meth_ c_ C
  have hv : (if s_X7_isDeed n deed.toInt64 = (0 : Int32) then ((-1 : Int32), ri) else (if dy deed.toNatClampNeg = td then (if ((s_X7_stands n kd nd ri la) >>> (deed &&& 31)) &&& (1 : Int32) = (0 : Int32) then ((-2 : Int32), ri) else (if (s_X7_ofDay n dy td) &&& ri = (0 : Int32) then ((s_X7_stands n kd nd ri la) &&& ((s_X7_stands n kd nd (ri ||| ((1 : Int32) <<< (deed &&& 31))) la) ^^^ (-1 : Int32)), ri ||| ((1 : Int32) <<< (deed &&& 31))) else ((-2 : Int32), ri))) else ((-2 : Int32), ri))) = V := hv
  refine r_aln C dX7_right_0 rfl 0 rfl ?_
  refine r_iln C dX7_right_1 rfl 1 rfl ?_
  refine r_i2l C dX7_right_2 ?_
  refine aft_rd (st' := [.int (s_X7_isDeed n deed.toInt64)]) (run_V (rest := []) C (c_X7_isDeed l D o q1 q2 q3 q4 q5 q6 q7 q8 q9 q10 q11 q12 q13 q14 q15 q16 q17 q18 q19 q20 q21 q22 pe n la ri td ys ty ap wg rd sm bt up lw ii kd dy nd co od wo tp rk ry rn vs bs ch tr en du ol ig ln sz it mo deed.toInt64 ) ok_X7_isDeed wn_X7_isDeed wl_X7_isDeed wm_X7_109 [0, 1, 2, 3, 4, 5, 6, 7, 8, 9, 10, 11, 12, 13, 14, 15, 16, 17, 18, 19, 20, 21, 22] 0 rfl rfl rfl ⟨Nat.le_of_ble_eq_true rfl, Nat.le_of_ble_eq_true rfl⟩ rfl rfl (Nat.le_of_ble_eq_true rfl) dX7_right_3) rfl ?_
  refine r_ifne C (tgt := 11) dX7_right_6 (by decide) (fun c1 => ?_) (fun c1 => ?_)
  · rw [if_neg c1] at hv
    have e2 := mdeed_nat hn c1
    refine r_aln C dX7_right_11 rfl 0 rfl ?_
    refine r_aln C dX7_right_12 rfl 0 rfl ?_
    refine gf_X7_113 C 0 rfl rfl dX7_right_13 ?_
    refine r_aln C dX7_right_16 rfl 0 rfl ?_
    refine gf_X7_116 C 0 rfl rfl dX7_right_17 ?_
    refine aft_rd (st' := [.int (s_X7_stands n kd nd ri la)]) (run_V (rest := []) C (c_X7_stands l D o q1 q2 q3 q4 q5 q6 q7 q8 q9 q10 q11 q12 q13 q14 q15 q16 q17 q18 q19 q20 q21 q22 pe n la ri td ys ty ap wg rd sm bt up lw ii kd dy nd co od wo tp rk ry rn vs bs ch tr en du ol ig ln sz it mo ri la (by omega)) ok_X7_stands wn_X7_stands wl_X7_stands wm_X7_119 [0, 1, 2, 3, 4, 5, 6, 7, 8, 9, 10, 11, 12, 13, 14, 15, 16, 17, 18, 19, 20, 21, 22] 0 rfl rfl rfl ⟨Nat.le_of_ble_eq_true rfl, Nat.le_of_ble_eq_true rfl⟩ rfl rfl (Nat.le_of_ble_eq_true rfl) dX7_right_20) rfl ?_
    refine r_isn C (lv' := [(2, .int (s_X7_stands n kd nd ri la)), (0, .ref o), (1, .int deed)]) dX7_right_23 rfl (by decide) rfl ?_
    refine r_aln C dX7_right_24 rfl 1 rfl ?_
    refine gf_X7_13 C 0 rfl rfl dX7_right_25 ?_
    refine r_iln C dX7_right_28 rfl 2 rfl ?_
    refine r_iald C 2 deed.toNatClampNeg rfl e2.1 (by omega) (by decide) rfl dX7_right_29 ?_
    refine r_aln C dX7_right_30 rfl 1 rfl ?_
    refine gf_X7_81 C 0 rfl rfl dX7_right_31 ?_
    refine r_icne C (tgt := 61) dX7_right_34 (by decide) (fun c3 => ?_) (fun c3 => ?_)
    · rw [if_neg c3] at hv
      refine r_bp C (v := (-2 : Int32)) dX7_right_61 (by decide) ?_
      exact r_iret rfl C (by rw [← hv]) (by rw [← hv]) dX7_right_63
    · rw [if_pos c3] at hv
      refine r_iln C dX7_right_37 rfl 0 rfl ?_
      refine r_iln C dX7_right_38 rfl 2 rfl ?_
      refine r_ishr C dX7_right_39 ?_
      refine r_ic C (v := (1 : Int32)) dX7_right_40 (by decide) ?_
      refine r_iand C dX7_right_41 ?_
      refine r_ifeq C (tgt := 61) dX7_right_42 (by decide) (fun c4 => ?_) (fun c4 => ?_)
      · rw [if_pos c4] at hv
        refine r_bp C (v := (-2 : Int32)) dX7_right_61 (by decide) ?_
        exact r_iret rfl C (by rw [← hv]) (by rw [← hv]) dX7_right_63
      · rw [if_neg c4] at hv
        refine r_aln C dX7_right_45 rfl 1 rfl ?_
        refine r_aln C dX7_right_46 rfl 1 rfl ?_
        refine gf_X7_81 C 0 rfl rfl dX7_right_47 ?_
        refine aft_rd (st' := [.int (s_X7_ofDay n dy td)]) (run_V (rest := []) C (c_X7_ofDay l D o q1 q2 q3 q4 q5 q6 q7 q8 q9 q10 q11 q12 q13 q14 q15 q16 q17 q18 q19 q20 q21 q22 pe n la ri td ys ty ap wg rd sm bt up lw ii kd dy nd co od wo tp rk ry rn vs bs ch tr en du ol ig ln sz it mo td (by omega)) ok_X7_ofDay wn_X7_ofDay wl_X7_ofDay wm_X7_162 [0, 1, 2, 3, 4, 5, 6, 7, 8, 9, 10, 11, 12, 13, 14, 15, 16, 17, 18, 19, 20, 21, 22] 0 rfl rfl rfl ⟨Nat.le_of_ble_eq_true rfl, Nat.le_of_ble_eq_true rfl⟩ rfl rfl (Nat.le_of_ble_eq_true rfl) dX7_right_50) rfl ?_
        refine r_aln C dX7_right_53 rfl 1 rfl ?_
        refine gf_X7_113 C 0 rfl rfl dX7_right_54 ?_
        refine r_iand C dX7_right_57 ?_
        refine r_ifeq C (tgt := 64) dX7_right_58 (by decide) (fun c5 => ?_) (fun c5 => ?_)
        · rw [if_pos c5] at hv
          refine r_aln C dX7_right_64 rfl 1 rfl ?_
          refine r_dup C dX7_right_65 rfl ?_
          refine gf_X7_113 C 0 rfl rfl dX7_right_66 ?_
          refine r_ic C (v := (1 : Int32)) dX7_right_69 (by decide) ?_
          refine r_iln C dX7_right_70 rfl 2 rfl ?_
          refine r_ishl C dX7_right_71 ?_
          refine r_ior C dX7_right_72 ?_
          refine pf_X7_113 C (ws2 := wM D o q1 q2 q3 q4 q5 q6 q7 q8 q9 q10 q11 q12 q13 q14 q15 q16 q17 q18 q19 q20 q21 q22 pe n la (ri ||| ((1 : Int32) <<< (deed &&& 31))) td ys ty ap wg rd sm bt up lw ii kd dy nd co od wo tp rk ry rn vs bs ch tr en du ol ig ln sz it mo) h0 rfl 0 rfl (Nat.le_of_ble_eq_true rfl) dX7_right_73 rfl rfl ?_
          refine r_iln C dX7_right_76 rfl 0 rfl ?_
          refine r_aln C dX7_right_77 rfl 1 rfl ?_
          refine r_aln C dX7_right_78 rfl 1 rfl ?_
          refine gf_X7_113 C 0 rfl rfl dX7_right_79 ?_
          refine r_aln C dX7_right_82 rfl 1 rfl ?_
          refine gf_X7_116 C 0 rfl rfl dX7_right_83 ?_
          refine aft_rd (st' := [.int (s_X7_stands n kd nd (ri ||| ((1 : Int32) <<< (deed &&& 31))) la), .int (s_X7_stands n kd nd ri la)]) (run_V (rest := [.int (s_X7_stands n kd nd ri la)]) C (c_X7_stands l D o q1 q2 q3 q4 q5 q6 q7 q8 q9 q10 q11 q12 q13 q14 q15 q16 q17 q18 q19 q20 q21 q22 pe n la (ri ||| ((1 : Int32) <<< (deed &&& 31))) td ys ty ap wg rd sm bt up lw ii kd dy nd co od wo tp rk ry rn vs bs ch tr en du ol ig ln sz it mo (ri ||| ((1 : Int32) <<< (deed &&& 31))) la (by omega)) ok_X7_stands wn_X7_stands wl_X7_stands wm_X7_119 [0, 1, 2, 3, 4, 5, 6, 7, 8, 9, 10, 11, 12, 13, 14, 15, 16, 17, 18, 19, 20, 21, 22] 0 rfl rfl rfl ⟨Nat.le_of_ble_eq_true rfl, Nat.le_of_ble_eq_true rfl⟩ rfl rfl (Nat.le_of_ble_eq_true rfl) dX7_right_86) rfl ?_
          refine r_ic C (v := (-1 : Int32)) dX7_right_89 (by decide) ?_
          refine r_ixor C dX7_right_90 ?_
          refine r_iand C dX7_right_91 ?_
          exact r_iret rfl C (by rw [← hv]) (by rw [← hv]) dX7_right_92
        · rw [if_neg c5] at hv
          refine r_bp C (v := (-2 : Int32)) dX7_right_61 (by decide) ?_
          exact r_iret rfl C (by rw [← hv]) (by rw [← hv]) dX7_right_63
  · rw [if_pos c1] at hv
    refine r_ic C (v := (-1 : Int32)) dX7_right_9 (by decide) ?_
    exact r_iret rfl C (by rw [← hv]) (by rw [← hv]) dX7_right_10

def s_X7_back (td : Int32) : Int32 × Int32 := (if td < (0 : Int32) then ((-100002 : Int32), td) else (td - (1 : Int32), td - (1 : Int32)))
set_option maxHeartbeats 8000000 in
set_option maxRecDepth 100000 in
theorem c_X7_back (l : Launch) (D : va_G) (o : Nat) (q1 : Nat) (q2 : Nat) (q3 : Nat) (q4 : Nat) (q5 : Nat) (q6 : Nat) (q7 : Nat) (q8 : Nat) (q9 : Nat) (q10 : Nat) (q11 : Nat) (q12 : Nat) (q13 : Nat) (q14 : Nat) (q15 : Nat) (q16 : Nat) (q17 : Nat) (q18 : Nat) (q19 : Nat) (q20 : Nat) (q21 : Nat) (q22 : Nat) (pe : Nat) (n : Nat) (la : Int32) (ri : Int32) (td : Int32) (ys : Int32) (ty : Nat) (ap : Nat) (wg : Int32) (rd : Nat) (sm : Int32) (bt : Int32) (up : Int64) (lw : Int64) (ii : Int32) (kd : Nat → Int32) (dy : Nat → Int32) (nd : Nat → Int32) (co : Nat → Int32) (od : Nat → Int32) (wo : Nat → Int32) (tp : Nat → Int32) (rk : Nat → Int32) (ry : Nat → Int32) (rn : Nat → Int32) (vs : Nat → Int32) (bs : Nat → Int32) (ch : Nat → Int32) (tr : Nat → Int32) (en : Nat → Int32) (du : Nat → Int32) (ol : Nat → Int32) (ig : Nat → Int32) (ln : Nat → Int32) (sz : Nat → Int32) (it : Nat → Int64) (mo : Nat → Int64) (h0 : va_D (fun _ => True) (wM D o q1 q2 q3 q4 q5 q6 q7 q8 q9 q10 q11 q12 q13 q14 q15 q16 q17 q18 q19 q20 q21 q22 pe n la ri td ys ty ap wg rd sm bt up lw ii kd dy nd co od wo tp rk ry rn vs bs ch tr en du ol ig ln sz it mo)) : ct l yX7_back cX7_back 1 (some .int) 0 0 D [.ref o] (wM D o q1 q2 q3 q4 q5 q6 q7 q8 q9 q10 q11 q12 q13 q14 q15 q16 q17 q18 q19 q20 q21 q22 pe n la ri td ys ty ap wg rd sm bt up lw ii kd dy nd co od wo tp rk ry rn vs bs ch tr en du ol ig ln sz it mo) (wM D o q1 q2 q3 q4 q5 q6 q7 q8 q9 q10 q11 q12 q13 q14 q15 q16 q17 q18 q19 q20 q21 q22 pe n la ri (s_X7_back td).2 ys ty ap wg rd sm bt up lw ii kd dy nd co od wo tp rk ry rn vs bs ch tr en du ol ig ln sz it mo) (Ad (wM D o q1 q2 q3 q4 q5 q6 q7 q8 q9 q10 q11 q12 q13 q14 q15 q16 q17 q18 q19 q20 q21 q22 pe n la ri td ys ty ap wg rd sm bt up lw ii kd dy nd co od wo tp rk ry rn vs bs ch tr en du ol ig ln sz it mo)) (some (Value.int (s_X7_back td).1)) := by
  obtain ⟨V, hv⟩ : ∃ V, s_X7_back td = V := ⟨_, rfl⟩
  rw [hv]
  refine ct_intro (own := RX7) (lv := [(0, .ref o)]) (by decide) rfl (Nat.le_of_ble_eq_true rfl) rfl ?_
  intro p_ e_ s_ m_ below_ meth_ c_ C
  have hv : (if td < (0 : Int32) then ((-100002 : Int32), td) else (td - (1 : Int32), td - (1 : Int32))) = V := hv
  refine r_aln C dX7_back_0 rfl 0 rfl ?_
  refine gf_X7_81 C 0 rfl rfl dX7_back_1 ?_
  refine r_ifge C (tgt := 10) dX7_back_4 (by decide) (fun c1 => ?_) (fun c1 => ?_)
  · rw [if_neg c1] at hv
    refine r_aln C dX7_back_10 rfl 0 rfl ?_
    refine r_dup C dX7_back_11 rfl ?_
    refine gf_X7_81 C 0 rfl rfl dX7_back_12 ?_
    refine r_ic C (v := (1 : Int32)) dX7_back_15 (by decide) ?_
    refine r_isub C dX7_back_16 ?_
    refine pf_X7_81 C (ws2 := wM D o q1 q2 q3 q4 q5 q6 q7 q8 q9 q10 q11 q12 q13 q14 q15 q16 q17 q18 q19 q20 q21 q22 pe n la ri (td - (1 : Int32)) ys ty ap wg rd sm bt up lw ii kd dy nd co od wo tp rk ry rn vs bs ch tr en du ol ig ln sz it mo) h0 rfl 0 rfl (Nat.le_of_ble_eq_true rfl) dX7_back_17 rfl rfl ?_
    refine r_aln C dX7_back_20 rfl 0 rfl ?_
    refine gf_X7_81 C 0 rfl rfl dX7_back_21 ?_
    exact r_iret rfl C (by rw [← hv]) (by rw [← hv]) dX7_back_24
  · rw [if_pos c1] at hv
    refine r_ldc C wc_X7_166 dX7_back_7 ?_
    exact r_iret rfl C (by rw [← hv]) (by rw [← hv]) dX7_back_9

def s_X7_size_L4  : Nat → Int32 → Nat → Int32 × Nat
  | 0, cnt_3, left_4 => (cnt_3, left_4)
  | k1 + 1, cnt_3, left_4 => (if nI left_4 = (0 : Int32) then (cnt_3, left_4) else (s_X7_size_L4  k1 (cnt_3 + (1 : Int32)) (left_4 &&& (left_4 - 1))))
def s_X7_size (set : Nat) : Int32 := ((s_X7_size_L4  set (0 : Int32) set).1)
set_option maxHeartbeats 8000000 in
set_option maxRecDepth 100000 in
theorem c_X7_size (l : Launch) (D : va_G) (set : Nat) (hs : set < 4096) : ct l yX7_size cX7_size 3 (some .int) 0 0 D [.int (nI set)] (([] : va_W)) (([] : va_W)) (fun _ => False) (some (Value.int (s_X7_size set))) := by
  obtain ⟨V, hv⟩ : ∃ V, s_X7_size set = V := ⟨_, rfl⟩
  rw [hv]
  refine ct_intro (own := RX7) (lv := [(0, .int (nI set))]) (by decide) rfl (Nat.le_of_ble_eq_true rfl) rfl ?_
  intro p_ e_ s_ m_ below_ meth_ c_ C
  have hv : ((s_X7_size_L4  set (0 : Int32) set).1) = V := hv
  refine r_ic C (v := (0 : Int32)) dX7_size_0 (by decide) ?_
  refine r_isn C (lv' := [(1, .int (0 : Int32)), (0, .int (nI set))]) dX7_size_1 rfl (by decide) rfl ?_
  refine r_iln C dX7_size_2 rfl 1 rfl ?_
  refine r_isn C (lv' := [(2, .int (nI set)), (1, .int (0 : Int32)), (0, .int (nI set))]) dX7_size_3 rfl (by decide) rfl ?_
  have X5 : ∀ (cnt_3 : Int32) (left_4 : Nat), cnt_3 = V → GM p_ l e_ s_ m_ below_ meth_ c_ D 0 0 3 [.int (nI set)] (([] : va_W)) (fun _ => False) (some (Value.int V)) (([] : va_W)) 20 [(2, .int (nI left_4)), (1, .int cnt_3), (0, .int (nI set))] [] := by
    intro cnt_3 left_4 hv
    refine r_iln C dX7_size_20 rfl 1 rfl ?_
    exact r_iret rfl C (congrArg (fun z => some (Value.int z)) hv) rfl dX7_size_21
  have L9 : ∀ (k1 : Nat) (cnt_3 : Int32) (left_4 : Nat), (left_4 ≤ k1) → (left_4 < 4096) → ((s_X7_size_L4  k1 cnt_3 left_4).1) = V → GM p_ l e_ s_ m_ below_ meth_ c_ D 0 0 3 [.int (nI set)] (([] : va_W)) (fun _ => False) (some (Value.int V)) (([] : va_W)) 4 [(2, .int (nI left_4)), (1, .int cnt_3), (0, .int (nI set))] [] := by
    intro k1
    induction k1 with
    | zero =>
      intro cnt_3 left_4 hk hl hv
      have hv : cnt_3 = V := hv
      refine r_iln C dX7_size_4 rfl 0 rfl ?_
      refine r_ifeq C (tgt := 20) dX7_size_5 (by decide) (fun c6 => ?_) (fun c6 => ?_)
      · skip
        exact X5 cnt_3 left_4 hv
      · exact absurd ((nv_eq (a := left_4) (b := 0) rfl rfl (by omega) (by omega)).mpr (by omega)) c6
    | succ k1 ih7 =>
      intro cnt_3 left_4 hk hl hv
      have hv : ((if nI left_4 = (0 : Int32) then (cnt_3, left_4) else (s_X7_size_L4  k1 (cnt_3 + (1 : Int32)) (left_4 &&& (left_4 - 1)))).1) = V := hv
      refine r_iln C dX7_size_4 rfl 0 rfl ?_
      refine r_ifeq C (tgt := 20) dX7_size_5 (by decide) (fun c8 => ?_) (fun c8 => ?_)
      · rw [if_pos c8] at hv
        have fc8 : left_4 = 0 := (nv_eq (a := left_4) (b := 0) rfl rfl (by omega) (by omega)).mp c8
        exact X5 cnt_3 left_4 hv
      · rw [if_neg c8] at hv
        have fc8 : ¬ (left_4 = 0) := fun z => c8 ((nv_eq (a := left_4) (b := 0) rfl rfl (by omega) (by omega)).mpr z)
        refine r_inc C (v := cnt_3 + (1 : Int32)) (lv' := [(1, .int (cnt_3 + (1 : Int32))), (2, .int (nI left_4)), (0, .int (nI set))]) dX7_size_8 1 rfl (by rfl) (by decide) rfl ?_
        refine r_iln C dX7_size_11 rfl 1 rfl ?_
        refine r_iln C dX7_size_12 rfl 1 rfl ?_
        refine r_ic C (v := (1 : Int32)) dX7_size_13 (by decide) ?_
        refine r_isub C dX7_size_14 ?_
        refine r_iand C dX7_size_15 ?_
        refine r_top (and_pred (by assumption) (by omega)) ?_
        refine r_isn C (lv' := [(2, .int (nI (left_4 &&& (left_4 - 1)))), (1, .int (cnt_3 + (1 : Int32))), (0, .int (nI set))]) dX7_size_16 rfl (by decide) rfl ?_
        refine r_goto C (tgt := 4) dX7_size_17 (by decide) ?_
        exact ih7 (cnt_3 + (1 : Int32)) (left_4 &&& (left_4 - 1)) (Nat.le_trans Nat.and_le_right (by omega)) (Nat.lt_of_le_of_lt Nat.and_le_left hl) hv
  exact L9 set (0 : Int32) set (by omega) (by omega) hv
