abbrev wY (D : va_G) (h a1 a2 a3 a4 a5 a6 : Nat) (pe : Nat) (n : Nat) (td : Int32) (ys : Int32) (la : Int32) (ri : Int32) (kd : Nat → Int32) (dy : Nat → Int32) (nd : Nat → Int32) (co : Nat → Int32) (od : Nat → Int32) (wo : Nat → Int32) : va_W := [(h, .inr (0, [.int (nI pe), .int (nI n), .int td, .int ys, .int la, .int ri, .ref a1, .ref a2, .ref a3, .ref a4, .ref a5, .ref a6])), (a1, .inl (D.1 10, 12, .inl kd)), (a2, .inl (D.1 10, 12, .inl dy)), (a3, .inl (D.1 10, 12, .inl nd)), (a4, .inl (D.1 10, 12, .inl co)), (a5, .inl (D.1 10, 12, .inl od)), (a6, .inl (D.1 10, 48, .inl wo))]
abbrev wT (D : va_G) (t0 t1 : Nat) (ty : Nat) (aw : Int32) (tk : Int32) (le : Nat → Int32) : va_W := [(t0, .inr (1, [.ref t1, .int (nI ty), .int aw, .int tk])), (t1, .inl (D.1 12, 80, .inl le))]
abbrev wS (D : va_G) (s0 s1 s2 s3 : Nat) (ln : Nat → Int32) (sz : Nat → Int32) (it : Nat → Int64) : va_W := [(s0, .inr (2, [.ref s1, .ref s2, .ref s3])), (s1, .inl (D.1 10, 4, .inl ln)), (s2, .inl (D.1 10, 4, .inl sz)), (s3, .inl (D.1 11, 64, .inr (.inl it)))]
def s_X6_isDay (day : Int32) : Int32 := (if day < (0 : Int32) then (0 : Int32) else (if (11 : Int32) < day then (0 : Int32) else (1 : Int32)))
set_option maxHeartbeats 8000000 in
set_option maxRecDepth 100000 in
theorem c_X6_isDay (l : Launch) (D : va_G) (day : Int32) : ct l yX6_isDay cX6_isDay 1 (some .boolean) 0 0 D [.int day] (([] : va_W)) (([] : va_W)) (fun _ => False) (some (Value.int (s_X6_isDay day))) := by
  obtain ⟨V, hv⟩ : ∃ V, s_X6_isDay day = V := ⟨_, rfl⟩
  rw [hv]
  refine ct_intro (own := RX6) (lv := [(0, .int day)]) (by decide) rfl (Nat.le_of_ble_eq_true rfl) rfl ?_
  intro p_ e_ s_ m_ below_ meth_ c_ C
  have hv : (if day < (0 : Int32) then (0 : Int32) else (if (11 : Int32) < day then (0 : Int32) else (1 : Int32))) = V := hv
  refine r_iln C dX6_isDay_0 rfl 0 rfl ?_
  refine r_iflt C (tgt := 14) dX6_isDay_1 (by decide) (fun c1 => ?_) (fun c1 => ?_)
  · rw [if_pos c1] at hv
    refine r_ic C (v := (0 : Int32)) dX6_isDay_14 (by decide) ?_
    exact r_zret rfl C rfl (congrArg (fun z => some (Value.int z)) hv) rfl dX6_isDay_15
  · rw [if_neg c1] at hv
    refine r_iln C dX6_isDay_4 rfl 0 rfl ?_
    refine r_bp C (v := (11 : Int32)) dX6_isDay_5 (by decide) ?_
    refine r_icgt C (tgt := 14) dX6_isDay_7 (by decide) (fun c2 => ?_) (fun c2 => ?_)
    · rw [if_pos c2] at hv
      refine r_ic C (v := (0 : Int32)) dX6_isDay_14 (by decide) ?_
      exact r_zret rfl C rfl (congrArg (fun z => some (Value.int z)) hv) rfl dX6_isDay_15
    · rw [if_neg c2] at hv
      refine r_ic C (v := (1 : Int32)) dX6_isDay_10 (by decide) ?_
      refine r_goto C (tgt := 15) dX6_isDay_11 (by decide) ?_
      exact r_zret rfl C rfl (congrArg (fun z => some (Value.int z)) hv) rfl dX6_isDay_15

def s_X6_isEverPerson (person : Int32) : Int32 := (if person < (0 : Int32) then (0 : Int32) else (if person < (4 : Int32) then (1 : Int32) else (0 : Int32)))
set_option maxHeartbeats 8000000 in
set_option maxRecDepth 100000 in
theorem c_X6_isEverPerson (l : Launch) (D : va_G) (person : Int32) : ct l yX6_isEverPerson cX6_isEverPerson 1 (some .boolean) 0 0 D [.int person] (([] : va_W)) (([] : va_W)) (fun _ => False) (some (Value.int (s_X6_isEverPerson person))) := by
  obtain ⟨V, hv⟩ : ∃ V, s_X6_isEverPerson person = V := ⟨_, rfl⟩
  rw [hv]
  refine ct_intro (own := RX6) (lv := [(0, .int person)]) (by decide) rfl (Nat.le_of_ble_eq_true rfl) rfl ?_
  intro p_ e_ s_ m_ below_ meth_ c_ C
  have hv : (if person < (0 : Int32) then (0 : Int32) else (if person < (4 : Int32) then (1 : Int32) else (0 : Int32))) = V := hv
  refine r_iln C dX6_isEverPerson_0 rfl 0 rfl ?_
  refine r_iflt C (tgt := 13) dX6_isEverPerson_1 (by decide) (fun c1 => ?_) (fun c1 => ?_)
  · rw [if_pos c1] at hv
    refine r_ic C (v := (0 : Int32)) dX6_isEverPerson_13 (by decide) ?_
    exact r_zret rfl C rfl (congrArg (fun z => some (Value.int z)) hv) rfl dX6_isEverPerson_14
  · rw [if_neg c1] at hv
    refine r_iln C dX6_isEverPerson_4 rfl 0 rfl ?_
    refine r_ic C (v := (4 : Int32)) dX6_isEverPerson_5 (by decide) ?_
    refine r_icge C (tgt := 13) dX6_isEverPerson_6 (by decide) (fun c2 => ?_) (fun c2 => ?_)
    · rw [if_neg c2] at hv
      refine r_ic C (v := (0 : Int32)) dX6_isEverPerson_13 (by decide) ?_
      exact r_zret rfl C rfl (congrArg (fun z => some (Value.int z)) hv) rfl dX6_isEverPerson_14
    · rw [if_pos c2] at hv
      refine r_ic C (v := (1 : Int32)) dX6_isEverPerson_9 (by decide) ?_
      refine r_goto C (tgt := 14) dX6_isEverPerson_10 (by decide) ?_
      exact r_zret rfl C rfl (congrArg (fun z => some (Value.int z)) hv) rfl dX6_isEverPerson_14

def s_X6_isWalkLength (k : Int32) : Int32 := (if k < (0 : Int32) then (0 : Int32) else (if (4 : Int32) < k then (0 : Int32) else (1 : Int32)))
set_option maxHeartbeats 8000000 in
set_option maxRecDepth 100000 in
theorem c_X6_isWalkLength (l : Launch) (D : va_G) (k : Int32) : ct l yX6_isWalkLength cX6_isWalkLength 1 (some .boolean) 0 0 D [.int k] (([] : va_W)) (([] : va_W)) (fun _ => False) (some (Value.int (s_X6_isWalkLength k))) := by
  obtain ⟨V, hv⟩ : ∃ V, s_X6_isWalkLength k = V := ⟨_, rfl⟩
  rw [hv]
  refine ct_intro (own := RX6) (lv := [(0, .int k)]) (by decide) rfl (Nat.le_of_ble_eq_true rfl) rfl ?_
  intro p_ e_ s_ m_ below_ meth_ c_ C
  have hv : (if k < (0 : Int32) then (0 : Int32) else (if (4 : Int32) < k then (0 : Int32) else (1 : Int32))) = V := hv
  refine r_iln C dX6_isWalkLength_0 rfl 0 rfl ?_
  refine r_iflt C (tgt := 13) dX6_isWalkLength_1 (by decide) (fun c1 => ?_) (fun c1 => ?_)
  · rw [if_pos c1] at hv
    refine r_ic C (v := (0 : Int32)) dX6_isWalkLength_13 (by decide) ?_
    exact r_zret rfl C rfl (congrArg (fun z => some (Value.int z)) hv) rfl dX6_isWalkLength_14
  · rw [if_neg c1] at hv
    refine r_iln C dX6_isWalkLength_4 rfl 0 rfl ?_
    refine r_ic C (v := (4 : Int32)) dX6_isWalkLength_5 (by decide) ?_
    refine r_icgt C (tgt := 13) dX6_isWalkLength_6 (by decide) (fun c2 => ?_) (fun c2 => ?_)
    · rw [if_pos c2] at hv
      refine r_ic C (v := (0 : Int32)) dX6_isWalkLength_13 (by decide) ?_
      exact r_zret rfl C rfl (congrArg (fun z => some (Value.int z)) hv) rfl dX6_isWalkLength_14
    · rw [if_neg c2] at hv
      refine r_ic C (v := (1 : Int32)) dX6_isWalkLength_9 (by decide) ?_
      refine r_goto C (tgt := 14) dX6_isWalkLength_10 (by decide) ?_
      exact r_zret rfl C rfl (congrArg (fun z => some (Value.int z)) hv) rfl dX6_isWalkLength_14

def s_X6_isChoice (what : Int32) : Int32 := (if what = (0 : Int32) then (1 : Int32) else (if what = (1 : Int32) then (1 : Int32) else (0 : Int32)))
set_option maxHeartbeats 8000000 in
set_option maxRecDepth 100000 in
theorem c_X6_isChoice (l : Launch) (D : va_G) (what : Int32) : ct l yX6_isChoice cX6_isChoice 1 (some .boolean) 0 0 D [.int what] (([] : va_W)) (([] : va_W)) (fun _ => False) (some (Value.int (s_X6_isChoice what))) := by
  obtain ⟨V, hv⟩ : ∃ V, s_X6_isChoice what = V := ⟨_, rfl⟩
  rw [hv]
  refine ct_intro (own := RX6) (lv := [(0, .int what)]) (by decide) rfl (Nat.le_of_ble_eq_true rfl) rfl ?_
  intro p_ e_ s_ m_ below_ meth_ c_ C
  have hv : (if what = (0 : Int32) then (1 : Int32) else (if what = (1 : Int32) then (1 : Int32) else (0 : Int32))) = V := hv
  refine r_iln C dX6_isChoice_0 rfl 0 rfl ?_
  refine r_ifeq C (tgt := 9) dX6_isChoice_1 (by decide) (fun c1 => ?_) (fun c1 => ?_)
  · rw [if_pos c1] at hv
    refine r_ic C (v := (1 : Int32)) dX6_isChoice_9 (by decide) ?_
    refine r_goto C (tgt := 14) dX6_isChoice_10 (by decide) ?_
    exact r_zret rfl C rfl (congrArg (fun z => some (Value.int z)) hv) rfl dX6_isChoice_14
  · rw [if_neg c1] at hv
    refine r_iln C dX6_isChoice_4 rfl 0 rfl ?_
    refine r_ic C (v := (1 : Int32)) dX6_isChoice_5 (by decide) ?_
    refine r_icne C (tgt := 13) dX6_isChoice_6 (by decide) (fun c2 => ?_) (fun c2 => ?_)
    · rw [if_neg c2] at hv
      refine r_ic C (v := (0 : Int32)) dX6_isChoice_13 (by decide) ?_
      exact r_zret rfl C rfl (congrArg (fun z => some (Value.int z)) hv) rfl dX6_isChoice_14
    · rw [if_pos c2] at hv
      refine r_ic C (v := (1 : Int32)) dX6_isChoice_9 (by decide) ?_
      refine r_goto C (tgt := 14) dX6_isChoice_10 (by decide) ?_
      exact r_zret rfl C rfl (congrArg (fun z => some (Value.int z)) hv) rfl dX6_isChoice_14

def s_X6_isSheet (sheet : Int32) : Int32 := (if sheet < (0 : Int32) then (0 : Int32) else (if sheet < (4 : Int32) then (1 : Int32) else (0 : Int32)))
set_option maxHeartbeats 8000000 in
set_option maxRecDepth 100000 in
theorem c_X6_isSheet (l : Launch) (D : va_G) (sheet : Int32) : ct l yX6_isSheet cX6_isSheet 1 (some .boolean) 0 0 D [.int sheet] (([] : va_W)) (([] : va_W)) (fun _ => False) (some (Value.int (s_X6_isSheet sheet))) := by
  obtain ⟨V, hv⟩ : ∃ V, s_X6_isSheet sheet = V := ⟨_, rfl⟩
  rw [hv]
  refine ct_intro (own := RX6) (lv := [(0, .int sheet)]) (by decide) rfl (Nat.le_of_ble_eq_true rfl) rfl ?_
  intro p_ e_ s_ m_ below_ meth_ c_ C
  have hv : (if sheet < (0 : Int32) then (0 : Int32) else (if sheet < (4 : Int32) then (1 : Int32) else (0 : Int32))) = V := hv
  refine r_iln C dX6_isSheet_0 rfl 0 rfl ?_
  refine r_iflt C (tgt := 13) dX6_isSheet_1 (by decide) (fun c1 => ?_) (fun c1 => ?_)
  · rw [if_pos c1] at hv
    refine r_ic C (v := (0 : Int32)) dX6_isSheet_13 (by decide) ?_
    exact r_zret rfl C rfl (congrArg (fun z => some (Value.int z)) hv) rfl dX6_isSheet_14
  · rw [if_neg c1] at hv
    refine r_iln C dX6_isSheet_4 rfl 0 rfl ?_
    refine r_ic C (v := (4 : Int32)) dX6_isSheet_5 (by decide) ?_
    refine r_icge C (tgt := 13) dX6_isSheet_6 (by decide) (fun c2 => ?_) (fun c2 => ?_)
    · rw [if_neg c2] at hv
      refine r_ic C (v := (0 : Int32)) dX6_isSheet_13 (by decide) ?_
      exact r_zret rfl C rfl (congrArg (fun z => some (Value.int z)) hv) rfl dX6_isSheet_14
    · rw [if_pos c2] at hv
      refine r_ic C (v := (1 : Int32)) dX6_isSheet_9 (by decide) ?_
      refine r_goto C (tgt := 14) dX6_isSheet_10 (by decide) ?_
      exact r_zret rfl C rfl (congrArg (fun z => some (Value.int z)) hv) rfl dX6_isSheet_14

def s_X6_isLane (lane : Int32) : Int32 := (if lane < (0 : Int32) then (0 : Int32) else (if lane < (4 : Int32) then (1 : Int32) else (0 : Int32)))
set_option maxHeartbeats 8000000 in
set_option maxRecDepth 100000 in
theorem c_X6_isLane (l : Launch) (D : va_G) (lane : Int32) : ct l yX6_isLane cX6_isLane 1 (some .boolean) 0 0 D [.int lane] (([] : va_W)) (([] : va_W)) (fun _ => False) (some (Value.int (s_X6_isLane lane))) := by
  obtain ⟨V, hv⟩ : ∃ V, s_X6_isLane lane = V := ⟨_, rfl⟩
  rw [hv]
  refine ct_intro (own := RX6) (lv := [(0, .int lane)]) (by decide) rfl (Nat.le_of_ble_eq_true rfl) rfl ?_
  intro p_ e_ s_ m_ below_ meth_ c_ C
  have hv : (if lane < (0 : Int32) then (0 : Int32) else (if lane < (4 : Int32) then (1 : Int32) else (0 : Int32))) = V := hv
  refine r_iln C dX6_isLane_0 rfl 0 rfl ?_
  refine r_iflt C (tgt := 13) dX6_isLane_1 (by decide) (fun c1 => ?_) (fun c1 => ?_)
  · rw [if_pos c1] at hv
    refine r_ic C (v := (0 : Int32)) dX6_isLane_13 (by decide) ?_
    exact r_zret rfl C rfl (congrArg (fun z => some (Value.int z)) hv) rfl dX6_isLane_14
  · rw [if_neg c1] at hv
    refine r_iln C dX6_isLane_4 rfl 0 rfl ?_
    refine r_ic C (v := (4 : Int32)) dX6_isLane_5 (by decide) ?_
    refine r_icge C (tgt := 13) dX6_isLane_6 (by decide) (fun c2 => ?_) (fun c2 => ?_)
    · rw [if_neg c2] at hv
      refine r_ic C (v := (0 : Int32)) dX6_isLane_13 (by decide) ?_
      exact r_zret rfl C rfl (congrArg (fun z => some (Value.int z)) hv) rfl dX6_isLane_14
    · rw [if_pos c2] at hv
      refine r_ic C (v := (1 : Int32)) dX6_isLane_9 (by decide) ?_
      refine r_goto C (tgt := 14) dX6_isLane_10 (by decide) ?_
      exact r_zret rfl C rfl (congrArg (fun z => some (Value.int z)) hv) rfl dX6_isLane_14

def s_X6_isIn (set : Int32) (one : Int32) : Int32 := (if (set >>> (one &&& 31)) &&& (1 : Int32) = (0 : Int32) then (0 : Int32) else (1 : Int32))
set_option maxHeartbeats 8000000 in
set_option maxRecDepth 100000 in
theorem c_X6_isIn (l : Launch) (D : va_G) (set : Int32) (one : Int32) : ct l yX6_isIn cX6_isIn 2 (some .boolean) 0 0 D [.int set, .int one] (([] : va_W)) (([] : va_W)) (fun _ => False) (some (Value.int (s_X6_isIn set one))) := by
  obtain ⟨V, hv⟩ : ∃ V, s_X6_isIn set one = V := ⟨_, rfl⟩
  rw [hv]
  refine ct_intro (own := RX6) (lv := [(0, .int set), (1, .int one)]) (by decide) rfl (Nat.le_of_ble_eq_true rfl) rfl ?_
  intro p_ e_ s_ m_ below_ meth_ c_ C
  have hv : (if (set >>> (one &&& 31)) &&& (1 : Int32) = (0 : Int32) then (0 : Int32) else (1 : Int32)) = V := hv
  refine r_iln C dX6_isIn_0 rfl 0 rfl ?_
  refine r_iln C dX6_isIn_1 rfl 1 rfl ?_
  refine r_ishr C dX6_isIn_2 ?_
  refine r_ic C (v := (1 : Int32)) dX6_isIn_3 (by decide) ?_
  refine r_iand C dX6_isIn_4 ?_
  refine r_ifeq C (tgt := 12) dX6_isIn_5 (by decide) (fun c1 => ?_) (fun c1 => ?_)
  · rw [if_pos c1] at hv
    refine r_ic C (v := (0 : Int32)) dX6_isIn_12 (by decide) ?_
    exact r_zret rfl C rfl (congrArg (fun z => some (Value.int z)) hv) rfl dX6_isIn_13
  · rw [if_neg c1] at hv
    refine r_ic C (v := (1 : Int32)) dX6_isIn_8 (by decide) ?_
    refine r_goto C (tgt := 13) dX6_isIn_9 (by decide) ?_
    exact r_zret rfl C rfl (congrArg (fun z => some (Value.int z)) hv) rfl dX6_isIn_13

def s_X6_isWithin (set : Int32) (whole : Int32) : Int32 := (if set &&& (whole ^^^ (-1 : Int32)) = (0 : Int32) then (1 : Int32) else (0 : Int32))
set_option maxHeartbeats 8000000 in
set_option maxRecDepth 100000 in
theorem c_X6_isWithin (l : Launch) (D : va_G) (set : Int32) (whole : Int32) : ct l yX6_isWithin cX6_isWithin 2 (some .boolean) 0 0 D [.int set, .int whole] (([] : va_W)) (([] : va_W)) (fun _ => False) (some (Value.int (s_X6_isWithin set whole))) := by
  obtain ⟨V, hv⟩ : ∃ V, s_X6_isWithin set whole = V := ⟨_, rfl⟩
  rw [hv]
  refine ct_intro (own := RX6) (lv := [(0, .int set), (1, .int whole)]) (by decide) rfl (Nat.le_of_ble_eq_true rfl) rfl ?_
  intro p_ e_ s_ m_ below_ meth_ c_ C
  have hv : (if set &&& (whole ^^^ (-1 : Int32)) = (0 : Int32) then (1 : Int32) else (0 : Int32)) = V := hv
  refine r_iln C dX6_isWithin_0 rfl 0 rfl ?_
  refine r_iln C dX6_isWithin_1 rfl 1 rfl ?_
  refine r_ic C (v := (-1 : Int32)) dX6_isWithin_2 (by decide) ?_
  refine r_ixor C dX6_isWithin_3 ?_
  refine r_iand C dX6_isWithin_4 ?_
  refine r_ifne C (tgt := 12) dX6_isWithin_5 (by decide) (fun c1 => ?_) (fun c1 => ?_)
  · rw [if_neg c1] at hv
    refine r_ic C (v := (0 : Int32)) dX6_isWithin_12 (by decide) ?_
    exact r_zret rfl C rfl (congrArg (fun z => some (Value.int z)) hv) rfl dX6_isWithin_13
  · rw [if_pos c1] at hv
    refine r_ic C (v := (1 : Int32)) dX6_isWithin_8 (by decide) ?_
    refine r_goto C (tgt := 13) dX6_isWithin_9 (by decide) ?_
    exact r_zret rfl C rfl (congrArg (fun z => some (Value.int z)) hv) rfl dX6_isWithin_13

def s_X6_isOneOf (deed : Int64) (set : Int32) : Int32 := (if lg_cmp deed (0 : Int64) < (0 : Int32) then (0 : Int32) else (if lg_cmp deed (12 : Int64) < (0 : Int32) then (if s_X6_isIn set deed.toInt32 = (0 : Int32) then (0 : Int32) else (1 : Int32)) else (0 : Int32)))
set_option maxHeartbeats 8000000 in
set_option maxRecDepth 100000 in
theorem c_X6_isOneOf (l : Launch) (D : va_G) (deed : Int64) (set : Int32) : ct l yX6_isOneOf cX6_isOneOf 3 (some .boolean) 1 21 D [.long deed, .int set] (([] : va_W)) (([] : va_W)) (fun _ => False) (some (Value.int (s_X6_isOneOf deed set))) := by
  obtain ⟨V, hv⟩ : ∃ V, s_X6_isOneOf deed set = V := ⟨_, rfl⟩
  rw [hv]
  refine ct_intro (own := RX6) (lv := [(0, .long deed), (2, .int set)]) (by decide) rfl (Nat.le_of_ble_eq_true rfl) rfl ?_
  intro p_ e_ s_ m_ below_ meth_ c_ C
  have hv : (if lg_cmp deed (0 : Int64) < (0 : Int32) then (0 : Int32) else (if lg_cmp deed (12 : Int64) < (0 : Int32) then (if s_X6_isIn set deed.toInt32 = (0 : Int32) then (0 : Int32) else (1 : Int32)) else (0 : Int32))) = V := hv
  refine r_lln C dX6_isOneOf_0 rfl 0 rfl ?_
  refine r_lc C (v := (0 : Int64)) dX6_isOneOf_1 (by decide) ?_
  refine r_lcmp C dX6_isOneOf_2 ?_
  refine r_iflt C (tgt := 27) dX6_isOneOf_3 (by decide) (fun c1 => ?_) (fun c1 => ?_)
  · rw [if_pos c1] at hv
    refine r_ic C (v := (0 : Int32)) dX6_isOneOf_27 (by decide) ?_
    exact r_zret rfl C rfl (congrArg (fun z => some (Value.int z)) hv) rfl dX6_isOneOf_28
  · rw [if_neg c1] at hv
    refine r_lln C dX6_isOneOf_6 rfl 0 rfl ?_
    refine r_ldc2 C wc_X6_268 dX6_isOneOf_7 ?_
    refine r_lcmp C dX6_isOneOf_10 ?_
    refine r_ifge C (tgt := 27) dX6_isOneOf_11 (by decide) (fun c2 => ?_) (fun c2 => ?_)
    · rw [if_neg c2] at hv
      refine r_ic C (v := (0 : Int32)) dX6_isOneOf_27 (by decide) ?_
      exact r_zret rfl C rfl (congrArg (fun z => some (Value.int z)) hv) rfl dX6_isOneOf_28
    · rw [if_pos c2] at hv
      refine r_iln C dX6_isOneOf_14 rfl 1 rfl ?_
      refine r_lln C dX6_isOneOf_15 rfl 0 rfl ?_
      refine r_l2i C dX6_isOneOf_16 ?_
      refine aft_rd (st' := [.int (s_X6_isIn set deed.toInt32)]) (run_S (rest := []) C (c_X6_isIn l D set deed.toInt32 ) ok_X6_isIn ws_X6_isIn wm_X6_98 [] rfl ⟨Nat.le_of_ble_eq_true rfl, Nat.le_of_ble_eq_true rfl⟩ rfl rfl (Nat.le_of_ble_eq_true rfl) dX6_isOneOf_17) rfl ?_
      refine r_ifeq C (tgt := 27) dX6_isOneOf_20 (by decide) (fun c3 => ?_) (fun c3 => ?_)
      · rw [if_pos c3] at hv
        refine r_ic C (v := (0 : Int32)) dX6_isOneOf_27 (by decide) ?_
        exact r_zret rfl C rfl (congrArg (fun z => some (Value.int z)) hv) rfl dX6_isOneOf_28
      · rw [if_neg c3] at hv
        refine r_ic C (v := (1 : Int32)) dX6_isOneOf_23 (by decide) ?_
        refine r_goto C (tgt := 28) dX6_isOneOf_24 (by decide) ?_
        exact r_zret rfl C rfl (congrArg (fun z => some (Value.int z)) hv) rfl dX6_isOneOf_28

def s_X5_isMet (kind : Int32) (need : Int32) (stand : Int32) : Int32 := (if kind = (0 : Int32) then (if need &&& stand = need then (1 : Int32) else (0 : Int32)) else (if kind = (2 : Int32) then (if need &&& stand = (0 : Int32) then (1 : Int32) else (0 : Int32)) else (if need &&& stand = (0 : Int32) then (if need = (0 : Int32) then (1 : Int32) else (0 : Int32)) else (1 : Int32))))
set_option maxHeartbeats 8000000 in
set_option maxRecDepth 100000 in
theorem c_X5_isMet (l : Launch) (D : va_G) (kind : Int32) (need : Int32) (stand : Int32) : ct l yX5_isMet cX5_isMet 4 (some .boolean) 0 0 D [.int kind, .int need, .int stand] (([] : va_W)) (([] : va_W)) (fun _ => False) (some (Value.int (s_X5_isMet kind need stand))) := by
  obtain ⟨V, hv⟩ : ∃ V, s_X5_isMet kind need stand = V := ⟨_, rfl⟩
  rw [hv]
  refine ct_intro (own := RX5) (lv := [(0, .int kind), (1, .int need), (2, .int stand)]) (by decide) rfl (Nat.le_of_ble_eq_true rfl) rfl ?_
  intro p_ e_ s_ m_ below_ meth_ c_ C
  have hv : (if kind = (0 : Int32) then (if need &&& stand = need then (1 : Int32) else (0 : Int32)) else (if kind = (2 : Int32) then (if need &&& stand = (0 : Int32) then (1 : Int32) else (0 : Int32)) else (if need &&& stand = (0 : Int32) then (if need = (0 : Int32) then (1 : Int32) else (0 : Int32)) else (1 : Int32)))) = V := hv
  refine r_iln C dX5_isMet_0 rfl 1 rfl ?_
  refine r_iln C dX5_isMet_1 rfl 2 rfl ?_
  refine r_iand C dX5_isMet_2 ?_
  refine r_isn C (lv' := [(3, .int (need &&& stand)), (0, .int kind), (1, .int need), (2, .int stand)]) dX5_isMet_3 rfl (by decide) rfl ?_
  refine r_iln C dX5_isMet_4 rfl 1 rfl ?_
  by_cases c1 : kind = (0 : Int32)
  · rw [if_pos c1] at hv
    refine r_look C (tgt := 32) (off := 27) dX5_isMet_5 (by decide) (by rw [c1]; decide) (by decide) ?_
    refine r_iln C dX5_isMet_32 rfl 0 rfl ?_
    refine r_iln C dX5_isMet_33 rfl 2 rfl ?_
    refine r_icne C (tgt := 41) dX5_isMet_34 (by decide) (fun c2 => ?_) (fun c2 => ?_)
    · rw [if_neg c2] at hv
      refine r_ic C (v := (0 : Int32)) dX5_isMet_41 (by decide) ?_
      exact r_zret rfl C rfl (congrArg (fun z => some (Value.int z)) hv) rfl dX5_isMet_42
    · rw [if_pos c2] at hv
      refine r_ic C (v := (1 : Int32)) dX5_isMet_37 (by decide) ?_
      refine r_goto C (tgt := 42) dX5_isMet_38 (by decide) ?_
      exact r_zret rfl C rfl (congrArg (fun z => some (Value.int z)) hv) rfl dX5_isMet_42
  · rw [if_neg c1] at hv
    by_cases c3 : kind = (2 : Int32)
    · rw [if_pos c3] at hv
      refine r_look C (tgt := 43) (off := 38) dX5_isMet_5 (by decide) (by rw [c3]; decide) (by decide) ?_
      refine r_iln C dX5_isMet_43 rfl 0 rfl ?_
      refine r_ifne C (tgt := 51) dX5_isMet_44 (by decide) (fun c4 => ?_) (fun c4 => ?_)
      · rw [if_neg c4] at hv
        refine r_ic C (v := (0 : Int32)) dX5_isMet_51 (by decide) ?_
        exact r_zret rfl C rfl (congrArg (fun z => some (Value.int z)) hv) rfl dX5_isMet_52
      · rw [if_pos c4] at hv
        refine r_ic C (v := (1 : Int32)) dX5_isMet_47 (by decide) ?_
        refine r_goto C (tgt := 52) dX5_isMet_48 (by decide) ?_
        exact r_zret rfl C rfl (congrArg (fun z => some (Value.int z)) hv) rfl dX5_isMet_52
    · rw [if_neg c3] at hv
      have nc1 : kind.toInt ≠ 0 := fun z => c1 (i32_eq _ _ 0 (by decide) z)
      have nc3 : kind.toInt ≠ 2 := fun z => c3 (i32_eq _ _ 2 (by decide) z)
      refine r_look C (tgt := 53) (off := 48) dX5_isMet_5 (by decide) (by simp [Op.lookupswitch.offset, nc1.symm, nc3.symm]) (by decide) ?_
      refine r_iln C dX5_isMet_53 rfl 0 rfl ?_
      refine r_ifne C (tgt := 61) dX5_isMet_54 (by decide) (fun c5 => ?_) (fun c5 => ?_)
      · rw [if_neg c5] at hv
        refine r_ic C (v := (1 : Int32)) dX5_isMet_61 (by decide) ?_
        refine r_goto C (tgt := 66) dX5_isMet_62 (by decide) ?_
        exact r_zret rfl C rfl (congrArg (fun z => some (Value.int z)) hv) rfl dX5_isMet_66
      · rw [if_pos c5] at hv
        refine r_iln C dX5_isMet_57 rfl 2 rfl ?_
        refine r_ifne C (tgt := 65) dX5_isMet_58 (by decide) (fun c6 => ?_) (fun c6 => ?_)
        · rw [if_neg c6] at hv
          refine r_ic C (v := (0 : Int32)) dX5_isMet_65 (by decide) ?_
          exact r_zret rfl C rfl (congrArg (fun z => some (Value.int z)) hv) rfl dX5_isMet_66
        · rw [if_pos c6] at hv
          refine r_ic C (v := (1 : Int32)) dX5_isMet_61 (by decide) ?_
          refine r_goto C (tgt := 66) dX5_isMet_62 (by decide) ?_
          exact r_zret rfl C rfl (congrArg (fun z => some (Value.int z)) hv) rfl dX5_isMet_66

def s_J6_bitCount_0f7a4 (i : Int32) : Int32 := (((((((i - (((i.toUInt32 >>> ((1 : Int32).toUInt32 &&& Int32.toUInt32 31)).toInt32) &&& (1431655765 : Int32))) &&& (858993459 : Int32)) + ((((i - (((i.toUInt32 >>> ((1 : Int32).toUInt32 &&& Int32.toUInt32 31)).toInt32) &&& (1431655765 : Int32))).toUInt32 >>> ((2 : Int32).toUInt32 &&& Int32.toUInt32 31)).toInt32) &&& (858993459 : Int32))) + (((((i - (((i.toUInt32 >>> ((1 : Int32).toUInt32 &&& Int32.toUInt32 31)).toInt32) &&& (1431655765 : Int32))) &&& (858993459 : Int32)) + ((((i - (((i.toUInt32 >>> ((1 : Int32).toUInt32 &&& Int32.toUInt32 31)).toInt32) &&& (1431655765 : Int32))).toUInt32 >>> ((2 : Int32).toUInt32 &&& Int32.toUInt32 31)).toInt32) &&& (858993459 : Int32))).toUInt32 >>> ((4 : Int32).toUInt32 &&& Int32.toUInt32 31)).toInt32)) &&& (252645135 : Int32)) + (((((((i - (((i.toUInt32 >>> ((1 : Int32).toUInt32 &&& Int32.toUInt32 31)).toInt32) &&& (1431655765 : Int32))) &&& (858993459 : Int32)) + ((((i - (((i.toUInt32 >>> ((1 : Int32).toUInt32 &&& Int32.toUInt32 31)).toInt32) &&& (1431655765 : Int32))).toUInt32 >>> ((2 : Int32).toUInt32 &&& Int32.toUInt32 31)).toInt32) &&& (858993459 : Int32))) + (((((i - (((i.toUInt32 >>> ((1 : Int32).toUInt32 &&& Int32.toUInt32 31)).toInt32) &&& (1431655765 : Int32))) &&& (858993459 : Int32)) + ((((i - (((i.toUInt32 >>> ((1 : Int32).toUInt32 &&& Int32.toUInt32 31)).toInt32) &&& (1431655765 : Int32))).toUInt32 >>> ((2 : Int32).toUInt32 &&& Int32.toUInt32 31)).toInt32) &&& (858993459 : Int32))).toUInt32 >>> ((4 : Int32).toUInt32 &&& Int32.toUInt32 31)).toInt32)) &&& (252645135 : Int32)).toUInt32 >>> ((8 : Int32).toUInt32 &&& Int32.toUInt32 31)).toInt32)) + ((((((((i - (((i.toUInt32 >>> ((1 : Int32).toUInt32 &&& Int32.toUInt32 31)).toInt32) &&& (1431655765 : Int32))) &&& (858993459 : Int32)) + ((((i - (((i.toUInt32 >>> ((1 : Int32).toUInt32 &&& Int32.toUInt32 31)).toInt32) &&& (1431655765 : Int32))).toUInt32 >>> ((2 : Int32).toUInt32 &&& Int32.toUInt32 31)).toInt32) &&& (858993459 : Int32))) + (((((i - (((i.toUInt32 >>> ((1 : Int32).toUInt32 &&& Int32.toUInt32 31)).toInt32) &&& (1431655765 : Int32))) &&& (858993459 : Int32)) + ((((i - (((i.toUInt32 >>> ((1 : Int32).toUInt32 &&& Int32.toUInt32 31)).toInt32) &&& (1431655765 : Int32))).toUInt32 >>> ((2 : Int32).toUInt32 &&& Int32.toUInt32 31)).toInt32) &&& (858993459 : Int32))).toUInt32 >>> ((4 : Int32).toUInt32 &&& Int32.toUInt32 31)).toInt32)) &&& (252645135 : Int32)) + (((((((i - (((i.toUInt32 >>> ((1 : Int32).toUInt32 &&& Int32.toUInt32 31)).toInt32) &&& (1431655765 : Int32))) &&& (858993459 : Int32)) + ((((i - (((i.toUInt32 >>> ((1 : Int32).toUInt32 &&& Int32.toUInt32 31)).toInt32) &&& (1431655765 : Int32))).toUInt32 >>> ((2 : Int32).toUInt32 &&& Int32.toUInt32 31)).toInt32) &&& (858993459 : Int32))) + (((((i - (((i.toUInt32 >>> ((1 : Int32).toUInt32 &&& Int32.toUInt32 31)).toInt32) &&& (1431655765 : Int32))) &&& (858993459 : Int32)) + ((((i - (((i.toUInt32 >>> ((1 : Int32).toUInt32 &&& Int32.toUInt32 31)).toInt32) &&& (1431655765 : Int32))).toUInt32 >>> ((2 : Int32).toUInt32 &&& Int32.toUInt32 31)).toInt32) &&& (858993459 : Int32))).toUInt32 >>> ((4 : Int32).toUInt32 &&& Int32.toUInt32 31)).toInt32)) &&& (252645135 : Int32)).toUInt32 >>> ((8 : Int32).toUInt32 &&& Int32.toUInt32 31)).toInt32)).toUInt32 >>> ((16 : Int32).toUInt32 &&& Int32.toUInt32 31)).toInt32)) &&& (63 : Int32)
set_option maxHeartbeats 8000000 in
set_option maxRecDepth 100000 in
theorem c_J6_bitCount_0f7a4 (l : Launch) (D : va_G) (i : Int32) : ct l yJ6_bitCount_0f7a4 cJ6_bitCount_0f7a4 1 (some .int) 0 0 D [.int i] (([] : va_W)) (([] : va_W)) (fun _ => False) (some (Value.int (s_J6_bitCount_0f7a4 i))) := by
  obtain ⟨V, hv⟩ : ∃ V, s_J6_bitCount_0f7a4 i = V := ⟨_, rfl⟩
  rw [hv]
  refine ct_intro (own := RJ6) (lv := [(0, .int i)]) (by decide) rfl (Nat.le_of_ble_eq_true rfl) rfl ?_
  intro p_ e_ s_ m_ below_ meth_ c_ C
  have hv : (((((((i - (((i.toUInt32 >>> ((1 : Int32).toUInt32 &&& Int32.toUInt32 31)).toInt32) &&& (1431655765 : Int32))) &&& (858993459 : Int32)) + ((((i - (((i.toUInt32 >>> ((1 : Int32).toUInt32 &&& Int32.toUInt32 31)).toInt32) &&& (1431655765 : Int32))).toUInt32 >>> ((2 : Int32).toUInt32 &&& Int32.toUInt32 31)).toInt32) &&& (858993459 : Int32))) + (((((i - (((i.toUInt32 >>> ((1 : Int32).toUInt32 &&& Int32.toUInt32 31)).toInt32) &&& (1431655765 : Int32))) &&& (858993459 : Int32)) + ((((i - (((i.toUInt32 >>> ((1 : Int32).toUInt32 &&& Int32.toUInt32 31)).toInt32) &&& (1431655765 : Int32))).toUInt32 >>> ((2 : Int32).toUInt32 &&& Int32.toUInt32 31)).toInt32) &&& (858993459 : Int32))).toUInt32 >>> ((4 : Int32).toUInt32 &&& Int32.toUInt32 31)).toInt32)) &&& (252645135 : Int32)) + (((((((i - (((i.toUInt32 >>> ((1 : Int32).toUInt32 &&& Int32.toUInt32 31)).toInt32) &&& (1431655765 : Int32))) &&& (858993459 : Int32)) + ((((i - (((i.toUInt32 >>> ((1 : Int32).toUInt32 &&& Int32.toUInt32 31)).toInt32) &&& (1431655765 : Int32))).toUInt32 >>> ((2 : Int32).toUInt32 &&& Int32.toUInt32 31)).toInt32) &&& (858993459 : Int32))) + (((((i - (((i.toUInt32 >>> ((1 : Int32).toUInt32 &&& Int32.toUInt32 31)).toInt32) &&& (1431655765 : Int32))) &&& (858993459 : Int32)) + ((((i - (((i.toUInt32 >>> ((1 : Int32).toUInt32 &&& Int32.toUInt32 31)).toInt32) &&& (1431655765 : Int32))).toUInt32 >>> ((2 : Int32).toUInt32 &&& Int32.toUInt32 31)).toInt32) &&& (858993459 : Int32))).toUInt32 >>> ((4 : Int32).toUInt32 &&& Int32.toUInt32 31)).toInt32)) &&& (252645135 : Int32)).toUInt32 >>> ((8 : Int32).toUInt32 &&& Int32.toUInt32 31)).toInt32)) + ((((((((i - (((i.toUInt32 >>> ((1 : Int32).toUInt32 &&& Int32.toUInt32 31)).toInt32) &&& (1431655765 : Int32))) &&& (858993459 : Int32)) + ((((i - (((i.toUInt32 >>> ((1 : Int32).toUInt32 &&& Int32.toUInt32 31)).toInt32) &&& (1431655765 : Int32))).toUInt32 >>> ((2 : Int32).toUInt32 &&& Int32.toUInt32 31)).toInt32) &&& (858993459 : Int32))) + (((((i - (((i.toUInt32 >>> ((1 : Int32).toUInt32 &&& Int32.toUInt32 31)).toInt32) &&& (1431655765 : Int32))) &&& (858993459 : Int32)) + ((((i - (((i.toUInt32 >>> ((1 : Int32).toUInt32 &&& Int32.toUInt32 31)).toInt32) &&& (1431655765 : Int32))).toUInt32 >>> ((2 : Int32).toUInt32 &&& Int32.toUInt32 31)).toInt32) &&& (858993459 : Int32))).toUInt32 >>> ((4 : Int32).toUInt32 &&& Int32.toUInt32 31)).toInt32)) &&& (252645135 : Int32)) + (((((((i - (((i.toUInt32 >>> ((1 : Int32).toUInt32 &&& Int32.toUInt32 31)).toInt32) &&& (1431655765 : Int32))) &&& (858993459 : Int32)) + ((((i - (((i.toUInt32 >>> ((1 : Int32).toUInt32 &&& Int32.toUInt32 31)).toInt32) &&& (1431655765 : Int32))).toUInt32 >>> ((2 : Int32).toUInt32 &&& Int32.toUInt32 31)).toInt32) &&& (858993459 : Int32))) + (((((i - (((i.toUInt32 >>> ((1 : Int32).toUInt32 &&& Int32.toUInt32 31)).toInt32) &&& (1431655765 : Int32))) &&& (858993459 : Int32)) + ((((i - (((i.toUInt32 >>> ((1 : Int32).toUInt32 &&& Int32.toUInt32 31)).toInt32) &&& (1431655765 : Int32))).toUInt32 >>> ((2 : Int32).toUInt32 &&& Int32.toUInt32 31)).toInt32) &&& (858993459 : Int32))).toUInt32 >>> ((4 : Int32).toUInt32 &&& Int32.toUInt32 31)).toInt32)) &&& (252645135 : Int32)).toUInt32 >>> ((8 : Int32).toUInt32 &&& Int32.toUInt32 31)).toInt32)).toUInt32 >>> ((16 : Int32).toUInt32 &&& Int32.toUInt32 31)).toInt32)) &&& (63 : Int32) = V := hv
  refine r_iln C dJ6_bitCount_0f7a4_0 rfl 0 rfl ?_
  refine r_iln C dJ6_bitCount_0f7a4_1 rfl 0 rfl ?_
  refine r_ic C (v := (1 : Int32)) dJ6_bitCount_0f7a4_2 (by decide) ?_
  refine r_iushr C dJ6_bitCount_0f7a4_3 ?_
  refine r_ldcw C wc_J6_265 dJ6_bitCount_0f7a4_4 ?_
  refine r_iand C dJ6_bitCount_0f7a4_7 ?_
  refine r_isub C dJ6_bitCount_0f7a4_8 ?_
  refine r_isn C (lv' := [(0, .int (i - (((i.toUInt32 >>> ((1 : Int32).toUInt32 &&& Int32.toUInt32 31)).toInt32) &&& (1431655765 : Int32))))]) dJ6_bitCount_0f7a4_9 rfl (by decide) rfl ?_
  refine r_iln C dJ6_bitCount_0f7a4_10 rfl 0 rfl ?_
  refine r_ldcw C wc_J6_266 dJ6_bitCount_0f7a4_11 ?_
  refine r_iand C dJ6_bitCount_0f7a4_14 ?_
  refine r_iln C dJ6_bitCount_0f7a4_15 rfl 0 rfl ?_
  refine r_ic C (v := (2 : Int32)) dJ6_bitCount_0f7a4_16 (by decide) ?_
  refine r_iushr C dJ6_bitCount_0f7a4_17 ?_
  refine r_ldcw C wc_J6_266 dJ6_bitCount_0f7a4_18 ?_
  refine r_iand C dJ6_bitCount_0f7a4_21 ?_
  refine r_iadd C dJ6_bitCount_0f7a4_22 ?_
  refine r_isn C (lv' := [(0, .int (((i - (((i.toUInt32 >>> ((1 : Int32).toUInt32 &&& Int32.toUInt32 31)).toInt32) &&& (1431655765 : Int32))) &&& (858993459 : Int32)) + ((((i - (((i.toUInt32 >>> ((1 : Int32).toUInt32 &&& Int32.toUInt32 31)).toInt32) &&& (1431655765 : Int32))).toUInt32 >>> ((2 : Int32).toUInt32 &&& Int32.toUInt32 31)).toInt32) &&& (858993459 : Int32))))]) dJ6_bitCount_0f7a4_23 rfl (by decide) rfl ?_
  refine r_iln C dJ6_bitCount_0f7a4_24 rfl 0 rfl ?_
  refine r_iln C dJ6_bitCount_0f7a4_25 rfl 0 rfl ?_
  refine r_ic C (v := (4 : Int32)) dJ6_bitCount_0f7a4_26 (by decide) ?_
  refine r_iushr C dJ6_bitCount_0f7a4_27 ?_
  refine r_iadd C dJ6_bitCount_0f7a4_28 ?_
  refine r_ldcw C wc_J6_267 dJ6_bitCount_0f7a4_29 ?_
  refine r_iand C dJ6_bitCount_0f7a4_32 ?_
  refine r_isn C (lv' := [(0, .int (((((i - (((i.toUInt32 >>> ((1 : Int32).toUInt32 &&& Int32.toUInt32 31)).toInt32) &&& (1431655765 : Int32))) &&& (858993459 : Int32)) + ((((i - (((i.toUInt32 >>> ((1 : Int32).toUInt32 &&& Int32.toUInt32 31)).toInt32) &&& (1431655765 : Int32))).toUInt32 >>> ((2 : Int32).toUInt32 &&& Int32.toUInt32 31)).toInt32) &&& (858993459 : Int32))) + (((((i - (((i.toUInt32 >>> ((1 : Int32).toUInt32 &&& Int32.toUInt32 31)).toInt32) &&& (1431655765 : Int32))) &&& (858993459 : Int32)) + ((((i - (((i.toUInt32 >>> ((1 : Int32).toUInt32 &&& Int32.toUInt32 31)).toInt32) &&& (1431655765 : Int32))).toUInt32 >>> ((2 : Int32).toUInt32 &&& Int32.toUInt32 31)).toInt32) &&& (858993459 : Int32))).toUInt32 >>> ((4 : Int32).toUInt32 &&& Int32.toUInt32 31)).toInt32)) &&& (252645135 : Int32)))]) dJ6_bitCount_0f7a4_33 rfl (by decide) rfl ?_
  refine r_iln C dJ6_bitCount_0f7a4_34 rfl 0 rfl ?_
  refine r_iln C dJ6_bitCount_0f7a4_35 rfl 0 rfl ?_
  refine r_bp C (v := (8 : Int32)) dJ6_bitCount_0f7a4_36 (by decide) ?_
  refine r_iushr C dJ6_bitCount_0f7a4_38 ?_
  refine r_iadd C dJ6_bitCount_0f7a4_39 ?_
  refine r_isn C (lv' := [(0, .int ((((((i - (((i.toUInt32 >>> ((1 : Int32).toUInt32 &&& Int32.toUInt32 31)).toInt32) &&& (1431655765 : Int32))) &&& (858993459 : Int32)) + ((((i - (((i.toUInt32 >>> ((1 : Int32).toUInt32 &&& Int32.toUInt32 31)).toInt32) &&& (1431655765 : Int32))).toUInt32 >>> ((2 : Int32).toUInt32 &&& Int32.toUInt32 31)).toInt32) &&& (858993459 : Int32))) + (((((i - (((i.toUInt32 >>> ((1 : Int32).toUInt32 &&& Int32.toUInt32 31)).toInt32) &&& (1431655765 : Int32))) &&& (858993459 : Int32)) + ((((i - (((i.toUInt32 >>> ((1 : Int32).toUInt32 &&& Int32.toUInt32 31)).toInt32) &&& (1431655765 : Int32))).toUInt32 >>> ((2 : Int32).toUInt32 &&& Int32.toUInt32 31)).toInt32) &&& (858993459 : Int32))).toUInt32 >>> ((4 : Int32).toUInt32 &&& Int32.toUInt32 31)).toInt32)) &&& (252645135 : Int32)) + (((((((i - (((i.toUInt32 >>> ((1 : Int32).toUInt32 &&& Int32.toUInt32 31)).toInt32) &&& (1431655765 : Int32))) &&& (858993459 : Int32)) + ((((i - (((i.toUInt32 >>> ((1 : Int32).toUInt32 &&& Int32.toUInt32 31)).toInt32) &&& (1431655765 : Int32))).toUInt32 >>> ((2 : Int32).toUInt32 &&& Int32.toUInt32 31)).toInt32) &&& (858993459 : Int32))) + (((((i - (((i.toUInt32 >>> ((1 : Int32).toUInt32 &&& Int32.toUInt32 31)).toInt32) &&& (1431655765 : Int32))) &&& (858993459 : Int32)) + ((((i - (((i.toUInt32 >>> ((1 : Int32).toUInt32 &&& Int32.toUInt32 31)).toInt32) &&& (1431655765 : Int32))).toUInt32 >>> ((2 : Int32).toUInt32 &&& Int32.toUInt32 31)).toInt32) &&& (858993459 : Int32))).toUInt32 >>> ((4 : Int32).toUInt32 &&& Int32.toUInt32 31)).toInt32)) &&& (252645135 : Int32)).toUInt32 >>> ((8 : Int32).toUInt32 &&& Int32.toUInt32 31)).toInt32)))]) dJ6_bitCount_0f7a4_40 rfl (by decide) rfl ?_
  refine r_iln C dJ6_bitCount_0f7a4_41 rfl 0 rfl ?_
  refine r_iln C dJ6_bitCount_0f7a4_42 rfl 0 rfl ?_
  refine r_bp C (v := (16 : Int32)) dJ6_bitCount_0f7a4_43 (by decide) ?_
  refine r_iushr C dJ6_bitCount_0f7a4_45 ?_
  refine r_iadd C dJ6_bitCount_0f7a4_46 ?_
  refine r_isn C (lv' := [(0, .int (((((((i - (((i.toUInt32 >>> ((1 : Int32).toUInt32 &&& Int32.toUInt32 31)).toInt32) &&& (1431655765 : Int32))) &&& (858993459 : Int32)) + ((((i - (((i.toUInt32 >>> ((1 : Int32).toUInt32 &&& Int32.toUInt32 31)).toInt32) &&& (1431655765 : Int32))).toUInt32 >>> ((2 : Int32).toUInt32 &&& Int32.toUInt32 31)).toInt32) &&& (858993459 : Int32))) + (((((i - (((i.toUInt32 >>> ((1 : Int32).toUInt32 &&& Int32.toUInt32 31)).toInt32) &&& (1431655765 : Int32))) &&& (858993459 : Int32)) + ((((i - (((i.toUInt32 >>> ((1 : Int32).toUInt32 &&& Int32.toUInt32 31)).toInt32) &&& (1431655765 : Int32))).toUInt32 >>> ((2 : Int32).toUInt32 &&& Int32.toUInt32 31)).toInt32) &&& (858993459 : Int32))).toUInt32 >>> ((4 : Int32).toUInt32 &&& Int32.toUInt32 31)).toInt32)) &&& (252645135 : Int32)) + (((((((i - (((i.toUInt32 >>> ((1 : Int32).toUInt32 &&& Int32.toUInt32 31)).toInt32) &&& (1431655765 : Int32))) &&& (858993459 : Int32)) + ((((i - (((i.toUInt32 >>> ((1 : Int32).toUInt32 &&& Int32.toUInt32 31)).toInt32) &&& (1431655765 : Int32))).toUInt32 >>> ((2 : Int32).toUInt32 &&& Int32.toUInt32 31)).toInt32) &&& (858993459 : Int32))) + (((((i - (((i.toUInt32 >>> ((1 : Int32).toUInt32 &&& Int32.toUInt32 31)).toInt32) &&& (1431655765 : Int32))) &&& (858993459 : Int32)) + ((((i - (((i.toUInt32 >>> ((1 : Int32).toUInt32 &&& Int32.toUInt32 31)).toInt32) &&& (1431655765 : Int32))).toUInt32 >>> ((2 : Int32).toUInt32 &&& Int32.toUInt32 31)).toInt32) &&& (858993459 : Int32))).toUInt32 >>> ((4 : Int32).toUInt32 &&& Int32.toUInt32 31)).toInt32)) &&& (252645135 : Int32)).toUInt32 >>> ((8 : Int32).toUInt32 &&& Int32.toUInt32 31)).toInt32)) + ((((((((i - (((i.toUInt32 >>> ((1 : Int32).toUInt32 &&& Int32.toUInt32 31)).toInt32) &&& (1431655765 : Int32))) &&& (858993459 : Int32)) + ((((i - (((i.toUInt32 >>> ((1 : Int32).toUInt32 &&& Int32.toUInt32 31)).toInt32) &&& (1431655765 : Int32))).toUInt32 >>> ((2 : Int32).toUInt32 &&& Int32.toUInt32 31)).toInt32) &&& (858993459 : Int32))) + (((((i - (((i.toUInt32 >>> ((1 : Int32).toUInt32 &&& Int32.toUInt32 31)).toInt32) &&& (1431655765 : Int32))) &&& (858993459 : Int32)) + ((((i - (((i.toUInt32 >>> ((1 : Int32).toUInt32 &&& Int32.toUInt32 31)).toInt32) &&& (1431655765 : Int32))).toUInt32 >>> ((2 : Int32).toUInt32 &&& Int32.toUInt32 31)).toInt32) &&& (858993459 : Int32))).toUInt32 >>> ((4 : Int32).toUInt32 &&& Int32.toUInt32 31)).toInt32)) &&& (252645135 : Int32)) + (((((((i - (((i.toUInt32 >>> ((1 : Int32).toUInt32 &&& Int32.toUInt32 31)).toInt32) &&& (1431655765 : Int32))) &&& (858993459 : Int32)) + ((((i - (((i.toUInt32 >>> ((1 : Int32).toUInt32 &&& Int32.toUInt32 31)).toInt32) &&& (1431655765 : Int32))).toUInt32 >>> ((2 : Int32).toUInt32 &&& Int32.toUInt32 31)).toInt32) &&& (858993459 : Int32))) + (((((i - (((i.toUInt32 >>> ((1 : Int32).toUInt32 &&& Int32.toUInt32 31)).toInt32) &&& (1431655765 : Int32))) &&& (858993459 : Int32)) + ((((i - (((i.toUInt32 >>> ((1 : Int32).toUInt32 &&& Int32.toUInt32 31)).toInt32) &&& (1431655765 : Int32))).toUInt32 >>> ((2 : Int32).toUInt32 &&& Int32.toUInt32 31)).toInt32) &&& (858993459 : Int32))).toUInt32 >>> ((4 : Int32).toUInt32 &&& Int32.toUInt32 31)).toInt32)) &&& (252645135 : Int32)).toUInt32 >>> ((8 : Int32).toUInt32 &&& Int32.toUInt32 31)).toInt32)).toUInt32 >>> ((16 : Int32).toUInt32 &&& Int32.toUInt32 31)).toInt32)))]) dJ6_bitCount_0f7a4_47 rfl (by decide) rfl ?_
  refine r_iln C dJ6_bitCount_0f7a4_48 rfl 0 rfl ?_
  refine r_bp C (v := (63 : Int32)) dJ6_bitCount_0f7a4_49 (by decide) ?_
  refine r_iand C dJ6_bitCount_0f7a4_51 ?_
  exact r_iret rfl C (congrArg (fun z => some (Value.int z)) hv) rfl dJ6_bitCount_0f7a4_52

def s_X5_has (n : Nat) (deed : Int32) : Int32 := (if deed < (0 : Int32) then (0 : Int32) else (if deed < nI n then (1 : Int32) else (0 : Int32)))
set_option maxHeartbeats 8000000 in
set_option maxRecDepth 100000 in
theorem c_X5_has (l : Launch) (D : va_G) (h : Nat) (a1 : Nat) (a2 : Nat) (a3 : Nat) (a4 : Nat) (a5 : Nat) (a6 : Nat) (pe : Nat) (n : Nat) (td : Int32) (ys : Int32) (la : Int32) (ri : Int32) (kd : Nat → Int32) (dy : Nat → Int32) (nd : Nat → Int32) (co : Nat → Int32) (od : Nat → Int32) (wo : Nat → Int32) (deed : Int32) : ct l yX5_has cX5_has 2 (some .boolean) 0 0 D [.ref h, .int deed] (wY D h a1 a2 a3 a4 a5 a6 pe n td ys la ri kd dy nd co od wo) (wY D h a1 a2 a3 a4 a5 a6 pe n td ys la ri kd dy nd co od wo) (fun _ => False) (some (Value.int (s_X5_has n deed))) := by
  obtain ⟨V, hv⟩ : ∃ V, s_X5_has n deed = V := ⟨_, rfl⟩
  rw [hv]
  refine ct_intro (own := RX5) (lv := [(0, .ref h), (1, .int deed)]) (by decide) rfl (Nat.le_of_ble_eq_true rfl) rfl ?_
  intro p_ e_ s_ m_ below_ meth_ c_ C
  have hv : (if deed < (0 : Int32) then (0 : Int32) else (if deed < nI n then (1 : Int32) else (0 : Int32))) = V := hv
  refine r_iln C dX5_has_0 rfl 1 rfl ?_
  refine r_iflt C (tgt := 16) dX5_has_1 (by decide) (fun c1 => ?_) (fun c1 => ?_)
  · rw [if_pos c1] at hv
    refine r_ic C (v := (0 : Int32)) dX5_has_16 (by decide) ?_
    exact r_zret rfl C rfl (congrArg (fun z => some (Value.int z)) hv) rfl dX5_has_17
  · rw [if_neg c1] at hv
    refine r_iln C dX5_has_4 rfl 1 rfl ?_
    refine r_aln C dX5_has_5 rfl 0 rfl ?_
    refine gf_X5_15 C 0 rfl rfl dX5_has_6 ?_
    refine r_icge C (tgt := 16) dX5_has_9 (by decide) (fun c2 => ?_) (fun c2 => ?_)
    · rw [if_neg c2] at hv
      refine r_ic C (v := (0 : Int32)) dX5_has_16 (by decide) ?_
      exact r_zret rfl C rfl (congrArg (fun z => some (Value.int z)) hv) rfl dX5_has_17
    · rw [if_pos c2] at hv
      refine r_ic C (v := (1 : Int32)) dX5_has_12 (by decide) ?_
      refine r_goto C (tgt := 17) dX5_has_13 (by decide) ?_
      exact r_zret rfl C rfl (congrArg (fun z => some (Value.int z)) hv) rfl dX5_has_17

def s_X5_isPerson (pe : Nat) (person : Int32) : Int32 := (if person < (0 : Int32) then (0 : Int32) else (if person < nI pe then (1 : Int32) else (0 : Int32)))
set_option maxHeartbeats 8000000 in
set_option maxRecDepth 100000 in
theorem c_X5_isPerson (l : Launch) (D : va_G) (h : Nat) (a1 : Nat) (a2 : Nat) (a3 : Nat) (a4 : Nat) (a5 : Nat) (a6 : Nat) (pe : Nat) (n : Nat) (td : Int32) (ys : Int32) (la : Int32) (ri : Int32) (kd : Nat → Int32) (dy : Nat → Int32) (nd : Nat → Int32) (co : Nat → Int32) (od : Nat → Int32) (wo : Nat → Int32) (person : Int32) : ct l yX5_isPerson cX5_isPerson 2 (some .boolean) 0 0 D [.ref h, .int person] (wY D h a1 a2 a3 a4 a5 a6 pe n td ys la ri kd dy nd co od wo) (wY D h a1 a2 a3 a4 a5 a6 pe n td ys la ri kd dy nd co od wo) (fun _ => False) (some (Value.int (s_X5_isPerson pe person))) := by
  obtain ⟨V, hv⟩ : ∃ V, s_X5_isPerson pe person = V := ⟨_, rfl⟩
  rw [hv]
  refine ct_intro (own := RX5) (lv := [(0, .ref h), (1, .int person)]) (by decide) rfl (Nat.le_of_ble_eq_true rfl) rfl ?_
  intro p_ e_ s_ m_ below_ meth_ c_ C
  have hv : (if person < (0 : Int32) then (0 : Int32) else (if person < nI pe then (1 : Int32) else (0 : Int32))) = V := hv
  refine r_iln C dX5_isPerson_0 rfl 1 rfl ?_
  refine r_iflt C (tgt := 16) dX5_isPerson_1 (by decide) (fun c1 => ?_) (fun c1 => ?_)
  · rw [if_pos c1] at hv
    refine r_ic C (v := (0 : Int32)) dX5_isPerson_16 (by decide) ?_
    exact r_zret rfl C rfl (congrArg (fun z => some (Value.int z)) hv) rfl dX5_isPerson_17
  · rw [if_neg c1] at hv
    refine r_iln C dX5_isPerson_4 rfl 1 rfl ?_
    refine r_aln C dX5_isPerson_5 rfl 0 rfl ?_
    refine gf_X5_9 C 0 rfl rfl dX5_isPerson_6 ?_
    refine r_icge C (tgt := 16) dX5_isPerson_9 (by decide) (fun c2 => ?_) (fun c2 => ?_)
    · rw [if_neg c2] at hv
      refine r_ic C (v := (0 : Int32)) dX5_isPerson_16 (by decide) ?_
      exact r_zret rfl C rfl (congrArg (fun z => some (Value.int z)) hv) rfl dX5_isPerson_17
    · rw [if_pos c2] at hv
      refine r_ic C (v := (1 : Int32)) dX5_isPerson_12 (by decide) ?_
      refine r_goto C (tgt := 17) dX5_isPerson_13 (by decide) ?_
      exact r_zret rfl C rfl (congrArg (fun z => some (Value.int z)) hv) rfl dX5_isPerson_17

def s_X5_all (n : Nat) : Int32 := ((1 : Int32) <<< ((nI n) &&& 31)) - (1 : Int32)
set_option maxHeartbeats 8000000 in
set_option maxRecDepth 100000 in
theorem c_X5_all (l : Launch) (D : va_G) (h : Nat) (a1 : Nat) (a2 : Nat) (a3 : Nat) (a4 : Nat) (a5 : Nat) (a6 : Nat) (pe : Nat) (n : Nat) (td : Int32) (ys : Int32) (la : Int32) (ri : Int32) (kd : Nat → Int32) (dy : Nat → Int32) (nd : Nat → Int32) (co : Nat → Int32) (od : Nat → Int32) (wo : Nat → Int32) : ct l yX5_all cX5_all 1 (some .int) 0 0 D [.ref h] (wY D h a1 a2 a3 a4 a5 a6 pe n td ys la ri kd dy nd co od wo) (wY D h a1 a2 a3 a4 a5 a6 pe n td ys la ri kd dy nd co od wo) (fun _ => False) (some (Value.int (s_X5_all n))) := by
  obtain ⟨V, hv⟩ : ∃ V, s_X5_all n = V := ⟨_, rfl⟩
  rw [hv]
  refine ct_intro (own := RX5) (lv := [(0, .ref h)]) (by decide) rfl (Nat.le_of_ble_eq_true rfl) rfl ?_
  intro p_ e_ s_ m_ below_ meth_ c_ C
  have hv : ((1 : Int32) <<< ((nI n) &&& 31)) - (1 : Int32) = V := hv
  refine r_ic C (v := (1 : Int32)) dX5_all_0 (by decide) ?_
  refine r_aln C dX5_all_1 rfl 0 rfl ?_
  refine gf_X5_15 C 0 rfl rfl dX5_all_2 ?_
  refine r_ishl C dX5_all_5 ?_
  refine r_ic C (v := (1 : Int32)) dX5_all_6 (by decide) ?_
  refine r_isub C dX5_all_7 ?_
  exact r_iret rfl C (congrArg (fun z => some (Value.int z)) hv) rfl dX5_all_8

def s_X5_ofDay_L4 (dy : Nat → Int32) (told : Int32) : Nat → Nat → Int32 → Int32
  | 0, _, set_3 => set_3
  | k1 + 1, d2, set_3 => (if dy d2 = told then (s_X5_ofDay_L4 dy told k1 (d2 + 1) (set_3 ||| ((1 : Int32) <<< ((nI d2) &&& 31)))) else (s_X5_ofDay_L4 dy told k1 (d2 + 1) set_3))
def s_X5_ofDay (n : Nat) (dy : Nat → Int32) (told : Int32) : Int32 := (s_X5_ofDay_L4 dy told n 0 (0 : Int32))
set_option maxHeartbeats 8000000 in
set_option maxRecDepth 100000 in
theorem c_X5_ofDay (l : Launch) (D : va_G) (h : Nat) (a1 : Nat) (a2 : Nat) (a3 : Nat) (a4 : Nat) (a5 : Nat) (a6 : Nat) (pe : Nat) (n : Nat) (td : Int32) (ys : Int32) (la : Int32) (ri : Int32) (kd : Nat → Int32) (dy : Nat → Int32) (nd : Nat → Int32) (co : Nat → Int32) (od : Nat → Int32) (wo : Nat → Int32) (told : Int32) (hn : n ≤ 12) : ct l yX5_ofDay cX5_ofDay 4 (some .int) 0 0 D [.ref h, .int told] (wY D h a1 a2 a3 a4 a5 a6 pe n td ys la ri kd dy nd co od wo) (wY D h a1 a2 a3 a4 a5 a6 pe n td ys la ri kd dy nd co od wo) (fun _ => False) (some (Value.int (s_X5_ofDay n dy told))) := by
  obtain ⟨V, hv⟩ : ∃ V, s_X5_ofDay n dy told = V := ⟨_, rfl⟩
  rw [hv]
  refine ct_intro (own := RX5) (lv := [(0, .ref h), (1, .int told)]) (by decide) rfl (Nat.le_of_ble_eq_true rfl) rfl ?_
  intro p_ e_ s_ m_ below_ meth_ c_ C
  have hv : (s_X5_ofDay_L4 dy told n 0 (0 : Int32)) = V := hv
  refine r_ic C (v := (0 : Int32)) dX5_ofDay_0 (by decide) ?_
  refine r_isn C (lv' := [(2, .int (0 : Int32)), (0, .ref h), (1, .int told)]) dX5_ofDay_1 rfl (by decide) rfl ?_
  refine r_ic C (v := (0 : Int32)) dX5_ofDay_2 (by decide) ?_
  refine r_isn C (lv' := [(3, .int (0 : Int32)), (2, .int (0 : Int32)), (0, .ref h), (1, .int told)]) dX5_ofDay_3 rfl (by decide) rfl ?_
  have L8 : ∀ (k1 : Nat) (d2 : Nat) (set_3 : Int32), (d2 + k1 = n) → (s_X5_ofDay_L4 dy told k1 d2 set_3) = V → GM p_ l e_ s_ m_ below_ meth_ c_ D 0 0 4 [.ref h, .int told] (wY D h a1 a2 a3 a4 a5 a6 pe n td ys la ri kd dy nd co od wo) (fun _ => False) (some (Value.int V)) (wY D h a1 a2 a3 a4 a5 a6 pe n td ys la ri kd dy nd co od wo) 4 [(3, .int (nI d2)), (2, .int set_3), (0, .ref h), (1, .int told)] [] := by
    intro k1
    induction k1 with
    | zero =>
      intro d2 set_3 hk hv
      have hv : set_3 = V := hv
      refine r_iln C dX5_ofDay_4 rfl 0 rfl ?_
      refine r_aln C dX5_ofDay_5 rfl 2 rfl ?_
      refine gf_X5_15 C 0 rfl rfl dX5_ofDay_6 ?_
      refine r_icge C (tgt := 34) dX5_ofDay_9 (by decide) (fun c4 => ?_) (fun c4 => ?_)
      · skip
        refine r_iln C dX5_ofDay_34 rfl 1 rfl ?_
        exact r_iret rfl C (congrArg (fun z => some (Value.int z)) hv) rfl dX5_ofDay_35
      · exact absurd c4 (fun z => absurd ((nv_lt (a := d2) (b := n) rfl rfl (by omega) (by omega)).mp z) (by omega))
    | succ k1 ih5 =>
      intro d2 set_3 hk hv
      have hv : (if dy d2 = told then (s_X5_ofDay_L4 dy told k1 (d2 + 1) (set_3 ||| ((1 : Int32) <<< ((nI d2) &&& 31)))) else (s_X5_ofDay_L4 dy told k1 (d2 + 1) set_3)) = V := hv
      refine r_iln C dX5_ofDay_4 rfl 0 rfl ?_
      refine r_aln C dX5_ofDay_5 rfl 2 rfl ?_
      refine gf_X5_15 C 0 rfl rfl dX5_ofDay_6 ?_
      refine r_icge C (tgt := 34) dX5_ofDay_9 (by decide) (fun c6 => ?_) (fun c6 => ?_)
      · exact absurd ((nv_lt (a := d2) (b := n) rfl rfl (by omega) (by omega)).mpr (by omega)) c6
      · skip
        refine r_aln C dX5_ofDay_12 rfl 2 rfl ?_
        refine gf_X5_34 C 0 rfl rfl dX5_ofDay_13 ?_
        refine r_iln C dX5_ofDay_16 rfl 0 rfl ?_
        refine r_iald C 2 d2 rfl rfl (by omega) (by decide) rfl dX5_ofDay_17 ?_
        refine r_iln C dX5_ofDay_18 rfl 3 rfl ?_
        refine r_icne C (tgt := 28) dX5_ofDay_19 (by decide) (fun c7 => ?_) (fun c7 => ?_)
        · rw [if_neg c7] at hv
          refine r_inc C (v := nI (d2 + 1)) (lv' := [(3, .int (nI (d2 + 1))), (2, .int set_3), (0, .ref h), (1, .int told)]) dX5_ofDay_28 0 rfl (inc_nI d2) (by decide) rfl ?_
          refine r_goto C (tgt := 4) dX5_ofDay_31 (by decide) ?_
          exact ih5 (d2 + 1) set_3 (by omega) hv
        · rw [if_pos c7] at hv
          refine r_iln C dX5_ofDay_22 rfl 1 rfl ?_
          refine r_ic C (v := (1 : Int32)) dX5_ofDay_23 (by decide) ?_
          refine r_iln C dX5_ofDay_24 rfl 0 rfl ?_
          refine r_ishl C dX5_ofDay_25 ?_
          refine r_ior C dX5_ofDay_26 ?_
          refine r_isn C (lv' := [(2, .int (set_3 ||| ((1 : Int32) <<< ((nI d2) &&& 31)))), (3, .int (nI d2)), (0, .ref h), (1, .int told)]) dX5_ofDay_27 rfl (by decide) rfl ?_
          refine r_inc C (v := nI (d2 + 1)) (lv' := [(3, .int (nI (d2 + 1))), (2, .int (set_3 ||| ((1 : Int32) <<< ((nI d2) &&& 31)))), (0, .ref h), (1, .int told)]) dX5_ofDay_28 1 rfl (inc_nI d2) (by decide) rfl ?_
          refine r_goto C (tgt := 4) dX5_ofDay_31 (by decide) ?_
          exact ih5 (d2 + 1) (set_3 ||| ((1 : Int32) <<< ((nI d2) &&& 31))) (by omega) hv
  refine r_lve (lv2 := [(3, .int (nI 0)), (2, .int (0 : Int32)), (0, .ref h), (1, .int told)]) (congrArg (fun (z : Int32) => ([(3, .int z), (2, .int (0 : Int32)), (0, .ref h), (1, .int told)] : List (Nat × Value))) rfl) ?_
  exact L8 n 0 (0 : Int32) (by omega) hv

def s_X5_needable_L5 (dy : Nat → Int32) (day : Int32) : Nat → Nat → Int32 → Int32
  | 0, _, set_3 => set_3
  | k1 + 1, d2, set_3 => (if day < dy d2 then (s_X5_needable_L5 dy day k1 (d2 + 1) set_3) else (s_X5_needable_L5 dy day k1 (d2 + 1) (set_3 ||| ((1 : Int32) <<< ((nI d2) &&& 31)))))
def s_X5_needable (dy : Nat → Int32) (number : Nat) (day : Int32) : Int32 := (s_X5_needable_L5 dy day number 0 (0 : Int32))
set_option maxHeartbeats 8000000 in
set_option maxRecDepth 100000 in
theorem c_X5_needable (l : Launch) (D : va_G) (h : Nat) (a1 : Nat) (a2 : Nat) (a3 : Nat) (a4 : Nat) (a5 : Nat) (a6 : Nat) (pe : Nat) (n : Nat) (td : Int32) (ys : Int32) (la : Int32) (ri : Int32) (kd : Nat → Int32) (dy : Nat → Int32) (nd : Nat → Int32) (co : Nat → Int32) (od : Nat → Int32) (wo : Nat → Int32) (number : Nat) (day : Int32) (hn : n ≤ 12) (hd : number ≤ n) : ct l yX5_needable cX5_needable 5 (some .int) 0 0 D [.ref h, .int (nI number), .int day] (wY D h a1 a2 a3 a4 a5 a6 pe n td ys la ri kd dy nd co od wo) (wY D h a1 a2 a3 a4 a5 a6 pe n td ys la ri kd dy nd co od wo) (fun _ => False) (some (Value.int (s_X5_needable dy number day))) := by
  obtain ⟨V, hv⟩ : ∃ V, s_X5_needable dy number day = V := ⟨_, rfl⟩
  rw [hv]
  refine ct_intro (own := RX5) (lv := [(0, .ref h), (1, .int (nI number)), (2, .int day)]) (by decide) rfl (Nat.le_of_ble_eq_true rfl) rfl ?_
  intro p_ e_ s_ m_ below_ meth_ c_ C
  have hv : (s_X5_needable_L5 dy day number 0 (0 : Int32)) = V := hv
  refine r_ic C (v := (0 : Int32)) dX5_needable_0 (by decide) ?_
  refine r_isn C (lv' := [(3, .int (0 : Int32)), (0, .ref h), (1, .int (nI number)), (2, .int day)]) dX5_needable_1 rfl (by decide) rfl ?_
  refine r_ic C (v := (0 : Int32)) dX5_needable_2 (by decide) ?_
  refine r_is C (lv' := [(4, .int (0 : Int32)), (3, .int (0 : Int32)), (0, .ref h), (1, .int (nI number)), (2, .int day)]) dX5_needable_3 (by decide) rfl ?_
  have L9 : ∀ (k1 : Nat) (d2 : Nat) (set_3 : Int32), (d2 + k1 = number) → (s_X5_needable_L5 dy day k1 d2 set_3) = V → GM p_ l e_ s_ m_ below_ meth_ c_ D 0 0 5 [.ref h, .int (nI number), .int day] (wY D h a1 a2 a3 a4 a5 a6 pe n td ys la ri kd dy nd co od wo) (fun _ => False) (some (Value.int V)) (wY D h a1 a2 a3 a4 a5 a6 pe n td ys la ri kd dy nd co od wo) 5 [(4, .int (nI d2)), (3, .int set_3), (0, .ref h), (1, .int (nI number)), (2, .int day)] [] := by
    intro k1
    induction k1 with
    | zero =>
      intro d2 set_3 hk hv
      have hv : set_3 = V := hv
      refine r_il C dX5_needable_5 0 rfl ?_
      refine r_iln C dX5_needable_7 rfl 3 rfl ?_
      refine r_icge C (tgt := 44) dX5_needable_8 (by decide) (fun c4 => ?_) (fun c4 => ?_)
      · skip
        refine r_iln C dX5_needable_44 rfl 1 rfl ?_
        exact r_iret rfl C (congrArg (fun z => some (Value.int z)) hv) rfl dX5_needable_45
      · exact absurd c4 (fun z => absurd ((nv_lt (a := d2) (b := number) rfl rfl (by omega) (by omega)).mp z) (by omega))
    | succ k1 ih5 =>
      intro d2 set_3 hk hv
      have hv : (if day < dy d2 then (s_X5_needable_L5 dy day k1 (d2 + 1) set_3) else (s_X5_needable_L5 dy day k1 (d2 + 1) (set_3 ||| ((1 : Int32) <<< ((nI d2) &&& 31))))) = V := hv
      refine r_il C dX5_needable_5 0 rfl ?_
      refine r_iln C dX5_needable_7 rfl 3 rfl ?_
      refine r_icge C (tgt := 44) dX5_needable_8 (by decide) (fun c6 => ?_) (fun c6 => ?_)
      · exact absurd ((nv_lt (a := d2) (b := number) rfl rfl (by omega) (by omega)).mpr (by omega)) c6
      · skip
        refine r_il C dX5_needable_11 0 rfl ?_
        refine r_aln C dX5_needable_13 rfl 2 rfl ?_
        refine gf_X5_15 C 0 rfl rfl dX5_needable_14 ?_
        refine r_icge C (tgt := 44) dX5_needable_17 (by decide) (fun c7 => ?_) (fun c7 => ?_)
        · exact absurd ((nv_lt rfl rfl (by omega) (by omega)).mpr (by omega)) c7
        · skip
          refine r_aln C dX5_needable_20 rfl 2 rfl ?_
          refine gf_X5_34 C 0 rfl rfl dX5_needable_21 ?_
          refine r_il C dX5_needable_24 0 rfl ?_
          refine r_iald C 2 d2 rfl rfl (by omega) (by decide) rfl dX5_needable_26 ?_
          refine r_iln C dX5_needable_27 rfl 4 rfl ?_
          refine r_icgt C (tgt := 38) dX5_needable_28 (by decide) (fun c8 => ?_) (fun c8 => ?_)
          · rw [if_pos c8] at hv
            refine r_inc C (v := nI (d2 + 1)) (lv' := [(4, .int (nI (d2 + 1))), (3, .int set_3), (0, .ref h), (1, .int (nI number)), (2, .int day)]) dX5_needable_38 0 rfl (inc_nI d2) (by decide) rfl ?_
            refine r_goto C (tgt := 5) dX5_needable_41 (by decide) ?_
            exact ih5 (d2 + 1) set_3 (by omega) hv
          · rw [if_neg c8] at hv
            refine r_iln C dX5_needable_31 rfl 1 rfl ?_
            refine r_ic C (v := (1 : Int32)) dX5_needable_32 (by decide) ?_
            refine r_il C dX5_needable_33 0 rfl ?_
            refine r_ishl C dX5_needable_35 ?_
            refine r_ior C dX5_needable_36 ?_
            refine r_isn C (lv' := [(3, .int (set_3 ||| ((1 : Int32) <<< ((nI d2) &&& 31)))), (4, .int (nI d2)), (0, .ref h), (1, .int (nI number)), (2, .int day)]) dX5_needable_37 rfl (by decide) rfl ?_
            refine r_inc C (v := nI (d2 + 1)) (lv' := [(4, .int (nI (d2 + 1))), (3, .int (set_3 ||| ((1 : Int32) <<< ((nI d2) &&& 31)))), (0, .ref h), (1, .int (nI number)), (2, .int day)]) dX5_needable_38 1 rfl (inc_nI d2) (by decide) rfl ?_
            refine r_goto C (tgt := 5) dX5_needable_41 (by decide) ?_
            exact ih5 (d2 + 1) (set_3 ||| ((1 : Int32) <<< ((nI d2) &&& 31))) (by omega) hv
  refine r_lve (lv2 := [(4, .int (nI 0)), (3, .int (0 : Int32)), (0, .ref h), (1, .int (nI number)), (2, .int day)]) (congrArg (fun (z : Int32) => ([(4, .int z), (3, .int (0 : Int32)), (0, .ref h), (1, .int (nI number)), (2, .int day)] : List (Nat × Value))) rfl) ?_
  exact L9 number 0 (0 : Int32) (by omega) hv

def s_X5_worthTo (wo : Nat → Int32) (deed : Nat) (person : Nat) : Int32 := wo ((deed * 4) + person)
set_option maxHeartbeats 8000000 in
set_option maxRecDepth 100000 in
theorem c_X5_worthTo (l : Launch) (D : va_G) (h : Nat) (a1 : Nat) (a2 : Nat) (a3 : Nat) (a4 : Nat) (a5 : Nat) (a6 : Nat) (pe : Nat) (n : Nat) (td : Int32) (ys : Int32) (la : Int32) (ri : Int32) (kd : Nat → Int32) (dy : Nat → Int32) (nd : Nat → Int32) (co : Nat → Int32) (od : Nat → Int32) (wo : Nat → Int32) (deed : Nat) (person : Nat) (hd : deed < 12) (hp : person < 4) : ct l yX5_worthTo cX5_worthTo 3 (some .int) 0 0 D [.ref h, .int (nI deed), .int (nI person)] (wY D h a1 a2 a3 a4 a5 a6 pe n td ys la ri kd dy nd co od wo) (wY D h a1 a2 a3 a4 a5 a6 pe n td ys la ri kd dy nd co od wo) (fun _ => False) (some (Value.int (s_X5_worthTo wo deed person))) := by
  obtain ⟨V, hv⟩ : ∃ V, s_X5_worthTo wo deed person = V := ⟨_, rfl⟩
  rw [hv]
  refine ct_intro (own := RX5) (lv := [(0, .ref h), (1, .int (nI deed)), (2, .int (nI person))]) (by decide) rfl (Nat.le_of_ble_eq_true rfl) rfl ?_
  intro p_ e_ s_ m_ below_ meth_ c_ C
  have hv : wo ((deed * 4) + person) = V := hv
  refine r_aln C dX5_worthTo_0 rfl 0 rfl ?_
  refine gf_X5_46 C 0 rfl rfl dX5_worthTo_1 ?_
  refine r_iln C dX5_worthTo_4 rfl 1 rfl ?_
  refine r_ic C (v := (4 : Int32)) dX5_worthTo_5 (by decide) ?_
  refine r_imul C dX5_worthTo_6 ?_
  refine r_iln C dX5_worthTo_7 rfl 2 rfl ?_
  refine r_iadd C dX5_worthTo_8 ?_
  refine r_iald C 6 ((deed * 4) + person) rfl (nv_add (nv_mul rfl rfl) rfl) (by omega) (by decide) rfl dX5_worthTo_9 ?_
  exact r_iret rfl C (congrArg (fun z => some (Value.int z)) hv) rfl dX5_worthTo_10

def s_X5_worthToAll_L4 (wo : Nat → Int32) (deed : Nat) : Nat → Nat → Int32 → Int32
  | 0, _, sum_3 => sum_3
  | k1 + 1, d2, sum_3 => (s_X5_worthToAll_L4 wo deed k1 (d2 + 1) (sum_3 + (s_X5_worthTo wo deed d2)))
def s_X5_worthToAll (pe : Nat) (wo : Nat → Int32) (deed : Nat) : Int32 := (s_X5_worthToAll_L4 wo deed pe 0 (0 : Int32))
set_option maxHeartbeats 8000000 in
set_option maxRecDepth 100000 in
theorem c_X5_worthToAll (l : Launch) (D : va_G) (h : Nat) (a1 : Nat) (a2 : Nat) (a3 : Nat) (a4 : Nat) (a5 : Nat) (a6 : Nat) (pe : Nat) (n : Nat) (td : Int32) (ys : Int32) (la : Int32) (ri : Int32) (kd : Nat → Int32) (dy : Nat → Int32) (nd : Nat → Int32) (co : Nat → Int32) (od : Nat → Int32) (wo : Nat → Int32) (deed : Nat) (hd : deed < 12) (hp : 1 ≤ pe ∧ pe ≤ 4) : ct l yX5_worthToAll cX5_worthToAll 4 (some .int) 1 22 D [.ref h, .int (nI deed)] (wY D h a1 a2 a3 a4 a5 a6 pe n td ys la ri kd dy nd co od wo) (wY D h a1 a2 a3 a4 a5 a6 pe n td ys la ri kd dy nd co od wo) (fun _ => False) (some (Value.int (s_X5_worthToAll pe wo deed))) := by
  obtain ⟨V, hv⟩ : ∃ V, s_X5_worthToAll pe wo deed = V := ⟨_, rfl⟩
  rw [hv]
  refine ct_intro (own := RX5) (lv := [(0, .ref h), (1, .int (nI deed))]) (by decide) rfl (Nat.le_of_ble_eq_true rfl) rfl ?_
  intro p_ e_ s_ m_ below_ meth_ c_ C
  have hv : (s_X5_worthToAll_L4 wo deed pe 0 (0 : Int32)) = V := hv
  refine r_ic C (v := (0 : Int32)) dX5_worthToAll_0 (by decide) ?_
  refine r_isn C (lv' := [(2, .int (0 : Int32)), (0, .ref h), (1, .int (nI deed))]) dX5_worthToAll_1 rfl (by decide) rfl ?_
  refine r_ic C (v := (0 : Int32)) dX5_worthToAll_2 (by decide) ?_
  refine r_isn C (lv' := [(3, .int (0 : Int32)), (2, .int (0 : Int32)), (0, .ref h), (1, .int (nI deed))]) dX5_worthToAll_3 rfl (by decide) rfl ?_
  have L7 : ∀ (k1 : Nat) (d2 : Nat) (sum_3 : Int32), (d2 + k1 = pe) → (s_X5_worthToAll_L4 wo deed k1 d2 sum_3) = V → GM p_ l e_ s_ m_ below_ meth_ c_ D 1 22 4 [.ref h, .int (nI deed)] (wY D h a1 a2 a3 a4 a5 a6 pe n td ys la ri kd dy nd co od wo) (fun _ => False) (some (Value.int V)) (wY D h a1 a2 a3 a4 a5 a6 pe n td ys la ri kd dy nd co od wo) 4 [(3, .int (nI d2)), (2, .int sum_3), (0, .ref h), (1, .int (nI deed))] [] := by
    intro k1
    induction k1 with
    | zero =>
      intro d2 sum_3 hk hv
      have hv : sum_3 = V := hv
      refine r_iln C dX5_worthToAll_4 rfl 0 rfl ?_
      refine r_aln C dX5_worthToAll_5 rfl 2 rfl ?_
      refine gf_X5_9 C 0 rfl rfl dX5_worthToAll_6 ?_
      refine r_icge C (tgt := 27) dX5_worthToAll_9 (by decide) (fun c4 => ?_) (fun c4 => ?_)
      · skip
        refine r_iln C dX5_worthToAll_27 rfl 1 rfl ?_
        exact r_iret rfl C (congrArg (fun z => some (Value.int z)) hv) rfl dX5_worthToAll_28
      · exact absurd c4 (fun z => absurd ((nv_lt (a := d2) (b := pe) rfl rfl (by omega) (by omega)).mp z) (by omega))
    | succ k1 ih5 =>
      intro d2 sum_3 hk hv
      have hv : (s_X5_worthToAll_L4 wo deed k1 (d2 + 1) (sum_3 + (s_X5_worthTo wo deed d2))) = V := hv
      refine r_iln C dX5_worthToAll_4 rfl 0 rfl ?_
      refine r_aln C dX5_worthToAll_5 rfl 2 rfl ?_
      refine gf_X5_9 C 0 rfl rfl dX5_worthToAll_6 ?_
      refine r_icge C (tgt := 27) dX5_worthToAll_9 (by decide) (fun c6 => ?_) (fun c6 => ?_)
      · exact absurd ((nv_lt (a := d2) (b := pe) rfl rfl (by omega) (by omega)).mpr (by omega)) c6
      · skip
        refine r_iln C dX5_worthToAll_12 rfl 1 rfl ?_
        refine r_aln C dX5_worthToAll_13 rfl 2 rfl ?_
        refine r_iln C dX5_worthToAll_14 rfl 3 rfl ?_
        refine r_iln C dX5_worthToAll_15 rfl 0 rfl ?_
        refine aft_rd (st' := [.int (s_X5_worthTo wo deed d2), .int sum_3]) (run_V (rest := [.int sum_3]) C (c_X5_worthTo l D h a1 a2 a3 a4 a5 a6 pe n td ys la ri kd dy nd co od wo deed d2 (by omega) (by omega)) ok_X5_worthTo wn_X5_worthTo wl_X5_worthTo wm_X5_59 [0, 1, 2, 3, 4, 5, 6] 0 rfl rfl rfl ⟨Nat.le_of_ble_eq_true rfl, Nat.le_of_ble_eq_true rfl⟩ rfl rfl (Nat.le_of_ble_eq_true rfl) dX5_worthToAll_16) rfl ?_
        refine r_iadd C dX5_worthToAll_19 ?_
        refine r_isn C (lv' := [(2, .int (sum_3 + (s_X5_worthTo wo deed d2))), (3, .int (nI d2)), (0, .ref h), (1, .int (nI deed))]) dX5_worthToAll_20 rfl (by decide) rfl ?_
        refine r_inc C (v := nI (d2 + 1)) (lv' := [(3, .int (nI (d2 + 1))), (2, .int (sum_3 + (s_X5_worthTo wo deed d2))), (0, .ref h), (1, .int (nI deed))]) dX5_worthToAll_21 1 rfl (inc_nI d2) (by decide) rfl ?_
        refine r_goto C (tgt := 4) dX5_worthToAll_24 (by decide) ?_
        exact ih5 (d2 + 1) (sum_3 + (s_X5_worthTo wo deed d2)) (by omega) hv
  refine r_lve (lv2 := [(3, .int (nI 0)), (2, .int (0 : Int32)), (0, .ref h), (1, .int (nI deed))]) (congrArg (fun (z : Int32) => ([(3, .int z), (2, .int (0 : Int32)), (0, .ref h), (1, .int (nI deed))] : List (Nat × Value))) rfl) ?_
  exact L7 pe 0 (0 : Int32) (by omega) hv

def s_X5_wouldStand (la : Int32) (kd : Nat → Int32) (nd : Nat → Int32) (deed : Nat) (stand : Int32) : Int32 := (if kd deed = (3 : Int32) then (if s_X6_isIn la (nI deed) = (0 : Int32) then (if s_X5_isMet (kd deed) (nd deed) stand = (0 : Int32) then (0 : Int32) else (1 : Int32)) else (1 : Int32)) else (if s_X5_isMet (kd deed) (nd deed) stand = (0 : Int32) then (0 : Int32) else (1 : Int32)))
set_option maxHeartbeats 8000000 in
set_option maxRecDepth 100000 in
theorem c_X5_wouldStand (l : Launch) (D : va_G) (h : Nat) (a1 : Nat) (a2 : Nat) (a3 : Nat) (a4 : Nat) (a5 : Nat) (a6 : Nat) (pe : Nat) (n : Nat) (td : Int32) (ys : Int32) (la : Int32) (ri : Int32) (kd : Nat → Int32) (dy : Nat → Int32) (nd : Nat → Int32) (co : Nat → Int32) (od : Nat → Int32) (wo : Nat → Int32) (deed : Nat) (stand : Int32) (hd : deed < 12) : ct l yX5_wouldStand cX5_wouldStand 4 (some .boolean) 1 23 D [.ref h, .int (nI deed), .int stand] (wY D h a1 a2 a3 a4 a5 a6 pe n td ys la ri kd dy nd co od wo) (wY D h a1 a2 a3 a4 a5 a6 pe n td ys la ri kd dy nd co od wo) (fun _ => False) (some (Value.int (s_X5_wouldStand la kd nd deed stand))) := by
  obtain ⟨V, hv⟩ : ∃ V, s_X5_wouldStand la kd nd deed stand = V := ⟨_, rfl⟩
  rw [hv]
  refine ct_intro (own := RX5) (lv := [(0, .ref h), (1, .int (nI deed)), (2, .int stand)]) (by decide) rfl (Nat.le_of_ble_eq_true rfl) rfl ?_
  intro p_ e_ s_ m_ below_ meth_ c_ C
  have hv : (if kd deed = (3 : Int32) then (if s_X6_isIn la (nI deed) = (0 : Int32) then (if s_X5_isMet (kd deed) (nd deed) stand = (0 : Int32) then (0 : Int32) else (1 : Int32)) else (1 : Int32)) else (if s_X5_isMet (kd deed) (nd deed) stand = (0 : Int32) then (0 : Int32) else (1 : Int32))) = V := hv
  refine r_aln C dX5_wouldStand_0 rfl 0 rfl ?_
  refine gf_X5_30 C 0 rfl rfl dX5_wouldStand_1 ?_
  refine r_iln C dX5_wouldStand_4 rfl 1 rfl ?_
  refine r_iald C 1 deed rfl rfl (by omega) (by decide) rfl dX5_wouldStand_5 ?_
  refine r_ic C (v := (3 : Int32)) dX5_wouldStand_6 (by decide) ?_
  refine r_icne C (tgt := 25) dX5_wouldStand_7 (by decide) (fun c1 => ?_) (fun c1 => ?_)
  · rw [if_neg c1] at hv
    refine r_ic C (v := (0 : Int32)) dX5_wouldStand_25 (by decide) ?_
    refine r_isn C (lv' := [(3, .int (0 : Int32)), (0, .ref h), (1, .int (nI deed)), (2, .int stand)]) dX5_wouldStand_26 rfl (by decide) rfl ?_
    refine r_iln C dX5_wouldStand_27 rfl 0 rfl ?_
    refine r_ifne C (tgt := 50) dX5_wouldStand_28 (by decide) (fun c2 => ?_) (fun c2 => ?_)
    · exact absurd (by decide) c2
    · skip
      refine r_aln C dX5_wouldStand_31 rfl 1 rfl ?_
      refine gf_X5_30 C 0 rfl rfl dX5_wouldStand_32 ?_
      refine r_iln C dX5_wouldStand_35 rfl 2 rfl ?_
      refine r_iald C 1 deed rfl rfl (by omega) (by decide) rfl dX5_wouldStand_36 ?_
      refine r_aln C dX5_wouldStand_37 rfl 1 rfl ?_
      refine gf_X5_37 C 0 rfl rfl dX5_wouldStand_38 ?_
      refine r_iln C dX5_wouldStand_41 rfl 2 rfl ?_
      refine r_iald C 3 deed rfl rfl (by omega) (by decide) rfl dX5_wouldStand_42 ?_
      refine r_iln C dX5_wouldStand_43 rfl 3 rfl ?_
      refine aft_rd (st' := [.int (s_X5_isMet (kd deed) (nd deed) stand)]) (run_S (rest := []) C (c_X5_isMet l D (kd deed) (nd deed) stand ) ok_X5_isMet ws_X5_isMet wm_X5_67 [] rfl ⟨Nat.le_of_ble_eq_true rfl, Nat.le_of_ble_eq_true rfl⟩ rfl rfl (Nat.le_of_ble_eq_true rfl) dX5_wouldStand_44) rfl ?_
      refine r_ifeq C (tgt := 54) dX5_wouldStand_47 (by decide) (fun c3 => ?_) (fun c3 => ?_)
      · rw [if_pos c3] at hv
        refine r_ic C (v := (0 : Int32)) dX5_wouldStand_54 (by decide) ?_
        exact r_zret rfl C rfl (congrArg (fun z => some (Value.int z)) hv) rfl dX5_wouldStand_55
      · rw [if_neg c3] at hv
        refine r_ic C (v := (1 : Int32)) dX5_wouldStand_50 (by decide) ?_
        refine r_goto C (tgt := 55) dX5_wouldStand_51 (by decide) ?_
        exact r_zret rfl C rfl (congrArg (fun z => some (Value.int z)) hv) rfl dX5_wouldStand_55
  · rw [if_pos c1] at hv
    refine r_aln C dX5_wouldStand_10 rfl 0 rfl ?_
    refine gf_X5_24 C 0 rfl rfl dX5_wouldStand_11 ?_
    refine r_iln C dX5_wouldStand_14 rfl 1 rfl ?_
    refine aft_rd (st' := [.int (s_X6_isIn la (nI deed))]) (run_SN (rest := []) C (c_X6_isIn l D la (nI deed) ) ok_X6_isIn ws_X6_isIn wm_X5_63 [] rfl ⟨Nat.le_of_ble_eq_true rfl, Nat.le_of_ble_eq_true rfl⟩ rfl rfl (Nat.le_of_ble_eq_true rfl) dX5_wouldStand_15) rfl ?_
    refine r_ifeq C (tgt := 25) dX5_wouldStand_18 (by decide) (fun c4 => ?_) (fun c4 => ?_)
    · rw [if_pos c4] at hv
      refine r_ic C (v := (0 : Int32)) dX5_wouldStand_25 (by decide) ?_
      refine r_isn C (lv' := [(3, .int (0 : Int32)), (0, .ref h), (1, .int (nI deed)), (2, .int stand)]) dX5_wouldStand_26 rfl (by decide) rfl ?_
      refine r_iln C dX5_wouldStand_27 rfl 0 rfl ?_
      refine r_ifne C (tgt := 50) dX5_wouldStand_28 (by decide) (fun c5 => ?_) (fun c5 => ?_)
      · exact absurd (by decide) c5
      · skip
        refine r_aln C dX5_wouldStand_31 rfl 1 rfl ?_
        refine gf_X5_30 C 0 rfl rfl dX5_wouldStand_32 ?_
        refine r_iln C dX5_wouldStand_35 rfl 2 rfl ?_
        refine r_iald C 1 deed rfl rfl (by omega) (by decide) rfl dX5_wouldStand_36 ?_
        refine r_aln C dX5_wouldStand_37 rfl 1 rfl ?_
        refine gf_X5_37 C 0 rfl rfl dX5_wouldStand_38 ?_
        refine r_iln C dX5_wouldStand_41 rfl 2 rfl ?_
        refine r_iald C 3 deed rfl rfl (by omega) (by decide) rfl dX5_wouldStand_42 ?_
        refine r_iln C dX5_wouldStand_43 rfl 3 rfl ?_
        refine aft_rd (st' := [.int (s_X5_isMet (kd deed) (nd deed) stand)]) (run_S (rest := []) C (c_X5_isMet l D (kd deed) (nd deed) stand ) ok_X5_isMet ws_X5_isMet wm_X5_67 [] rfl ⟨Nat.le_of_ble_eq_true rfl, Nat.le_of_ble_eq_true rfl⟩ rfl rfl (Nat.le_of_ble_eq_true rfl) dX5_wouldStand_44) rfl ?_
        refine r_ifeq C (tgt := 54) dX5_wouldStand_47 (by decide) (fun c6 => ?_) (fun c6 => ?_)
        · rw [if_pos c6] at hv
          refine r_ic C (v := (0 : Int32)) dX5_wouldStand_54 (by decide) ?_
          exact r_zret rfl C rfl (congrArg (fun z => some (Value.int z)) hv) rfl dX5_wouldStand_55
        · rw [if_neg c6] at hv
          refine r_ic C (v := (1 : Int32)) dX5_wouldStand_50 (by decide) ?_
          refine r_goto C (tgt := 55) dX5_wouldStand_51 (by decide) ?_
          exact r_zret rfl C rfl (congrArg (fun z => some (Value.int z)) hv) rfl dX5_wouldStand_55
    · rw [if_neg c4] at hv
      refine r_ic C (v := (1 : Int32)) dX5_wouldStand_21 (by decide) ?_
      refine r_goto C (tgt := 26) dX5_wouldStand_22 (by decide) ?_
      refine r_isn C (lv' := [(3, .int (1 : Int32)), (0, .ref h), (1, .int (nI deed)), (2, .int stand)]) dX5_wouldStand_26 rfl (by decide) rfl ?_
      refine r_iln C dX5_wouldStand_27 rfl 0 rfl ?_
      refine r_ifne C (tgt := 50) dX5_wouldStand_28 (by decide) (fun c7 => ?_) (fun c7 => ?_)
      · skip
        refine r_ic C (v := (1 : Int32)) dX5_wouldStand_50 (by decide) ?_
        refine r_goto C (tgt := 55) dX5_wouldStand_51 (by decide) ?_
        exact r_zret rfl C rfl (congrArg (fun z => some (Value.int z)) hv) rfl dX5_wouldStand_55
      · exact absurd c7 (by decide)

def s_X5_standing_L4 (la : Int32) (kd : Nat → Int32) (nd : Nat → Int32) (gone : Int32) : Nat → Nat → Int32 → Int32
  | 0, _, stand_3 => stand_3
  | k1 + 1, d2, stand_3 => (if s_X6_isIn gone (nI d2) = (0 : Int32) then (if s_X5_wouldStand la kd nd d2 stand_3 = (0 : Int32) then (s_X5_standing_L4 la kd nd gone k1 (d2 + 1) stand_3) else (s_X5_standing_L4 la kd nd gone k1 (d2 + 1) (stand_3 ||| ((1 : Int32) <<< ((nI d2) &&& 31))))) else (s_X5_standing_L4 la kd nd gone k1 (d2 + 1) stand_3))
def s_X5_standing (n : Nat) (la : Int32) (kd : Nat → Int32) (nd : Nat → Int32) (gone : Int32) : Int32 := (s_X5_standing_L4 la kd nd gone n 0 (0 : Int32))
set_option maxHeartbeats 8000000 in
set_option maxRecDepth 100000 in
theorem c_X5_standing (l : Launch) (D : va_G) (h : Nat) (a1 : Nat) (a2 : Nat) (a3 : Nat) (a4 : Nat) (a5 : Nat) (a6 : Nat) (pe : Nat) (n : Nat) (td : Int32) (ys : Int32) (la : Int32) (ri : Int32) (kd : Nat → Int32) (dy : Nat → Int32) (nd : Nat → Int32) (co : Nat → Int32) (od : Nat → Int32) (wo : Nat → Int32) (gone : Int32) (hn : n ≤ 12) : ct l yX5_standing cX5_standing 4 (some .int) 2 46 D [.ref h, .int gone] (wY D h a1 a2 a3 a4 a5 a6 pe n td ys la ri kd dy nd co od wo) (wY D h a1 a2 a3 a4 a5 a6 pe n td ys la ri kd dy nd co od wo) (fun _ => False) (some (Value.int (s_X5_standing n la kd nd gone))) := by
  obtain ⟨V, hv⟩ : ∃ V, s_X5_standing n la kd nd gone = V := ⟨_, rfl⟩
  rw [hv]
  refine ct_intro (own := RX5) (lv := [(0, .ref h), (1, .int gone)]) (by decide) rfl (Nat.le_of_ble_eq_true rfl) rfl ?_
  intro p_ e_ s_ m_ below_ meth_ c_ C
  have hv : (s_X5_standing_L4 la kd nd gone n 0 (0 : Int32)) = V := hv
  refine r_ic C (v := (0 : Int32)) dX5_standing_0 (by decide) ?_
  refine r_isn C (lv' := [(2, .int (0 : Int32)), (0, .ref h), (1, .int gone)]) dX5_standing_1 rfl (by decide) rfl ?_
  refine r_ic C (v := (0 : Int32)) dX5_standing_2 (by decide) ?_
  refine r_isn C (lv' := [(3, .int (0 : Int32)), (2, .int (0 : Int32)), (0, .ref h), (1, .int gone)]) dX5_standing_3 rfl (by decide) rfl ?_
  have L9 : ∀ (k1 : Nat) (d2 : Nat) (stand_3 : Int32), (d2 + k1 = n) → (s_X5_standing_L4 la kd nd gone k1 d2 stand_3) = V → GM p_ l e_ s_ m_ below_ meth_ c_ D 2 46 4 [.ref h, .int gone] (wY D h a1 a2 a3 a4 a5 a6 pe n td ys la ri kd dy nd co od wo) (fun _ => False) (some (Value.int V)) (wY D h a1 a2 a3 a4 a5 a6 pe n td ys la ri kd dy nd co od wo) 4 [(3, .int (nI d2)), (2, .int stand_3), (0, .ref h), (1, .int gone)] [] := by
    intro k1
    induction k1 with
    | zero =>
      intro d2 stand_3 hk hv
      have hv : stand_3 = V := hv
      refine r_iln C dX5_standing_4 rfl 0 rfl ?_
      refine r_aln C dX5_standing_5 rfl 2 rfl ?_
      refine gf_X5_15 C 0 rfl rfl dX5_standing_6 ?_
      refine r_icge C (tgt := 41) dX5_standing_9 (by decide) (fun c4 => ?_) (fun c4 => ?_)
      · skip
        refine r_iln C dX5_standing_41 rfl 1 rfl ?_
        exact r_iret rfl C (congrArg (fun z => some (Value.int z)) hv) rfl dX5_standing_42
      · exact absurd c4 (fun z => absurd ((nv_lt (a := d2) (b := n) rfl rfl (by omega) (by omega)).mp z) (by omega))
    | succ k1 ih5 =>
      intro d2 stand_3 hk hv
      have hv : (if s_X6_isIn gone (nI d2) = (0 : Int32) then (if s_X5_wouldStand la kd nd d2 stand_3 = (0 : Int32) then (s_X5_standing_L4 la kd nd gone k1 (d2 + 1) stand_3) else (s_X5_standing_L4 la kd nd gone k1 (d2 + 1) (stand_3 ||| ((1 : Int32) <<< ((nI d2) &&& 31))))) else (s_X5_standing_L4 la kd nd gone k1 (d2 + 1) stand_3)) = V := hv
      refine r_iln C dX5_standing_4 rfl 0 rfl ?_
      refine r_aln C dX5_standing_5 rfl 2 rfl ?_
      refine gf_X5_15 C 0 rfl rfl dX5_standing_6 ?_
      refine r_icge C (tgt := 41) dX5_standing_9 (by decide) (fun c6 => ?_) (fun c6 => ?_)
      · exact absurd ((nv_lt (a := d2) (b := n) rfl rfl (by omega) (by omega)).mpr (by omega)) c6
      · skip
        refine r_iln C dX5_standing_12 rfl 3 rfl ?_
        refine r_iln C dX5_standing_13 rfl 0 rfl ?_
        refine aft_rd (st' := [.int (s_X6_isIn gone (nI d2))]) (run_SN (rest := []) C (c_X6_isIn l D gone (nI d2) ) ok_X6_isIn ws_X6_isIn wm_X5_63 [] rfl ⟨Nat.le_of_ble_eq_true rfl, Nat.le_of_ble_eq_true rfl⟩ rfl rfl (Nat.le_of_ble_eq_true rfl) dX5_standing_14) rfl ?_
        refine r_ifne C (tgt := 35) dX5_standing_17 (by decide) (fun c7 => ?_) (fun c7 => ?_)
        · rw [if_neg c7] at hv
          refine r_inc C (v := nI (d2 + 1)) (lv' := [(3, .int (nI (d2 + 1))), (2, .int stand_3), (0, .ref h), (1, .int gone)]) dX5_standing_35 0 rfl (inc_nI d2) (by decide) rfl ?_
          refine r_goto C (tgt := 4) dX5_standing_38 (by decide) ?_
          exact ih5 (d2 + 1) stand_3 (by omega) hv
        · rw [if_pos c7] at hv
          refine r_aln C dX5_standing_20 rfl 2 rfl ?_
          refine r_iln C dX5_standing_21 rfl 0 rfl ?_
          refine r_iln C dX5_standing_22 rfl 1 rfl ?_
          refine aft_rd (st' := [.int (s_X5_wouldStand la kd nd d2 stand_3)]) (run_V (rest := []) C (c_X5_wouldStand l D h a1 a2 a3 a4 a5 a6 pe n td ys la ri kd dy nd co od wo d2 stand_3 (by omega)) ok_X5_wouldStand wn_X5_wouldStand wl_X5_wouldStand wm_X5_71 [0, 1, 2, 3, 4, 5, 6] 0 rfl rfl rfl ⟨Nat.le_of_ble_eq_true rfl, Nat.le_of_ble_eq_true rfl⟩ rfl rfl (Nat.le_of_ble_eq_true rfl) dX5_standing_23) rfl ?_
          refine r_ifeq C (tgt := 35) dX5_standing_26 (by decide) (fun c8 => ?_) (fun c8 => ?_)
          · rw [if_pos c8] at hv
            refine r_inc C (v := nI (d2 + 1)) (lv' := [(3, .int (nI (d2 + 1))), (2, .int stand_3), (0, .ref h), (1, .int gone)]) dX5_standing_35 0 rfl (inc_nI d2) (by decide) rfl ?_
            refine r_goto C (tgt := 4) dX5_standing_38 (by decide) ?_
            exact ih5 (d2 + 1) stand_3 (by omega) hv
          · rw [if_neg c8] at hv
            refine r_iln C dX5_standing_29 rfl 1 rfl ?_
            refine r_ic C (v := (1 : Int32)) dX5_standing_30 (by decide) ?_
            refine r_iln C dX5_standing_31 rfl 0 rfl ?_
            refine r_ishl C dX5_standing_32 ?_
            refine r_ior C dX5_standing_33 ?_
            refine r_isn C (lv' := [(2, .int (stand_3 ||| ((1 : Int32) <<< ((nI d2) &&& 31)))), (3, .int (nI d2)), (0, .ref h), (1, .int gone)]) dX5_standing_34 rfl (by decide) rfl ?_
            refine r_inc C (v := nI (d2 + 1)) (lv' := [(3, .int (nI (d2 + 1))), (2, .int (stand_3 ||| ((1 : Int32) <<< ((nI d2) &&& 31)))), (0, .ref h), (1, .int gone)]) dX5_standing_35 1 rfl (inc_nI d2) (by decide) rfl ?_
            refine r_goto C (tgt := 4) dX5_standing_38 (by decide) ?_
            exact ih5 (d2 + 1) (stand_3 ||| ((1 : Int32) <<< ((nI d2) &&& 31))) (by omega) hv
  refine r_lve (lv2 := [(3, .int (nI 0)), (2, .int (0 : Int32)), (0, .ref h), (1, .int gone)]) (congrArg (fun (z : Int32) => ([(3, .int z), (2, .int (0 : Int32)), (0, .ref h), (1, .int gone)] : List (Nat × Value))) rfl) ?_
  exact L9 n 0 (0 : Int32) (by omega) hv

def s_X5_bearer_L7 (wo : Nat → Int32) (deed : Nat) : Nat → Nat → Nat → Nat → Nat × Nat
  | 0, _, most_3, least_4 => (most_3, least_4)
  | k1 + 1, d2, most_3, least_4 => (if s_X5_worthTo wo deed most_3 < s_X5_worthTo wo deed d2 then (if s_X5_worthTo wo deed d2 < s_X5_worthTo wo deed least_4 then (s_X5_bearer_L7 wo deed k1 (d2 + 1) d2 d2) else (s_X5_bearer_L7 wo deed k1 (d2 + 1) d2 least_4)) else (if s_X5_worthTo wo deed d2 < s_X5_worthTo wo deed least_4 then (s_X5_bearer_L7 wo deed k1 (d2 + 1) most_3 d2) else (s_X5_bearer_L7 wo deed k1 (d2 + 1) most_3 least_4)))
def s_X5_bearer (pe : Nat) (wo : Nat → Int32) (deed : Nat) : Int32 := (if (0 : Int32) < s_X5_worthTo wo deed ((s_X5_bearer_L7 wo deed (pe - 1) 1 0 0).1) then nI ((s_X5_bearer_L7 wo deed (pe - 1) 1 0 0).1) else nI ((s_X5_bearer_L7 wo deed (pe - 1) 1 0 0).2))
set_option maxHeartbeats 8000000 in
set_option maxRecDepth 100000 in
theorem c_X5_bearer (l : Launch) (D : va_G) (h : Nat) (a1 : Nat) (a2 : Nat) (a3 : Nat) (a4 : Nat) (a5 : Nat) (a6 : Nat) (pe : Nat) (n : Nat) (td : Int32) (ys : Int32) (la : Int32) (ri : Int32) (kd : Nat → Int32) (dy : Nat → Int32) (nd : Nat → Int32) (co : Nat → Int32) (od : Nat → Int32) (wo : Nat → Int32) (deed : Nat) (hd : deed < 12) (hp : 1 ≤ pe ∧ pe ≤ 4) : ct l yX5_bearer cX5_bearer 5 (some .int) 1 22 D [.ref h, .int (nI deed)] (wY D h a1 a2 a3 a4 a5 a6 pe n td ys la ri kd dy nd co od wo) (wY D h a1 a2 a3 a4 a5 a6 pe n td ys la ri kd dy nd co od wo) (fun _ => False) (some (Value.int (s_X5_bearer pe wo deed))) := by
  obtain ⟨V, hv⟩ : ∃ V, s_X5_bearer pe wo deed = V := ⟨_, rfl⟩
  rw [hv]
  refine ct_intro (own := RX5) (lv := [(0, .ref h), (1, .int (nI deed))]) (by decide) rfl (Nat.le_of_ble_eq_true rfl) rfl ?_
  intro p_ e_ s_ m_ below_ meth_ c_ C
  have hv : (if (0 : Int32) < s_X5_worthTo wo deed ((s_X5_bearer_L7 wo deed (pe - 1) 1 0 0).1) then nI ((s_X5_bearer_L7 wo deed (pe - 1) 1 0 0).1) else nI ((s_X5_bearer_L7 wo deed (pe - 1) 1 0 0).2)) = V := hv
  refine r_ic C (v := (0 : Int32)) dX5_bearer_0 (by decide) ?_
  refine r_isn C (lv' := [(2, .int (0 : Int32)), (0, .ref h), (1, .int (nI deed))]) dX5_bearer_1 rfl (by decide) rfl ?_
  refine r_ic C (v := (0 : Int32)) dX5_bearer_2 (by decide) ?_
  refine r_isn C (lv' := [(3, .int (0 : Int32)), (2, .int (0 : Int32)), (0, .ref h), (1, .int (nI deed))]) dX5_bearer_3 rfl (by decide) rfl ?_
  refine r_ic C (v := (1 : Int32)) dX5_bearer_4 (by decide) ?_
  refine r_is C (lv' := [(4, .int (1 : Int32)), (3, .int (0 : Int32)), (2, .int (0 : Int32)), (0, .ref h), (1, .int (nI deed))]) dX5_bearer_5 (by decide) rfl ?_
  have L12 : ∀ (k1 : Nat) (d2 : Nat) (most_3 : Nat) (least_4 : Nat), (d2 + k1 = pe) → (most_3 < 4) → (least_4 < 4) → (if (0 : Int32) < s_X5_worthTo wo deed ((s_X5_bearer_L7 wo deed k1 d2 most_3 least_4).1) then nI ((s_X5_bearer_L7 wo deed k1 d2 most_3 least_4).1) else nI ((s_X5_bearer_L7 wo deed k1 d2 most_3 least_4).2)) = V → GM p_ l e_ s_ m_ below_ meth_ c_ D 1 22 5 [.ref h, .int (nI deed)] (wY D h a1 a2 a3 a4 a5 a6 pe n td ys la ri kd dy nd co od wo) (fun _ => False) (some (Value.int V)) (wY D h a1 a2 a3 a4 a5 a6 pe n td ys la ri kd dy nd co od wo) 7 [(4, .int (nI d2)), (3, .int (nI least_4)), (2, .int (nI most_3)), (0, .ref h), (1, .int (nI deed))] [] := by
    intro k1
    induction k1 with
    | zero =>
      intro d2 most_3 least_4 hk hm hl hv
      have hv : (if (0 : Int32) < s_X5_worthTo wo deed most_3 then nI most_3 else nI least_4) = V := hv
      refine r_il C dX5_bearer_7 0 rfl ?_
      refine r_aln C dX5_bearer_9 rfl 3 rfl ?_
      refine gf_X5_9 C 0 rfl rfl dX5_bearer_10 ?_
      refine r_icge C (tgt := 60) dX5_bearer_13 (by decide) (fun c5 => ?_) (fun c5 => ?_)
      · skip
        refine r_aln C dX5_bearer_60 rfl 3 rfl ?_
        refine r_iln C dX5_bearer_61 rfl 4 rfl ?_
        refine r_iln C dX5_bearer_62 rfl 2 rfl ?_
        refine aft_rd (st' := [.int (s_X5_worthTo wo deed most_3)]) (run_V (rest := []) C (c_X5_worthTo l D h a1 a2 a3 a4 a5 a6 pe n td ys la ri kd dy nd co od wo deed most_3 (by omega) (by omega)) ok_X5_worthTo wn_X5_worthTo wl_X5_worthTo wm_X5_59 [0, 1, 2, 3, 4, 5, 6] 0 rfl rfl rfl ⟨Nat.le_of_ble_eq_true rfl, Nat.le_of_ble_eq_true rfl⟩ rfl rfl (Nat.le_of_ble_eq_true rfl) dX5_bearer_63) rfl ?_
        refine r_ifle C (tgt := 73) dX5_bearer_66 (by decide) (fun c6 => ?_) (fun c6 => ?_)
        · rw [if_neg c6] at hv
          refine r_iln C dX5_bearer_73 rfl 1 rfl ?_
          exact r_iret rfl C (congrArg (fun z => some (Value.int z)) hv) rfl dX5_bearer_74
        · rw [if_pos c6] at hv
          refine r_iln C dX5_bearer_69 rfl 2 rfl ?_
          refine r_goto C (tgt := 74) dX5_bearer_70 (by decide) ?_
          exact r_iret rfl C (congrArg (fun z => some (Value.int z)) hv) rfl dX5_bearer_74
      · exact absurd c5 (fun z => absurd ((nv_lt (a := d2) (b := pe) rfl rfl (by omega) (by omega)).mp z) (by omega))
    | succ k1 ih7 =>
      intro d2 most_3 least_4 hk hm hl hv
      have hv : (if (0 : Int32) < s_X5_worthTo wo deed ((if s_X5_worthTo wo deed most_3 < s_X5_worthTo wo deed d2 then (if s_X5_worthTo wo deed d2 < s_X5_worthTo wo deed least_4 then (s_X5_bearer_L7 wo deed k1 (d2 + 1) d2 d2) else (s_X5_bearer_L7 wo deed k1 (d2 + 1) d2 least_4)) else (if s_X5_worthTo wo deed d2 < s_X5_worthTo wo deed least_4 then (s_X5_bearer_L7 wo deed k1 (d2 + 1) most_3 d2) else (s_X5_bearer_L7 wo deed k1 (d2 + 1) most_3 least_4))).1) then nI ((if s_X5_worthTo wo deed most_3 < s_X5_worthTo wo deed d2 then (if s_X5_worthTo wo deed d2 < s_X5_worthTo wo deed least_4 then (s_X5_bearer_L7 wo deed k1 (d2 + 1) d2 d2) else (s_X5_bearer_L7 wo deed k1 (d2 + 1) d2 least_4)) else (if s_X5_worthTo wo deed d2 < s_X5_worthTo wo deed least_4 then (s_X5_bearer_L7 wo deed k1 (d2 + 1) most_3 d2) else (s_X5_bearer_L7 wo deed k1 (d2 + 1) most_3 least_4))).1) else nI ((if s_X5_worthTo wo deed most_3 < s_X5_worthTo wo deed d2 then (if s_X5_worthTo wo deed d2 < s_X5_worthTo wo deed least_4 then (s_X5_bearer_L7 wo deed k1 (d2 + 1) d2 d2) else (s_X5_bearer_L7 wo deed k1 (d2 + 1) d2 least_4)) else (if s_X5_worthTo wo deed d2 < s_X5_worthTo wo deed least_4 then (s_X5_bearer_L7 wo deed k1 (d2 + 1) most_3 d2) else (s_X5_bearer_L7 wo deed k1 (d2 + 1) most_3 least_4))).2)) = V := hv
      refine r_il C dX5_bearer_7 0 rfl ?_
      refine r_aln C dX5_bearer_9 rfl 3 rfl ?_
      refine gf_X5_9 C 0 rfl rfl dX5_bearer_10 ?_
      refine r_icge C (tgt := 60) dX5_bearer_13 (by decide) (fun c8 => ?_) (fun c8 => ?_)
      · exact absurd ((nv_lt (a := d2) (b := pe) rfl rfl (by omega) (by omega)).mpr (by omega)) c8
      · skip
        refine r_aln C dX5_bearer_16 rfl 3 rfl ?_
        refine r_iln C dX5_bearer_17 rfl 4 rfl ?_
        refine r_il C dX5_bearer_18 0 rfl ?_
        refine aft_rd (st' := [.int (s_X5_worthTo wo deed d2)]) (run_V (rest := []) C (c_X5_worthTo l D h a1 a2 a3 a4 a5 a6 pe n td ys la ri kd dy nd co od wo deed d2 (by omega) (by omega)) ok_X5_worthTo wn_X5_worthTo wl_X5_worthTo wm_X5_59 [0, 1, 2, 3, 4, 5, 6] 0 rfl rfl rfl ⟨Nat.le_of_ble_eq_true rfl, Nat.le_of_ble_eq_true rfl⟩ rfl rfl (Nat.le_of_ble_eq_true rfl) dX5_bearer_20) rfl ?_
        refine r_aln C dX5_bearer_23 rfl 3 rfl ?_
        refine r_iln C dX5_bearer_24 rfl 4 rfl ?_
        refine r_iln C dX5_bearer_25 rfl 2 rfl ?_
        refine aft_rd (st' := [.int (s_X5_worthTo wo deed most_3), .int (s_X5_worthTo wo deed d2)]) (run_V (rest := [.int (s_X5_worthTo wo deed d2)]) C (c_X5_worthTo l D h a1 a2 a3 a4 a5 a6 pe n td ys la ri kd dy nd co od wo deed most_3 (by omega) (by omega)) ok_X5_worthTo wn_X5_worthTo wl_X5_worthTo wm_X5_59 [0, 1, 2, 3, 4, 5, 6] 0 rfl rfl rfl ⟨Nat.le_of_ble_eq_true rfl, Nat.le_of_ble_eq_true rfl⟩ rfl rfl (Nat.le_of_ble_eq_true rfl) dX5_bearer_26) rfl ?_
        refine r_icle C (tgt := 35) dX5_bearer_29 (by decide) (fun c9 => ?_) (fun c9 => ?_)
        · rw [if_neg c9] at hv
          refine r_aln C dX5_bearer_35 rfl 3 rfl ?_
          refine r_iln C dX5_bearer_36 rfl 4 rfl ?_
          refine r_il C dX5_bearer_37 0 rfl ?_
          refine aft_rd (st' := [.int (s_X5_worthTo wo deed d2)]) (run_V (rest := []) C (c_X5_worthTo l D h a1 a2 a3 a4 a5 a6 pe n td ys la ri kd dy nd co od wo deed d2 (by omega) (by omega)) ok_X5_worthTo wn_X5_worthTo wl_X5_worthTo wm_X5_59 [0, 1, 2, 3, 4, 5, 6] 0 rfl rfl rfl ⟨Nat.le_of_ble_eq_true rfl, Nat.le_of_ble_eq_true rfl⟩ rfl rfl (Nat.le_of_ble_eq_true rfl) dX5_bearer_39) rfl ?_
          refine r_aln C dX5_bearer_42 rfl 3 rfl ?_
          refine r_iln C dX5_bearer_43 rfl 4 rfl ?_
          refine r_iln C dX5_bearer_44 rfl 1 rfl ?_
          refine aft_rd (st' := [.int (s_X5_worthTo wo deed least_4), .int (s_X5_worthTo wo deed d2)]) (run_V (rest := [.int (s_X5_worthTo wo deed d2)]) C (c_X5_worthTo l D h a1 a2 a3 a4 a5 a6 pe n td ys la ri kd dy nd co od wo deed least_4 (by omega) (by omega)) ok_X5_worthTo wn_X5_worthTo wl_X5_worthTo wm_X5_59 [0, 1, 2, 3, 4, 5, 6] 0 rfl rfl rfl ⟨Nat.le_of_ble_eq_true rfl, Nat.le_of_ble_eq_true rfl⟩ rfl rfl (Nat.le_of_ble_eq_true rfl) dX5_bearer_45) rfl ?_
          refine r_icge C (tgt := 54) dX5_bearer_48 (by decide) (fun c10 => ?_) (fun c10 => ?_)
          · rw [if_neg c10] at hv
            refine r_inc C (v := nI (d2 + 1)) (lv' := [(4, .int (nI (d2 + 1))), (3, .int (nI least_4)), (2, .int (nI most_3)), (0, .ref h), (1, .int (nI deed))]) dX5_bearer_54 0 rfl (inc_nI d2) (by decide) rfl ?_
            refine r_goto C (tgt := 7) dX5_bearer_57 (by decide) ?_
            exact ih7 (d2 + 1) most_3 least_4 (by omega) (by omega) (by omega) hv
          · rw [if_pos c10] at hv
            refine r_il C dX5_bearer_51 0 rfl ?_
            refine r_isn C (lv' := [(3, .int (nI d2)), (4, .int (nI d2)), (2, .int (nI most_3)), (0, .ref h), (1, .int (nI deed))]) dX5_bearer_53 rfl (by decide) rfl ?_
            refine r_inc C (v := nI (d2 + 1)) (lv' := [(4, .int (nI (d2 + 1))), (3, .int (nI d2)), (2, .int (nI most_3)), (0, .ref h), (1, .int (nI deed))]) dX5_bearer_54 1 rfl (inc_nI d2) (by decide) rfl ?_
            refine r_goto C (tgt := 7) dX5_bearer_57 (by decide) ?_
            exact ih7 (d2 + 1) most_3 d2 (by omega) (by omega) (by omega) hv
        · rw [if_pos c9] at hv
          refine r_il C dX5_bearer_32 0 rfl ?_
          refine r_isn C (lv' := [(2, .int (nI d2)), (4, .int (nI d2)), (3, .int (nI least_4)), (0, .ref h), (1, .int (nI deed))]) dX5_bearer_34 rfl (by decide) rfl ?_
          refine r_aln C dX5_bearer_35 rfl 3 rfl ?_
          refine r_iln C dX5_bearer_36 rfl 4 rfl ?_
          refine r_il C dX5_bearer_37 1 rfl ?_
          refine aft_rd (st' := [.int (s_X5_worthTo wo deed d2)]) (run_V (rest := []) C (c_X5_worthTo l D h a1 a2 a3 a4 a5 a6 pe n td ys la ri kd dy nd co od wo deed d2 (by omega) (by omega)) ok_X5_worthTo wn_X5_worthTo wl_X5_worthTo wm_X5_59 [0, 1, 2, 3, 4, 5, 6] 0 rfl rfl rfl ⟨Nat.le_of_ble_eq_true rfl, Nat.le_of_ble_eq_true rfl⟩ rfl rfl (Nat.le_of_ble_eq_true rfl) dX5_bearer_39) rfl ?_
          refine r_aln C dX5_bearer_42 rfl 3 rfl ?_
          refine r_iln C dX5_bearer_43 rfl 4 rfl ?_
          refine r_iln C dX5_bearer_44 rfl 2 rfl ?_
          refine aft_rd (st' := [.int (s_X5_worthTo wo deed least_4), .int (s_X5_worthTo wo deed d2)]) (run_V (rest := [.int (s_X5_worthTo wo deed d2)]) C (c_X5_worthTo l D h a1 a2 a3 a4 a5 a6 pe n td ys la ri kd dy nd co od wo deed least_4 (by omega) (by omega)) ok_X5_worthTo wn_X5_worthTo wl_X5_worthTo wm_X5_59 [0, 1, 2, 3, 4, 5, 6] 0 rfl rfl rfl ⟨Nat.le_of_ble_eq_true rfl, Nat.le_of_ble_eq_true rfl⟩ rfl rfl (Nat.le_of_ble_eq_true rfl) dX5_bearer_45) rfl ?_
          refine r_icge C (tgt := 54) dX5_bearer_48 (by decide) (fun c11 => ?_) (fun c11 => ?_)
          · rw [if_neg c11] at hv
            refine r_inc C (v := nI (d2 + 1)) (lv' := [(4, .int (nI (d2 + 1))), (2, .int (nI d2)), (3, .int (nI least_4)), (0, .ref h), (1, .int (nI deed))]) dX5_bearer_54 1 rfl (inc_nI d2) (by decide) rfl ?_
            refine r_goto C (tgt := 7) dX5_bearer_57 (by decide) ?_
            refine r_lv [0, 2, 1, 3, 4] rfl ?_
            exact ih7 (d2 + 1) d2 least_4 (by omega) (by omega) (by omega) hv
          · rw [if_pos c11] at hv
            refine r_il C dX5_bearer_51 1 rfl ?_
            refine r_isn C (lv' := [(3, .int (nI d2)), (2, .int (nI d2)), (4, .int (nI d2)), (0, .ref h), (1, .int (nI deed))]) dX5_bearer_53 rfl (by decide) rfl ?_
            refine r_inc C (v := nI (d2 + 1)) (lv' := [(4, .int (nI (d2 + 1))), (3, .int (nI d2)), (2, .int (nI d2)), (0, .ref h), (1, .int (nI deed))]) dX5_bearer_54 2 rfl (inc_nI d2) (by decide) rfl ?_
            refine r_goto C (tgt := 7) dX5_bearer_57 (by decide) ?_
            exact ih7 (d2 + 1) d2 d2 (by omega) (by omega) (by omega) hv
  refine r_lve (lv2 := [(4, .int (nI 1)), (3, .int (0 : Int32)), (2, .int (0 : Int32)), (0, .ref h), (1, .int (nI deed))]) (congrArg (fun (z : Int32) => ([(4, .int z), (3, .int (0 : Int32)), (2, .int (0 : Int32)), (0, .ref h), (1, .int (nI deed))] : List (Nat × Value))) rfl) ?_
  refine r_lve (lv2 := [(4, .int (nI 1)), (3, .int (nI 0)), (2, .int (0 : Int32)), (0, .ref h), (1, .int (nI deed))]) (congrArg (fun (z : Int32) => ([(4, .int (nI 1)), (3, .int z), (2, .int (0 : Int32)), (0, .ref h), (1, .int (nI deed))] : List (Nat × Value))) rfl) ?_
  refine r_lve (lv2 := [(4, .int (nI 1)), (3, .int (nI 0)), (2, .int (nI 0)), (0, .ref h), (1, .int (nI deed))]) (congrArg (fun (z : Int32) => ([(4, .int (nI 1)), (3, .int (nI 0)), (2, .int z), (0, .ref h), (1, .int (nI deed))] : List (Nat × Value))) rfl) ?_
  exact L12 (pe - 1) 1 0 0 (by omega) (by omega) (by omega) hv

def s_X5_valueOf_L6 (pe : Nat) (co : Nat → Int32) (wo : Nat → Int32) (person : Nat) (gone : Int32) (stand : Int32) : Nat → Nat → Int32 → Int32
  | 0, _, sum_3 => sum_3
  | k1 + 1, d2, sum_3 => (if s_X6_isIn stand (nI d2) = (0 : Int32) then (if s_X6_isIn gone (nI d2) = (0 : Int32) then (s_X5_valueOf_L6 pe co wo person gone stand k1 (d2 + 1) sum_3) else (if s_X5_bearer pe wo d2 = nI person then (s_X5_valueOf_L6 pe co wo person gone stand k1 (d2 + 1) (sum_3 - (co d2))) else (s_X5_valueOf_L6 pe co wo person gone stand k1 (d2 + 1) sum_3))) else (if s_X6_isIn gone (nI d2) = (0 : Int32) then (s_X5_valueOf_L6 pe co wo person gone stand k1 (d2 + 1) (sum_3 + (s_X5_worthTo wo d2 person))) else (if s_X5_bearer pe wo d2 = nI person then (s_X5_valueOf_L6 pe co wo person gone stand k1 (d2 + 1) ((sum_3 + (s_X5_worthTo wo d2 person)) - (co d2))) else (s_X5_valueOf_L6 pe co wo person gone stand k1 (d2 + 1) (sum_3 + (s_X5_worthTo wo d2 person))))))
def s_X5_valueOf (pe : Nat) (n : Nat) (co : Nat → Int32) (wo : Nat → Int32) (person : Nat) (gone : Int32) (stand : Int32) : Int32 := (s_X5_valueOf_L6 pe co wo person gone stand n 0 (0 : Int32))
set_option maxHeartbeats 8000000 in
set_option maxRecDepth 100000 in
theorem c_X5_valueOf (l : Launch) (D : va_G) (h : Nat) (a1 : Nat) (a2 : Nat) (a3 : Nat) (a4 : Nat) (a5 : Nat) (a6 : Nat) (pe : Nat) (n : Nat) (td : Int32) (ys : Int32) (la : Int32) (ri : Int32) (kd : Nat → Int32) (dy : Nat → Int32) (nd : Nat → Int32) (co : Nat → Int32) (od : Nat → Int32) (wo : Nat → Int32) (person : Nat) (gone : Int32) (stand : Int32) (hn : n ≤ 12) (hp : 1 ≤ pe ∧ pe ≤ 4) (hq : person < 4) : ct l yX5_valueOf cX5_valueOf 6 (some .int) 2 46 D [.ref h, .int (nI person), .int gone, .int stand] (wY D h a1 a2 a3 a4 a5 a6 pe n td ys la ri kd dy nd co od wo) (wY D h a1 a2 a3 a4 a5 a6 pe n td ys la ri kd dy nd co od wo) (fun _ => False) (some (Value.int (s_X5_valueOf pe n co wo person gone stand))) := by
  obtain ⟨V, hv⟩ : ∃ V, s_X5_valueOf pe n co wo person gone stand = V := ⟨_, rfl⟩
  rw [hv]
  refine ct_intro (own := RX5) (lv := [(0, .ref h), (1, .int (nI person)), (2, .int gone), (3, .int stand)]) (by decide) rfl (Nat.le_of_ble_eq_true rfl) rfl ?_
  intro p_ e_ s_ m_ below_ meth_ c_ C
  have hv : (s_X5_valueOf_L6 pe co wo person gone stand n 0 (0 : Int32)) = V := hv
  refine r_ic C (v := (0 : Int32)) dX5_valueOf_0 (by decide) ?_
  refine r_is C (lv' := [(4, .int (0 : Int32)), (0, .ref h), (1, .int (nI person)), (2, .int gone), (3, .int stand)]) dX5_valueOf_1 (by decide) rfl ?_
  refine r_ic C (v := (0 : Int32)) dX5_valueOf_3 (by decide) ?_
  refine r_is C (lv' := [(5, .int (0 : Int32)), (4, .int (0 : Int32)), (0, .ref h), (1, .int (nI person)), (2, .int gone), (3, .int stand)]) dX5_valueOf_4 (by decide) rfl ?_
  have L12 : ∀ (k1 : Nat) (d2 : Nat) (sum_3 : Int32), (d2 + k1 = n) → (s_X5_valueOf_L6 pe co wo person gone stand k1 d2 sum_3) = V → GM p_ l e_ s_ m_ below_ meth_ c_ D 2 46 6 [.ref h, .int (nI person), .int gone, .int stand] (wY D h a1 a2 a3 a4 a5 a6 pe n td ys la ri kd dy nd co od wo) (fun _ => False) (some (Value.int V)) (wY D h a1 a2 a3 a4 a5 a6 pe n td ys la ri kd dy nd co od wo) 6 [(5, .int (nI d2)), (4, .int sum_3), (0, .ref h), (1, .int (nI person)), (2, .int gone), (3, .int stand)] [] := by
    intro k1
    induction k1 with
    | zero =>
      intro d2 sum_3 hk hv
      have hv : sum_3 = V := hv
      refine r_il C dX5_valueOf_6 0 rfl ?_
      refine r_aln C dX5_valueOf_8 rfl 2 rfl ?_
      refine gf_X5_15 C 0 rfl rfl dX5_valueOf_9 ?_
      refine r_icge C (tgt := 73) dX5_valueOf_12 (by decide) (fun c4 => ?_) (fun c4 => ?_)
      · skip
        refine r_il C dX5_valueOf_73 1 rfl ?_
        exact r_iret rfl C (congrArg (fun z => some (Value.int z)) hv) rfl dX5_valueOf_75
      · exact absurd c4 (fun z => absurd ((nv_lt (a := d2) (b := n) rfl rfl (by omega) (by omega)).mp z) (by omega))
    | succ k1 ih5 =>
      intro d2 sum_3 hk hv
      have hv : (if s_X6_isIn stand (nI d2) = (0 : Int32) then (if s_X6_isIn gone (nI d2) = (0 : Int32) then (s_X5_valueOf_L6 pe co wo person gone stand k1 (d2 + 1) sum_3) else (if s_X5_bearer pe wo d2 = nI person then (s_X5_valueOf_L6 pe co wo person gone stand k1 (d2 + 1) (sum_3 - (co d2))) else (s_X5_valueOf_L6 pe co wo person gone stand k1 (d2 + 1) sum_3))) else (if s_X6_isIn gone (nI d2) = (0 : Int32) then (s_X5_valueOf_L6 pe co wo person gone stand k1 (d2 + 1) (sum_3 + (s_X5_worthTo wo d2 person))) else (if s_X5_bearer pe wo d2 = nI person then (s_X5_valueOf_L6 pe co wo person gone stand k1 (d2 + 1) ((sum_3 + (s_X5_worthTo wo d2 person)) - (co d2))) else (s_X5_valueOf_L6 pe co wo person gone stand k1 (d2 + 1) (sum_3 + (s_X5_worthTo wo d2 person)))))) = V := hv
      refine r_il C dX5_valueOf_6 0 rfl ?_
      refine r_aln C dX5_valueOf_8 rfl 2 rfl ?_
      refine gf_X5_15 C 0 rfl rfl dX5_valueOf_9 ?_
      refine r_icge C (tgt := 73) dX5_valueOf_12 (by decide) (fun c6 => ?_) (fun c6 => ?_)
      · exact absurd ((nv_lt (a := d2) (b := n) rfl rfl (by omega) (by omega)).mpr (by omega)) c6
      · skip
        refine r_iln C dX5_valueOf_15 rfl 5 rfl ?_
        refine r_il C dX5_valueOf_16 0 rfl ?_
        refine aft_rd (st' := [.int (s_X6_isIn stand (nI d2))]) (run_SN (rest := []) C (c_X6_isIn l D stand (nI d2) ) ok_X6_isIn ws_X6_isIn wm_X5_63 [] rfl ⟨Nat.le_of_ble_eq_true rfl, Nat.le_of_ble_eq_true rfl⟩ rfl rfl (Nat.le_of_ble_eq_true rfl) dX5_valueOf_18) rfl ?_
        refine r_ifeq C (tgt := 36) dX5_valueOf_21 (by decide) (fun c7 => ?_) (fun c7 => ?_)
        · rw [if_pos c7] at hv
          refine r_iln C dX5_valueOf_36 rfl 4 rfl ?_
          refine r_il C dX5_valueOf_37 0 rfl ?_
          refine aft_rd (st' := [.int (s_X6_isIn gone (nI d2))]) (run_SN (rest := []) C (c_X6_isIn l D gone (nI d2) ) ok_X6_isIn ws_X6_isIn wm_X5_63 [] rfl ⟨Nat.le_of_ble_eq_true rfl, Nat.le_of_ble_eq_true rfl⟩ rfl rfl (Nat.le_of_ble_eq_true rfl) dX5_valueOf_39) rfl ?_
          refine r_ifeq C (tgt := 67) dX5_valueOf_42 (by decide) (fun c8 => ?_) (fun c8 => ?_)
          · rw [if_pos c8] at hv
            refine r_inc C (v := nI (d2 + 1)) (lv' := [(5, .int (nI (d2 + 1))), (4, .int sum_3), (0, .ref h), (1, .int (nI person)), (2, .int gone), (3, .int stand)]) dX5_valueOf_67 0 rfl (inc_nI d2) (by decide) rfl ?_
            refine r_goto C (tgt := 6) dX5_valueOf_70 (by decide) ?_
            exact ih5 (d2 + 1) sum_3 (by omega) hv
          · rw [if_neg c8] at hv
            refine r_aln C dX5_valueOf_45 rfl 2 rfl ?_
            refine r_il C dX5_valueOf_46 0 rfl ?_
            refine aft_rd (st' := [.int (s_X5_bearer pe wo d2)]) (run_V (rest := []) C (c_X5_bearer l D h a1 a2 a3 a4 a5 a6 pe n td ys la ri kd dy nd co od wo d2 (by omega) (by omega)) ok_X5_bearer wn_X5_bearer wl_X5_bearer wm_X5_78 [0, 1, 2, 3, 4, 5, 6] 0 rfl rfl rfl ⟨Nat.le_of_ble_eq_true rfl, Nat.le_of_ble_eq_true rfl⟩ rfl rfl (Nat.le_of_ble_eq_true rfl) dX5_valueOf_48) rfl ?_
            refine r_iln C dX5_valueOf_51 rfl 3 rfl ?_
            refine r_icne C (tgt := 67) dX5_valueOf_52 (by decide) (fun c9 => ?_) (fun c9 => ?_)
            · rw [if_neg c9] at hv
              refine r_inc C (v := nI (d2 + 1)) (lv' := [(5, .int (nI (d2 + 1))), (4, .int sum_3), (0, .ref h), (1, .int (nI person)), (2, .int gone), (3, .int stand)]) dX5_valueOf_67 0 rfl (inc_nI d2) (by decide) rfl ?_
              refine r_goto C (tgt := 6) dX5_valueOf_70 (by decide) ?_
              exact ih5 (d2 + 1) sum_3 (by omega) hv
            · rw [if_pos c9] at hv
              refine r_il C dX5_valueOf_55 1 rfl ?_
              refine r_aln C dX5_valueOf_57 rfl 2 rfl ?_
              refine gf_X5_40 C 0 rfl rfl dX5_valueOf_58 ?_
              refine r_il C dX5_valueOf_61 0 rfl ?_
              refine r_iald C 4 d2 rfl rfl (by omega) (by decide) rfl dX5_valueOf_63 ?_
              refine r_isub C dX5_valueOf_64 ?_
              refine r_is C (lv' := [(4, .int (sum_3 - (co d2))), (5, .int (nI d2)), (0, .ref h), (1, .int (nI person)), (2, .int gone), (3, .int stand)]) dX5_valueOf_65 (by decide) rfl ?_
              refine r_inc C (v := nI (d2 + 1)) (lv' := [(5, .int (nI (d2 + 1))), (4, .int (sum_3 - (co d2))), (0, .ref h), (1, .int (nI person)), (2, .int gone), (3, .int stand)]) dX5_valueOf_67 1 rfl (inc_nI d2) (by decide) rfl ?_
              refine r_goto C (tgt := 6) dX5_valueOf_70 (by decide) ?_
              exact ih5 (d2 + 1) (sum_3 - (co d2)) (by omega) hv
        · rw [if_neg c7] at hv
          refine r_il C dX5_valueOf_24 1 rfl ?_
          refine r_aln C dX5_valueOf_26 rfl 2 rfl ?_
          refine r_il C dX5_valueOf_27 0 rfl ?_
          refine r_iln C dX5_valueOf_29 rfl 3 rfl ?_
          refine aft_rd (st' := [.int (s_X5_worthTo wo d2 person), .int sum_3]) (run_V (rest := [.int sum_3]) C (c_X5_worthTo l D h a1 a2 a3 a4 a5 a6 pe n td ys la ri kd dy nd co od wo d2 person (by omega) (by omega)) ok_X5_worthTo wn_X5_worthTo wl_X5_worthTo wm_X5_59 [0, 1, 2, 3, 4, 5, 6] 0 rfl rfl rfl ⟨Nat.le_of_ble_eq_true rfl, Nat.le_of_ble_eq_true rfl⟩ rfl rfl (Nat.le_of_ble_eq_true rfl) dX5_valueOf_30) rfl ?_
          refine r_iadd C dX5_valueOf_33 ?_
          refine r_is C (lv' := [(4, .int (sum_3 + (s_X5_worthTo wo d2 person))), (5, .int (nI d2)), (0, .ref h), (1, .int (nI person)), (2, .int gone), (3, .int stand)]) dX5_valueOf_34 (by decide) rfl ?_
          refine r_iln C dX5_valueOf_36 rfl 4 rfl ?_
          refine r_il C dX5_valueOf_37 1 rfl ?_
          refine aft_rd (st' := [.int (s_X6_isIn gone (nI d2))]) (run_SN (rest := []) C (c_X6_isIn l D gone (nI d2) ) ok_X6_isIn ws_X6_isIn wm_X5_63 [] rfl ⟨Nat.le_of_ble_eq_true rfl, Nat.le_of_ble_eq_true rfl⟩ rfl rfl (Nat.le_of_ble_eq_true rfl) dX5_valueOf_39) rfl ?_
          refine r_ifeq C (tgt := 67) dX5_valueOf_42 (by decide) (fun c10 => ?_) (fun c10 => ?_)
          · rw [if_pos c10] at hv
            refine r_inc C (v := nI (d2 + 1)) (lv' := [(5, .int (nI (d2 + 1))), (4, .int (sum_3 + (s_X5_worthTo wo d2 person))), (0, .ref h), (1, .int (nI person)), (2, .int gone), (3, .int stand)]) dX5_valueOf_67 1 rfl (inc_nI d2) (by decide) rfl ?_
            refine r_goto C (tgt := 6) dX5_valueOf_70 (by decide) ?_
            exact ih5 (d2 + 1) (sum_3 + (s_X5_worthTo wo d2 person)) (by omega) hv
          · rw [if_neg c10] at hv
            refine r_aln C dX5_valueOf_45 rfl 2 rfl ?_
            refine r_il C dX5_valueOf_46 1 rfl ?_
            refine aft_rd (st' := [.int (s_X5_bearer pe wo d2)]) (run_V (rest := []) C (c_X5_bearer l D h a1 a2 a3 a4 a5 a6 pe n td ys la ri kd dy nd co od wo d2 (by omega) (by omega)) ok_X5_bearer wn_X5_bearer wl_X5_bearer wm_X5_78 [0, 1, 2, 3, 4, 5, 6] 0 rfl rfl rfl ⟨Nat.le_of_ble_eq_true rfl, Nat.le_of_ble_eq_true rfl⟩ rfl rfl (Nat.le_of_ble_eq_true rfl) dX5_valueOf_48) rfl ?_
            refine r_iln C dX5_valueOf_51 rfl 3 rfl ?_
            refine r_icne C (tgt := 67) dX5_valueOf_52 (by decide) (fun c11 => ?_) (fun c11 => ?_)
            · rw [if_neg c11] at hv
              refine r_inc C (v := nI (d2 + 1)) (lv' := [(5, .int (nI (d2 + 1))), (4, .int (sum_3 + (s_X5_worthTo wo d2 person))), (0, .ref h), (1, .int (nI person)), (2, .int gone), (3, .int stand)]) dX5_valueOf_67 1 rfl (inc_nI d2) (by decide) rfl ?_
              refine r_goto C (tgt := 6) dX5_valueOf_70 (by decide) ?_
              exact ih5 (d2 + 1) (sum_3 + (s_X5_worthTo wo d2 person)) (by omega) hv
            · rw [if_pos c11] at hv
              refine r_il C dX5_valueOf_55 0 rfl ?_
              refine r_aln C dX5_valueOf_57 rfl 2 rfl ?_
              refine gf_X5_40 C 0 rfl rfl dX5_valueOf_58 ?_
              refine r_il C dX5_valueOf_61 1 rfl ?_
              refine r_iald C 4 d2 rfl rfl (by omega) (by decide) rfl dX5_valueOf_63 ?_
              refine r_isub C dX5_valueOf_64 ?_
              refine r_is C (lv' := [(4, .int ((sum_3 + (s_X5_worthTo wo d2 person)) - (co d2))), (5, .int (nI d2)), (0, .ref h), (1, .int (nI person)), (2, .int gone), (3, .int stand)]) dX5_valueOf_65 (by decide) rfl ?_
              refine r_inc C (v := nI (d2 + 1)) (lv' := [(5, .int (nI (d2 + 1))), (4, .int ((sum_3 + (s_X5_worthTo wo d2 person)) - (co d2))), (0, .ref h), (1, .int (nI person)), (2, .int gone), (3, .int stand)]) dX5_valueOf_67 1 rfl (inc_nI d2) (by decide) rfl ?_
              refine r_goto C (tgt := 6) dX5_valueOf_70 (by decide) ?_
              exact ih5 (d2 + 1) ((sum_3 + (s_X5_worthTo wo d2 person)) - (co d2)) (by omega) hv
  refine r_lve (lv2 := [(5, .int (nI 0)), (4, .int (0 : Int32)), (0, .ref h), (1, .int (nI person)), (2, .int gone), (3, .int stand)]) (congrArg (fun (z : Int32) => ([(5, .int z), (4, .int (0 : Int32)), (0, .ref h), (1, .int (nI person)), (2, .int gone), (3, .int stand)] : List (Nat × Value))) rfl) ?_
  exact L12 n 0 (0 : Int32) (by omega) hv

def s_X5_valueBy (pe : Nat) (n : Nat) (la : Int32) (kd : Nat → Int32) (nd : Nat → Int32) (co : Nat → Int32) (wo : Nat → Int32) (person : Nat) (gone : Int32) : Int32 := s_X5_valueOf pe n co wo person gone (s_X5_standing n la kd nd gone)
set_option maxHeartbeats 8000000 in
set_option maxRecDepth 100000 in
theorem c_X5_valueBy (l : Launch) (D : va_G) (h : Nat) (a1 : Nat) (a2 : Nat) (a3 : Nat) (a4 : Nat) (a5 : Nat) (a6 : Nat) (pe : Nat) (n : Nat) (td : Int32) (ys : Int32) (la : Int32) (ri : Int32) (kd : Nat → Int32) (dy : Nat → Int32) (nd : Nat → Int32) (co : Nat → Int32) (od : Nat → Int32) (wo : Nat → Int32) (person : Nat) (gone : Int32) (hn : n ≤ 12) (hp : 1 ≤ pe ∧ pe ≤ 4) (hq : person < 4) : ct l yX5_valueBy cX5_valueBy 3 (some .int) 3 71 D [.ref h, .int (nI person), .int gone] (wY D h a1 a2 a3 a4 a5 a6 pe n td ys la ri kd dy nd co od wo) (wY D h a1 a2 a3 a4 a5 a6 pe n td ys la ri kd dy nd co od wo) (fun _ => False) (some (Value.int (s_X5_valueBy pe n la kd nd co wo person gone))) := by
  obtain ⟨V, hv⟩ : ∃ V, s_X5_valueBy pe n la kd nd co wo person gone = V := ⟨_, rfl⟩
  rw [hv]
  refine ct_intro (own := RX5) (lv := [(0, .ref h), (1, .int (nI person)), (2, .int gone)]) (by decide) rfl (Nat.le_of_ble_eq_true rfl) rfl ?_
  intro p_ e_ s_ m_ below_ meth_ c_ C
  have hv : s_X5_valueOf pe n co wo person gone (s_X5_standing n la kd nd gone) = V := hv
  refine r_aln C dX5_valueBy_0 rfl 0 rfl ?_
  refine r_iln C dX5_valueBy_1 rfl 1 rfl ?_
  refine r_iln C dX5_valueBy_2 rfl 2 rfl ?_
  refine r_aln C dX5_valueBy_3 rfl 0 rfl ?_
  refine r_iln C dX5_valueBy_4 rfl 2 rfl ?_
  refine aft_rd (st' := [.int (s_X5_standing n la kd nd gone), .int gone, .int (nI person), .ref h]) (run_V (rest := [.int gone, .int (nI person), .ref h]) C (c_X5_standing l D h a1 a2 a3 a4 a5 a6 pe n td ys la ri kd dy nd co od wo gone (by omega)) ok_X5_standing wn_X5_standing wl_X5_standing wm_X5_55 [0, 1, 2, 3, 4, 5, 6] 0 rfl rfl rfl ⟨Nat.le_of_ble_eq_true rfl, Nat.le_of_ble_eq_true rfl⟩ rfl rfl (Nat.le_of_ble_eq_true rfl) dX5_valueBy_5) rfl ?_
  refine aft_rd (st' := [.int (s_X5_valueOf pe n co wo person gone (s_X5_standing n la kd nd gone))]) (run_V (rest := []) C (c_X5_valueOf l D h a1 a2 a3 a4 a5 a6 pe n td ys la ri kd dy nd co od wo person gone (s_X5_standing n la kd nd gone) (by omega) (by omega) (by omega)) ok_X5_valueOf wn_X5_valueOf wl_X5_valueOf wm_X5_74 [0, 1, 2, 3, 4, 5, 6] 0 rfl rfl rfl ⟨Nat.le_of_ble_eq_true rfl, Nat.le_of_ble_eq_true rfl⟩ rfl rfl (Nat.le_of_ble_eq_true rfl) dX5_valueBy_8) rfl ?_
  exact r_iret rfl C (congrArg (fun z => some (Value.int z)) hv) rfl dX5_valueBy_11

def s_X5_sumBy_L11 (pe : Nat) (n : Nat) (la : Int32) (kd : Nat → Int32) (nd : Nat → Int32) (co : Nat → Int32) (wo : Nat → Int32) (gone : Int32) : Nat → Nat → Int32 → Int32
  | 0, _, sum_3 => sum_3
  | k1 + 1, d2, sum_3 => (s_X5_sumBy_L11 pe n la kd nd co wo gone k1 (d2 + 1) (sum_3 + (s_X5_valueOf pe n co wo d2 gone (s_X5_standing n la kd nd gone))))
def s_X5_sumBy (pe : Nat) (n : Nat) (la : Int32) (kd : Nat → Int32) (nd : Nat → Int32) (co : Nat → Int32) (wo : Nat → Int32) (gone : Int32) : Int32 := (s_X5_sumBy_L11 pe n la kd nd co wo gone pe 0 (0 : Int32))
set_option maxHeartbeats 8000000 in
set_option maxRecDepth 100000 in
theorem c_X5_sumBy (l : Launch) (D : va_G) (h : Nat) (a1 : Nat) (a2 : Nat) (a3 : Nat) (a4 : Nat) (a5 : Nat) (a6 : Nat) (pe : Nat) (n : Nat) (td : Int32) (ys : Int32) (la : Int32) (ri : Int32) (kd : Nat → Int32) (dy : Nat → Int32) (nd : Nat → Int32) (co : Nat → Int32) (od : Nat → Int32) (wo : Nat → Int32) (gone : Int32) (hn : n ≤ 12) (hp : 1 ≤ pe ∧ pe ≤ 4) : ct l yX5_sumBy cX5_sumBy 5 (some .int) 3 71 D [.ref h, .int gone] (wY D h a1 a2 a3 a4 a5 a6 pe n td ys la ri kd dy nd co od wo) (wY D h a1 a2 a3 a4 a5 a6 pe n td ys la ri kd dy nd co od wo) (fun _ => False) (some (Value.int (s_X5_sumBy pe n la kd nd co wo gone))) := by
  obtain ⟨V, hv⟩ : ∃ V, s_X5_sumBy pe n la kd nd co wo gone = V := ⟨_, rfl⟩
  rw [hv]
  refine ct_intro (own := RX5) (lv := [(0, .ref h), (1, .int gone)]) (by decide) rfl (Nat.le_of_ble_eq_true rfl) rfl ?_
  intro p_ e_ s_ m_ below_ meth_ c_ C
  have hv : (s_X5_sumBy_L11 pe n la kd nd co wo gone pe 0 (0 : Int32)) = V := hv
  refine r_aln C dX5_sumBy_0 rfl 0 rfl ?_
  refine r_iln C dX5_sumBy_1 rfl 1 rfl ?_
  refine aft_rd (st' := [.int (s_X5_standing n la kd nd gone)]) (run_V (rest := []) C (c_X5_standing l D h a1 a2 a3 a4 a5 a6 pe n td ys la ri kd dy nd co od wo gone (by omega)) ok_X5_standing wn_X5_standing wl_X5_standing wm_X5_55 [0, 1, 2, 3, 4, 5, 6] 0 rfl rfl rfl ⟨Nat.le_of_ble_eq_true rfl, Nat.le_of_ble_eq_true rfl⟩ rfl rfl (Nat.le_of_ble_eq_true rfl) dX5_sumBy_2) rfl ?_
  refine r_isn C (lv' := [(2, .int (s_X5_standing n la kd nd gone)), (0, .ref h), (1, .int gone)]) dX5_sumBy_5 rfl (by decide) rfl ?_
  refine r_ic C (v := (0 : Int32)) dX5_sumBy_6 (by decide) ?_
  refine r_isn C (lv' := [(3, .int (0 : Int32)), (2, .int (s_X5_standing n la kd nd gone)), (0, .ref h), (1, .int gone)]) dX5_sumBy_7 rfl (by decide) rfl ?_
  refine r_ic C (v := (0 : Int32)) dX5_sumBy_8 (by decide) ?_
  refine r_is C (lv' := [(4, .int (0 : Int32)), (3, .int (0 : Int32)), (2, .int (s_X5_standing n la kd nd gone)), (0, .ref h), (1, .int gone)]) dX5_sumBy_9 (by decide) rfl ?_
  have L7 : ∀ (k1 : Nat) (d2 : Nat) (sum_3 : Int32), (d2 + k1 = pe) → (s_X5_sumBy_L11 pe n la kd nd co wo gone k1 d2 sum_3) = V → GM p_ l e_ s_ m_ below_ meth_ c_ D 3 71 5 [.ref h, .int gone] (wY D h a1 a2 a3 a4 a5 a6 pe n td ys la ri kd dy nd co od wo) (fun _ => False) (some (Value.int V)) (wY D h a1 a2 a3 a4 a5 a6 pe n td ys la ri kd dy nd co od wo) 11 [(4, .int (nI d2)), (3, .int sum_3), (2, .int (s_X5_standing n la kd nd gone)), (0, .ref h), (1, .int gone)] [] := by
    intro k1
    induction k1 with
    | zero =>
      intro d2 sum_3 hk hv
      have hv : sum_3 = V := hv
      refine r_il C dX5_sumBy_11 0 rfl ?_
      refine r_aln C dX5_sumBy_13 rfl 3 rfl ?_
      refine gf_X5_9 C 0 rfl rfl dX5_sumBy_14 ?_
      refine r_icge C (tgt := 37) dX5_sumBy_17 (by decide) (fun c4 => ?_) (fun c4 => ?_)
      · skip
        refine r_iln C dX5_sumBy_37 rfl 1 rfl ?_
        exact r_iret rfl C (congrArg (fun z => some (Value.int z)) hv) rfl dX5_sumBy_38
      · exact absurd c4 (fun z => absurd ((nv_lt (a := d2) (b := pe) rfl rfl (by omega) (by omega)).mp z) (by omega))
    | succ k1 ih5 =>
      intro d2 sum_3 hk hv
      have hv : (s_X5_sumBy_L11 pe n la kd nd co wo gone k1 (d2 + 1) (sum_3 + (s_X5_valueOf pe n co wo d2 gone (s_X5_standing n la kd nd gone)))) = V := hv
      refine r_il C dX5_sumBy_11 0 rfl ?_
      refine r_aln C dX5_sumBy_13 rfl 3 rfl ?_
      refine gf_X5_9 C 0 rfl rfl dX5_sumBy_14 ?_
      refine r_icge C (tgt := 37) dX5_sumBy_17 (by decide) (fun c6 => ?_) (fun c6 => ?_)
      · exact absurd ((nv_lt (a := d2) (b := pe) rfl rfl (by omega) (by omega)).mpr (by omega)) c6
      · skip
        refine r_iln C dX5_sumBy_20 rfl 1 rfl ?_
        refine r_aln C dX5_sumBy_21 rfl 3 rfl ?_
        refine r_il C dX5_sumBy_22 0 rfl ?_
        refine r_iln C dX5_sumBy_24 rfl 4 rfl ?_
        refine r_iln C dX5_sumBy_25 rfl 2 rfl ?_
        refine aft_rd (st' := [.int (s_X5_valueOf pe n co wo d2 gone (s_X5_standing n la kd nd gone)), .int sum_3]) (run_V (rest := [.int sum_3]) C (c_X5_valueOf l D h a1 a2 a3 a4 a5 a6 pe n td ys la ri kd dy nd co od wo d2 gone (s_X5_standing n la kd nd gone) (by omega) (by omega) (by omega)) ok_X5_valueOf wn_X5_valueOf wl_X5_valueOf wm_X5_74 [0, 1, 2, 3, 4, 5, 6] 0 rfl rfl rfl ⟨Nat.le_of_ble_eq_true rfl, Nat.le_of_ble_eq_true rfl⟩ rfl rfl (Nat.le_of_ble_eq_true rfl) dX5_sumBy_26) rfl ?_
        refine r_iadd C dX5_sumBy_29 ?_
        refine r_isn C (lv' := [(3, .int (sum_3 + (s_X5_valueOf pe n co wo d2 gone (s_X5_standing n la kd nd gone)))), (4, .int (nI d2)), (2, .int (s_X5_standing n la kd nd gone)), (0, .ref h), (1, .int gone)]) dX5_sumBy_30 rfl (by decide) rfl ?_
        refine r_inc C (v := nI (d2 + 1)) (lv' := [(4, .int (nI (d2 + 1))), (3, .int (sum_3 + (s_X5_valueOf pe n co wo d2 gone (s_X5_standing n la kd nd gone)))), (2, .int (s_X5_standing n la kd nd gone)), (0, .ref h), (1, .int gone)]) dX5_sumBy_31 1 rfl (inc_nI d2) (by decide) rfl ?_
        refine r_goto C (tgt := 11) dX5_sumBy_34 (by decide) ?_
        exact ih5 (d2 + 1) (sum_3 + (s_X5_valueOf pe n co wo d2 gone (s_X5_standing n la kd nd gone))) (by omega) hv
  refine r_lve (lv2 := [(4, .int (nI 0)), (3, .int (0 : Int32)), (2, .int (s_X5_standing n la kd nd gone)), (0, .ref h), (1, .int gone)]) (congrArg (fun (z : Int32) => ([(4, .int z), (3, .int (0 : Int32)), (2, .int (s_X5_standing n la kd nd gone)), (0, .ref h), (1, .int gone)] : List (Nat × Value))) rfl) ?_
  exact L7 pe 0 (0 : Int32) (by omega) hv

def s_X5_clear  : Nat × Int32 × Int32 × Int32 := (0, (11 : Int32), (0 : Int32), (0 : Int32))
set_option maxHeartbeats 8000000 in
set_option maxRecDepth 100000 in
theorem c_X5_clear (l : Launch) (D : va_G) (h : Nat) (a1 : Nat) (a2 : Nat) (a3 : Nat) (a4 : Nat) (a5 : Nat) (a6 : Nat) (pe : Nat) (n : Nat) (td : Int32) (ys : Int32) (la : Int32) (ri : Int32) (kd : Nat → Int32) (dy : Nat → Int32) (nd : Nat → Int32) (co : Nat → Int32) (od : Nat → Int32) (wo : Nat → Int32) (h0 : va_D (fun _ => True) (wY D h a1 a2 a3 a4 a5 a6 pe n td ys la ri kd dy nd co od wo)) : ct l yX5_clear cX5_clear 1 none 0 0 D [.ref h] (wY D h a1 a2 a3 a4 a5 a6 pe n td ys la ri kd dy nd co od wo) (wY D h a1 a2 a3 a4 a5 a6 pe s_X5_clear.1 s_X5_clear.2.1 ys s_X5_clear.2.2.1 s_X5_clear.2.2.2 kd dy nd co od wo) (Ad (wY D h a1 a2 a3 a4 a5 a6 pe n td ys la ri kd dy nd co od wo)) (none) := by
  obtain ⟨V, hv⟩ : ∃ V, s_X5_clear = V := ⟨_, rfl⟩
  rw [hv]
  refine ct_intro (own := RX5) (lv := [(0, .ref h)]) (by decide) rfl (Nat.le_of_ble_eq_true rfl) rfl ?_
  intro p_ e_ s_ m_ below_ meth_ c_ C
  have hv : (0, (11 : Int32), (0 : Int32), (0 : Int32)) = V := hv
  refine r_aln C dX5_clear_0 rfl 0 rfl ?_
  refine r_ic C (v := (0 : Int32)) dX5_clear_1 (by decide) ?_
  refine r_top rfl ?_
  refine pf_X5_15 C (ws2 := wY D h a1 a2 a3 a4 a5 a6 pe 0 td ys la ri kd dy nd co od wo) h0 rfl 0 rfl (Nat.le_of_ble_eq_true rfl) dX5_clear_2 rfl rfl ?_
  refine r_aln C dX5_clear_5 rfl 0 rfl ?_
  refine r_bp C (v := (11 : Int32)) dX5_clear_6 (by decide) ?_
  refine pf_X5_18 C (ws2 := wY D h a1 a2 a3 a4 a5 a6 pe 0 (11 : Int32) ys la ri kd dy nd co od wo) h0 rfl 0 rfl (Nat.le_of_ble_eq_true rfl) dX5_clear_8 rfl rfl ?_
  refine r_aln C dX5_clear_11 rfl 0 rfl ?_
  refine r_ic C (v := (0 : Int32)) dX5_clear_12 (by decide) ?_
  refine pf_X5_24 C (ws2 := wY D h a1 a2 a3 a4 a5 a6 pe 0 (11 : Int32) ys (0 : Int32) ri kd dy nd co od wo) h0 rfl 0 rfl (Nat.le_of_ble_eq_true rfl) dX5_clear_13 rfl rfl ?_
  refine r_aln C dX5_clear_16 rfl 0 rfl ?_
  refine r_ic C (v := (0 : Int32)) dX5_clear_17 (by decide) ?_
  refine pf_X5_27 C (ws2 := wY D h a1 a2 a3 a4 a5 a6 pe 0 (11 : Int32) ys (0 : Int32) (0 : Int32) kd dy nd co od wo) h0 rfl 0 rfl (Nat.le_of_ble_eq_true rfl) dX5_clear_18 rfl rfl ?_
  exact r_vret rfl C (by rw [← hv]) dX5_clear_21

def s_X5_add_L64 (n : Nat) : Nat → Nat → (Nat → Int32) → (Nat → Int32)
  | 0, _, wo_4 => wo_4
  | k2 + 1, d3, wo_4 => (s_X5_add_L64 n k2 (d3 + 1) (upd wo_4 ((n * 4) + d3) (0 : Int32)))
def s_X5_add (n : Nat) (kd : Nat → Int32) (dy : Nat → Int32) (nd : Nat → Int32) (co : Nat → Int32) (od : Nat → Int32) (wo : Nat → Int32) (kind : Int32) (day : Int32) (need : Int32) : Int32 × Nat × (Nat → Int32) × (Nat → Int32) × (Nat → Int32) × (Nat → Int32) × (Nat → Int32) × (Nat → Int32) := (if nI n < (12 : Int32) then ((1 : Int32), n + 1, upd kd n kind, upd dy n day, upd nd n need, upd co n (1 : Int32), upd od n (4 : Int32), (s_X5_add_L64 n 4 0 wo)) else ((0 : Int32), n, kd, dy, nd, co, od, wo))
set_option maxHeartbeats 8000000 in
set_option maxRecDepth 100000 in
theorem c_X5_add (l : Launch) (D : va_G) (h : Nat) (a1 : Nat) (a2 : Nat) (a3 : Nat) (a4 : Nat) (a5 : Nat) (a6 : Nat) (pe : Nat) (n : Nat) (td : Int32) (ys : Int32) (la : Int32) (ri : Int32) (kd : Nat → Int32) (dy : Nat → Int32) (nd : Nat → Int32) (co : Nat → Int32) (od : Nat → Int32) (wo : Nat → Int32) (kind : Int32) (day : Int32) (need : Int32) (hn : n ≤ 12) (h0 : va_D (fun _ => True) (wY D h a1 a2 a3 a4 a5 a6 pe n td ys la ri kd dy nd co od wo)) : ct l yX5_add cX5_add 5 (some .boolean) 0 0 D [.ref h, .int kind, .int day, .int need] (wY D h a1 a2 a3 a4 a5 a6 pe n td ys la ri kd dy nd co od wo) (wY D h a1 a2 a3 a4 a5 a6 pe (s_X5_add n kd dy nd co od wo kind day need).2.1 td ys la ri (s_X5_add n kd dy nd co od wo kind day need).2.2.1 (s_X5_add n kd dy nd co od wo kind day need).2.2.2.1 (s_X5_add n kd dy nd co od wo kind day need).2.2.2.2.1 (s_X5_add n kd dy nd co od wo kind day need).2.2.2.2.2.1 (s_X5_add n kd dy nd co od wo kind day need).2.2.2.2.2.2.1 (s_X5_add n kd dy nd co od wo kind day need).2.2.2.2.2.2.2) (Ad (wY D h a1 a2 a3 a4 a5 a6 pe n td ys la ri kd dy nd co od wo)) (some (Value.int (s_X5_add n kd dy nd co od wo kind day need).1)) := by
  obtain ⟨V, hv⟩ : ∃ V, s_X5_add n kd dy nd co od wo kind day need = V := ⟨_, rfl⟩
  rw [hv]
  refine ct_intro (own := RX5) (lv := [(0, .ref h), (1, .int kind), (2, .int day), (3, .int need)]) (by decide) rfl (Nat.le_of_ble_eq_true rfl) rfl ?_
  intro p_ e_ s_ m_ below_ meth_ c_ C
  have hv : (if nI n < (12 : Int32) then ((1 : Int32), n + 1, upd kd n kind, upd dy n day, upd nd n need, upd co n (1 : Int32), upd od n (4 : Int32), (s_X5_add_L64 n 4 0 wo)) else ((0 : Int32), n, kd, dy, nd, co, od, wo)) = V := hv
  refine r_aln C dX5_add_0 rfl 0 rfl ?_
  refine gf_X5_15 C 0 rfl rfl dX5_add_1 ?_
  refine r_bp C (v := (12 : Int32)) dX5_add_4 (by decide) ?_
  refine r_iclt C (tgt := 11) dX5_add_6 (by decide) (fun c1 => ?_) (fun c1 => ?_)
  · rw [if_pos c1] at hv
    have fc1 : n < 12 := (nv_lt (a := n) (b := 12) rfl rfl (by omega) (by omega)).mp c1
    refine r_aln C dX5_add_11 rfl 0 rfl ?_
    refine gf_X5_30 C 0 rfl rfl dX5_add_12 ?_
    refine r_aln C dX5_add_15 rfl 0 rfl ?_
    refine gf_X5_15 C 0 rfl rfl dX5_add_16 ?_
    refine r_iln C dX5_add_19 rfl 1 rfl ?_
    refine r_iast C (ws2 := wY D h a1 a2 a3 a4 a5 a6 pe n td ys la ri (upd kd n kind) dy nd co od wo) h0 rfl 1 n rfl rfl (by omega) (by decide) dX5_add_20 rfl rfl ?_
    refine r_aln C dX5_add_21 rfl 0 rfl ?_
    refine gf_X5_34 C 0 rfl rfl dX5_add_22 ?_
    refine r_aln C dX5_add_25 rfl 0 rfl ?_
    refine gf_X5_15 C 0 rfl rfl dX5_add_26 ?_
    refine r_iln C dX5_add_29 rfl 2 rfl ?_
    refine r_iast C (ws2 := wY D h a1 a2 a3 a4 a5 a6 pe n td ys la ri (upd kd n kind) (upd dy n day) nd co od wo) h0 rfl 2 n rfl rfl (by omega) (by decide) dX5_add_30 rfl rfl ?_
    refine r_aln C dX5_add_31 rfl 0 rfl ?_
    refine gf_X5_37 C 0 rfl rfl dX5_add_32 ?_
    refine r_aln C dX5_add_35 rfl 0 rfl ?_
    refine gf_X5_15 C 0 rfl rfl dX5_add_36 ?_
    refine r_iln C dX5_add_39 rfl 3 rfl ?_
    refine r_iast C (ws2 := wY D h a1 a2 a3 a4 a5 a6 pe n td ys la ri (upd kd n kind) (upd dy n day) (upd nd n need) co od wo) h0 rfl 3 n rfl rfl (by omega) (by decide) dX5_add_40 rfl rfl ?_
    refine r_aln C dX5_add_41 rfl 0 rfl ?_
    refine gf_X5_40 C 0 rfl rfl dX5_add_42 ?_
    refine r_aln C dX5_add_45 rfl 0 rfl ?_
    refine gf_X5_15 C 0 rfl rfl dX5_add_46 ?_
    refine r_ic C (v := (1 : Int32)) dX5_add_49 (by decide) ?_
    refine r_iast C (ws2 := wY D h a1 a2 a3 a4 a5 a6 pe n td ys la ri (upd kd n kind) (upd dy n day) (upd nd n need) (upd co n (1 : Int32)) od wo) h0 rfl 4 n rfl rfl (by omega) (by decide) dX5_add_50 rfl rfl ?_
    refine r_aln C dX5_add_51 rfl 0 rfl ?_
    refine gf_X5_43 C 0 rfl rfl dX5_add_52 ?_
    refine r_aln C dX5_add_55 rfl 0 rfl ?_
    refine gf_X5_15 C 0 rfl rfl dX5_add_56 ?_
    refine r_ic C (v := (4 : Int32)) dX5_add_59 (by decide) ?_
    refine r_iast C (ws2 := wY D h a1 a2 a3 a4 a5 a6 pe n td ys la ri (upd kd n kind) (upd dy n day) (upd nd n need) (upd co n (1 : Int32)) (upd od n (4 : Int32)) wo) h0 rfl 5 n rfl rfl (by omega) (by decide) dX5_add_60 rfl rfl ?_
    refine r_ic C (v := (0 : Int32)) dX5_add_61 (by decide) ?_
    refine r_is C (lv' := [(4, .int (0 : Int32)), (0, .ref h), (1, .int kind), (2, .int day), (3, .int need)]) dX5_add_62 (by decide) rfl ?_
    have L8 : ∀ (k2 : Nat) (d3 : Nat) (wo_4 : Nat → Int32), (d3 + k2 = 4) → ((1 : Int32), n + 1, upd kd n kind, upd dy n day, upd nd n need, upd co n (1 : Int32), upd od n (4 : Int32), (s_X5_add_L64 n k2 d3 wo_4)) = V → GM p_ l e_ s_ m_ below_ meth_ c_ D 0 0 5 [.ref h, .int kind, .int day, .int need] (wY D h a1 a2 a3 a4 a5 a6 pe V.2.1 td ys la ri V.2.2.1 V.2.2.2.1 V.2.2.2.2.1 V.2.2.2.2.2.1 V.2.2.2.2.2.2.1 V.2.2.2.2.2.2.2) (Ad (wY D h a1 a2 a3 a4 a5 a6 pe n td ys la ri kd dy nd co od wo)) (some (Value.int V.1)) (wY D h a1 a2 a3 a4 a5 a6 pe n td ys la ri (upd kd n kind) (upd dy n day) (upd nd n need) (upd co n (1 : Int32)) (upd od n (4 : Int32)) wo_4) 64 [(4, .int (nI d3)), (0, .ref h), (1, .int kind), (2, .int day), (3, .int need)] [] := by
      intro k2
      induction k2 with
      | zero =>
        intro d3 wo_4 hk hv
        have hv : ((1 : Int32), n + 1, upd kd n kind, upd dy n day, upd nd n need, upd co n (1 : Int32), upd od n (4 : Int32), wo_4) = V := hv
        refine r_il C dX5_add_64 0 rfl ?_
        refine r_ic C (v := (4 : Int32)) dX5_add_66 (by decide) ?_
        refine r_icge C (tgt := 91) dX5_add_67 (by decide) (fun c5 => ?_) (fun c5 => ?_)
        · skip
          refine r_aln C dX5_add_91 rfl 1 rfl ?_
          refine r_dup C dX5_add_92 rfl ?_
          refine gf_X5_15 C 0 rfl rfl dX5_add_93 ?_
          refine r_ic C (v := (1 : Int32)) dX5_add_96 (by decide) ?_
          refine r_iadd C dX5_add_97 ?_
          refine r_top (nv_add rfl rfl) ?_
          refine pf_X5_15 C (ws2 := wY D h a1 a2 a3 a4 a5 a6 pe (n + 1) td ys la ri (upd kd n kind) (upd dy n day) (upd nd n need) (upd co n (1 : Int32)) (upd od n (4 : Int32)) wo_4) h0 rfl 0 rfl (Nat.le_of_ble_eq_true rfl) dX5_add_98 rfl rfl ?_
          refine r_ic C (v := (1 : Int32)) dX5_add_101 (by decide) ?_
          exact r_zret rfl C rfl (by rw [← hv]) (by rw [← hv]) dX5_add_102
        · exact absurd c5 (fun z => absurd ((nv_lt (a := d3) (b := 4) rfl rfl (by omega) (by omega)).mp z) (by omega))
      | succ k2 ih6 =>
        intro d3 wo_4 hk hv
        have hv : ((1 : Int32), n + 1, upd kd n kind, upd dy n day, upd nd n need, upd co n (1 : Int32), upd od n (4 : Int32), (s_X5_add_L64 n k2 (d3 + 1) (upd wo_4 ((n * 4) + d3) (0 : Int32)))) = V := hv
        refine r_il C dX5_add_64 0 rfl ?_
        refine r_ic C (v := (4 : Int32)) dX5_add_66 (by decide) ?_
        refine r_icge C (tgt := 91) dX5_add_67 (by decide) (fun c7 => ?_) (fun c7 => ?_)
        · exact absurd ((nv_lt (a := d3) (b := 4) rfl rfl (by omega) (by omega)).mpr (by omega)) c7
        · skip
          refine r_aln C dX5_add_70 rfl 1 rfl ?_
          refine gf_X5_46 C 0 rfl rfl dX5_add_71 ?_
          refine r_aln C dX5_add_74 rfl 1 rfl ?_
          refine gf_X5_15 C 0 rfl rfl dX5_add_75 ?_
          refine r_ic C (v := (4 : Int32)) dX5_add_78 (by decide) ?_
          refine r_imul C dX5_add_79 ?_
          refine r_il C dX5_add_80 0 rfl ?_
          refine r_iadd C dX5_add_82 ?_
          refine r_ic C (v := (0 : Int32)) dX5_add_83 (by decide) ?_
          refine r_iast C (ws2 := wY D h a1 a2 a3 a4 a5 a6 pe n td ys la ri (upd kd n kind) (upd dy n day) (upd nd n need) (upd co n (1 : Int32)) (upd od n (4 : Int32)) (upd wo_4 ((n * 4) + d3) (0 : Int32))) h0 rfl 6 ((n * 4) + d3) rfl (nv_add (nv_mul rfl rfl) rfl) (by omega) (by decide) dX5_add_84 rfl rfl ?_
          refine r_inc C (v := nI (d3 + 1)) (lv' := [(4, .int (nI (d3 + 1))), (0, .ref h), (1, .int kind), (2, .int day), (3, .int need)]) dX5_add_85 0 rfl (inc_nI d3) (by decide) rfl ?_
          refine r_goto C (tgt := 64) dX5_add_88 (by decide) ?_
          exact ih6 (d3 + 1) (upd wo_4 ((n * 4) + d3) (0 : Int32)) (by omega) hv
    refine r_lve (lv2 := [(4, .int (nI 0)), (0, .ref h), (1, .int kind), (2, .int day), (3, .int need)]) (congrArg (fun (z : Int32) => ([(4, .int z), (0, .ref h), (1, .int kind), (2, .int day), (3, .int need)] : List (Nat × Value))) rfl) ?_
    exact L8 4 0 wo (by omega) hv
  · rw [if_neg c1] at hv
    have fc1 : ¬ (n < 12) := fun z => c1 ((nv_lt (a := n) (b := 12) rfl rfl (by omega) (by omega)).mpr z)
    refine r_ic C (v := (0 : Int32)) dX5_add_9 (by decide) ?_
    exact r_zret rfl C rfl (by rw [← hv]) (by rw [← hv]) dX5_add_10

def s_X5_beginNext (n : Nat) (ys : Int32) (la : Int32) (ri : Int32) (kd : Nat → Int32) (nd : Nat → Int32) : Int32 × Int32 × Int32 × Int32 := ((11 : Int32), ys + (1 : Int32), s_X5_standing n la kd nd ri, (0 : Int32))
set_option maxHeartbeats 8000000 in
set_option maxRecDepth 100000 in
theorem c_X5_beginNext (l : Launch) (D : va_G) (h : Nat) (a1 : Nat) (a2 : Nat) (a3 : Nat) (a4 : Nat) (a5 : Nat) (a6 : Nat) (pe : Nat) (n : Nat) (td : Int32) (ys : Int32) (la : Int32) (ri : Int32) (kd : Nat → Int32) (dy : Nat → Int32) (nd : Nat → Int32) (co : Nat → Int32) (od : Nat → Int32) (wo : Nat → Int32) (hn : n ≤ 12) (h0 : va_D (fun _ => True) (wY D h a1 a2 a3 a4 a5 a6 pe n td ys la ri kd dy nd co od wo)) : ct l yX5_beginNext cX5_beginNext 1 none 3 69 D [.ref h] (wY D h a1 a2 a3 a4 a5 a6 pe n td ys la ri kd dy nd co od wo) (wY D h a1 a2 a3 a4 a5 a6 pe n (s_X5_beginNext n ys la ri kd nd).1 (s_X5_beginNext n ys la ri kd nd).2.1 (s_X5_beginNext n ys la ri kd nd).2.2.1 (s_X5_beginNext n ys la ri kd nd).2.2.2 kd dy nd co od wo) (Ad (wY D h a1 a2 a3 a4 a5 a6 pe n td ys la ri kd dy nd co od wo)) (none) := by
  obtain ⟨V, hv⟩ : ∃ V, s_X5_beginNext n ys la ri kd nd = V := ⟨_, rfl⟩
  rw [hv]
  refine ct_intro (own := RX5) (lv := [(0, .ref h)]) (by decide) rfl (Nat.le_of_ble_eq_true rfl) rfl ?_
  intro p_ e_ s_ m_ below_ meth_ c_ C
  have hv : ((11 : Int32), ys + (1 : Int32), s_X5_standing n la kd nd ri, (0 : Int32)) = V := hv
  refine r_aln C dX5_beginNext_0 rfl 0 rfl ?_
  refine r_aln C dX5_beginNext_1 rfl 0 rfl ?_
  refine r_aln C dX5_beginNext_2 rfl 0 rfl ?_
  refine gf_X5_27 C 0 rfl rfl dX5_beginNext_3 ?_
  refine aft_rd (st' := [.int (s_X5_standing n la kd nd ri), .ref h]) (run_V (rest := [.ref h]) C (c_X5_standing l D h a1 a2 a3 a4 a5 a6 pe n td ys la ri kd dy nd co od wo ri (by omega)) ok_X5_standing wn_X5_standing wl_X5_standing wm_X5_55 [0, 1, 2, 3, 4, 5, 6] 0 rfl rfl rfl ⟨Nat.le_of_ble_eq_true rfl, Nat.le_of_ble_eq_true rfl⟩ rfl rfl (Nat.le_of_ble_eq_true rfl) dX5_beginNext_6) rfl ?_
  refine pf_X5_24 C (ws2 := wY D h a1 a2 a3 a4 a5 a6 pe n td ys (s_X5_standing n la kd nd ri) ri kd dy nd co od wo) h0 rfl 0 rfl (Nat.le_of_ble_eq_true rfl) dX5_beginNext_9 rfl rfl ?_
  refine r_aln C dX5_beginNext_12 rfl 0 rfl ?_
  refine r_ic C (v := (0 : Int32)) dX5_beginNext_13 (by decide) ?_
  refine pf_X5_27 C (ws2 := wY D h a1 a2 a3 a4 a5 a6 pe n td ys (s_X5_standing n la kd nd ri) (0 : Int32) kd dy nd co od wo) h0 rfl 0 rfl (Nat.le_of_ble_eq_true rfl) dX5_beginNext_14 rfl rfl ?_
  refine r_aln C dX5_beginNext_17 rfl 0 rfl ?_
  refine r_bp C (v := (11 : Int32)) dX5_beginNext_18 (by decide) ?_
  refine pf_X5_18 C (ws2 := wY D h a1 a2 a3 a4 a5 a6 pe n (11 : Int32) ys (s_X5_standing n la kd nd ri) (0 : Int32) kd dy nd co od wo) h0 rfl 0 rfl (Nat.le_of_ble_eq_true rfl) dX5_beginNext_20 rfl rfl ?_
  refine r_aln C dX5_beginNext_23 rfl 0 rfl ?_
  refine r_dup C dX5_beginNext_24 rfl ?_
  refine gf_X5_21 C 0 rfl rfl dX5_beginNext_25 ?_
  refine r_ic C (v := (1 : Int32)) dX5_beginNext_28 (by decide) ?_
  refine r_iadd C dX5_beginNext_29 ?_
  refine pf_X5_21 C (ws2 := wY D h a1 a2 a3 a4 a5 a6 pe n (11 : Int32) (ys + (1 : Int32)) (s_X5_standing n la kd nd ri) (0 : Int32) kd dy nd co od wo) h0 rfl 0 rfl (Nat.le_of_ble_eq_true rfl) dX5_beginNext_30 rfl rfl ?_
  exact r_vret rfl C (by rw [← hv]) dX5_beginNext_33
