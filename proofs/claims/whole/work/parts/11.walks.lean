abbrev wA8 (D : va_G) (a : Nat) (f : Nat → Int32) : va_W := [(a, .inl (D.1 10, 8, .inl f))]
abbrev wA4 (D : va_G) (a : Nat) (f : Nat → Int32) : va_W := [(a, .inl (D.1 10, 4, .inl f))]
def s_X1_fits_L3 (f : Nat → Int32) (kind : Int32) (need : Int32) (itself : Int32) (K : Int32) : Nat → Nat → Int32
  | 0, _ => K
  | k1 + 1, d2 => (if (f d2) &&& itself = (0 : Int32) then (if s_X5_isMet kind need (f d2) = (0 : Int32) then (s_X1_fits_L3 f kind need itself K k1 (d2 + 1)) else (0 : Int32)) else (if s_X5_isMet kind need (f d2) = (1 : Int32) then (s_X1_fits_L3 f kind need itself K k1 (d2 + 1)) else (0 : Int32)))
def s_X1_fits (f : Nat → Int32) (kind : Int32) (need : Int32) (itself : Int32) (m : Nat) : Int32 := (s_X1_fits_L3 f kind need itself (1 : Int32) m 0)
set_option maxHeartbeats 8000000 in
set_option maxRecDepth 100000 in
theorem c_X1_fits (l : Launch) (D : va_G) (a : Nat) (f : Nat → Int32) (kind : Int32) (need : Int32) (itself : Int32) (m : Nat) (hm : m ≤ 8) : ct l yX1_fits cX1_fits 7 (some .boolean) 1 23 D [.int kind, .int need, .int itself, .ref a, .int (nI m)] (wA8 D a f) (wA8 D a f) (fun _ => False) (some (Value.int (s_X1_fits f kind need itself m))) := by
  obtain ⟨V, hv⟩ : ∃ V, s_X1_fits f kind need itself m = V := ⟨_, rfl⟩
  rw [hv]
  refine ct_intro (own := RX1) (lv := [(0, .int kind), (1, .int need), (2, .int itself), (3, .ref a), (4, .int (nI m))]) (by decide) rfl (Nat.le_of_ble_eq_true rfl) rfl ?_
  intro p_ e_ s_ m_ below_ meth_ c_ C
  have hv : (s_X1_fits_L3 f kind need itself (1 : Int32) m 0) = V := hv
  refine r_ic C (v := (0 : Int32)) dX1_fits_0 (by decide) ?_
  refine r_is C (lv' := [(5, .int (0 : Int32)), (0, .int kind), (1, .int need), (2, .int itself), (3, .ref a), (4, .int (nI m))]) dX1_fits_1 (by decide) rfl ?_
  have L10 : ∀ (k1 : Nat) (d2 : Nat), (d2 + k1 = m) → (s_X1_fits_L3 f kind need itself (1 : Int32) k1 d2) = V → GM p_ l e_ s_ m_ below_ meth_ c_ D 1 23 7 [.int kind, .int need, .int itself, .ref a, .int (nI m)] (wA8 D a f) (fun _ => False) (some (Value.int V)) (wA8 D a f) 3 [(5, .int (nI d2)), (0, .int kind), (1, .int need), (2, .int itself), (3, .ref a), (4, .int (nI m))] [] := by
    intro k1
    induction k1 with
    | zero =>
      intro d2 hk hv
      have hv : (1 : Int32) = V := hv
      refine r_il C dX1_fits_3 0 rfl ?_
      refine r_il C dX1_fits_5 5 rfl ?_
      refine r_icge C (tgt := 55) dX1_fits_7 (by decide) (fun c3 => ?_) (fun c3 => ?_)
      · skip
        refine r_ic C (v := (1 : Int32)) dX1_fits_55 (by decide) ?_
        exact r_zret rfl C rfl (congrArg (fun z => some (Value.int z)) hv) rfl dX1_fits_56
      · exact absurd c3 (fun z => absurd ((nv_lt (a := d2) (b := m) rfl rfl (by omega) (by omega)).mp z) (by omega))
    | succ k1 ih4 =>
      intro d2 hk hv
      have hv : (if (f d2) &&& itself = (0 : Int32) then (if s_X5_isMet kind need (f d2) = (0 : Int32) then (s_X1_fits_L3 f kind need itself (1 : Int32) k1 (d2 + 1)) else (0 : Int32)) else (if s_X5_isMet kind need (f d2) = (1 : Int32) then (s_X1_fits_L3 f kind need itself (1 : Int32) k1 (d2 + 1)) else (0 : Int32))) = V := hv
      refine r_il C dX1_fits_3 0 rfl ?_
      refine r_il C dX1_fits_5 5 rfl ?_
      refine r_icge C (tgt := 55) dX1_fits_7 (by decide) (fun c5 => ?_) (fun c5 => ?_)
      · exact absurd ((nv_lt (a := d2) (b := m) rfl rfl (by omega) (by omega)).mpr (by omega)) c5
      · skip
        refine r_il C dX1_fits_10 0 rfl ?_
        refine r_aln C dX1_fits_12 rfl 4 rfl ?_
        refine r_alen C 0 0 rfl rfl dX1_fits_13 ?_
        refine r_icge C (tgt := 55) dX1_fits_14 (by decide) (fun c6 => ?_) (fun c6 => ?_)
        · exact absurd ((nv_lt (a := d2) (b := 8) rfl rfl (by omega) (by omega)).mpr (by omega)) c6
        · skip
          refine r_aln C dX1_fits_17 rfl 4 rfl ?_
          refine r_il C dX1_fits_18 0 rfl ?_
          refine r_iald C 0 d2 rfl rfl (by omega) (by decide) rfl dX1_fits_20 ?_
          refine r_iln C dX1_fits_21 rfl 3 rfl ?_
          refine r_iand C dX1_fits_22 ?_
          refine r_ifeq C (tgt := 30) dX1_fits_23 (by decide) (fun c7 => ?_) (fun c7 => ?_)
          · rw [if_pos c7] at hv
            refine r_ic C (v := (0 : Int32)) dX1_fits_30 (by decide) ?_
            refine r_is C (lv' := [(6, .int (0 : Int32)), (5, .int (nI d2)), (0, .int kind), (1, .int need), (2, .int itself), (3, .ref a), (4, .int (nI m))]) dX1_fits_31 (by decide) rfl ?_
            refine r_iln C dX1_fits_33 rfl 2 rfl ?_
            refine r_iln C dX1_fits_34 rfl 3 rfl ?_
            refine r_aln C dX1_fits_35 rfl 5 rfl ?_
            refine r_il C dX1_fits_36 1 rfl ?_
            refine r_iald C 0 d2 rfl rfl (by omega) (by decide) rfl dX1_fits_38 ?_
            refine aft_rd (st' := [.int (s_X5_isMet kind need (f d2))]) (run_SN (rest := []) C (c_X5_isMet l D kind need (f d2) ) ok_X5_isMet ws_X5_isMet wm_X1_9 [] rfl ⟨Nat.le_of_ble_eq_true rfl, Nat.le_of_ble_eq_true rfl⟩ rfl rfl (Nat.le_of_ble_eq_true rfl) dX1_fits_39) rfl ?_
            refine r_il C dX1_fits_42 0 rfl ?_
            refine r_iceq C (tgt := 49) dX1_fits_44 (by decide) (fun c8 => ?_) (fun c8 => ?_)
            · rw [if_pos c8] at hv
              refine r_inc C (v := nI (d2 + 1)) (lv' := [(5, .int (nI (d2 + 1))), (6, .int (0 : Int32)), (0, .int kind), (1, .int need), (2, .int itself), (3, .ref a), (4, .int (nI m))]) dX1_fits_49 1 rfl (inc_nI d2) (by decide) rfl ?_
              refine r_goto C (tgt := 3) dX1_fits_52 (by decide) ?_
              refine r_lv [0, 2, 3, 4, 5, 6] rfl ?_
              exact ih4 (d2 + 1) (by omega) hv
            · rw [if_neg c8] at hv
              refine r_ic C (v := (0 : Int32)) dX1_fits_47 (by decide) ?_
              exact r_zret rfl C rfl (congrArg (fun z => some (Value.int z)) hv) rfl dX1_fits_48
          · rw [if_neg c7] at hv
            refine r_ic C (v := (1 : Int32)) dX1_fits_26 (by decide) ?_
            refine r_goto C (tgt := 31) dX1_fits_27 (by decide) ?_
            refine r_is C (lv' := [(6, .int (1 : Int32)), (5, .int (nI d2)), (0, .int kind), (1, .int need), (2, .int itself), (3, .ref a), (4, .int (nI m))]) dX1_fits_31 (by decide) rfl ?_
            refine r_iln C dX1_fits_33 rfl 2 rfl ?_
            refine r_iln C dX1_fits_34 rfl 3 rfl ?_
            refine r_aln C dX1_fits_35 rfl 5 rfl ?_
            refine r_il C dX1_fits_36 1 rfl ?_
            refine r_iald C 0 d2 rfl rfl (by omega) (by decide) rfl dX1_fits_38 ?_
            refine aft_rd (st' := [.int (s_X5_isMet kind need (f d2))]) (run_SN (rest := []) C (c_X5_isMet l D kind need (f d2) ) ok_X5_isMet ws_X5_isMet wm_X1_9 [] rfl ⟨Nat.le_of_ble_eq_true rfl, Nat.le_of_ble_eq_true rfl⟩ rfl rfl (Nat.le_of_ble_eq_true rfl) dX1_fits_39) rfl ?_
            refine r_il C dX1_fits_42 0 rfl ?_
            refine r_iceq C (tgt := 49) dX1_fits_44 (by decide) (fun c9 => ?_) (fun c9 => ?_)
            · rw [if_pos c9] at hv
              refine r_inc C (v := nI (d2 + 1)) (lv' := [(5, .int (nI (d2 + 1))), (6, .int (1 : Int32)), (0, .int kind), (1, .int need), (2, .int itself), (3, .ref a), (4, .int (nI m))]) dX1_fits_49 1 rfl (inc_nI d2) (by decide) rfl ?_
              refine r_goto C (tgt := 3) dX1_fits_52 (by decide) ?_
              refine r_lv [0, 2, 3, 4, 5, 6] rfl ?_
              exact ih4 (d2 + 1) (by omega) hv
            · rw [if_neg c9] at hv
              refine r_ic C (v := (0 : Int32)) dX1_fits_47 (by decide) ?_
              exact r_zret rfl C rfl (congrArg (fun z => some (Value.int z)) hv) rfl dX1_fits_48
  refine r_lve (lv2 := [(5, .int (nI 0)), (0, .int kind), (1, .int need), (2, .int itself), (3, .ref a), (4, .int (nI m))]) (congrArg (fun (z : Int32) => ([(5, .int z), (0, .int kind), (1, .int need), (2, .int itself), (3, .ref a), (4, .int (nI m))] : List (Nat × Value))) rfl) ?_
  exact L10 m 0 (by omega) hv

def s_X1_explains_L2 (la : Int32) (kd : Nat → Int32) (nd : Nat → Int32) (stood : Int32) (others : Int32) (K : Int32) : Nat → Nat → Int32
  | 0, _ => K
  | k1 + 1, d2 => (if s_X6_isIn others (nI d2) = (0 : Int32) then (s_X1_explains_L2 la kd nd stood others K k1 (d2 + 1)) else (if s_X5_wouldStand la kd nd d2 stood = s_X6_isIn stood (nI d2) then (s_X1_explains_L2 la kd nd stood others K k1 (d2 + 1)) else (0 : Int32)))
def s_X1_explains (n : Nat) (la : Int32) (kd : Nat → Int32) (nd : Nat → Int32) (stood : Int32) (others : Int32) : Int32 := (s_X1_explains_L2 la kd nd stood others (1 : Int32) n 0)
set_option maxHeartbeats 8000000 in
set_option maxRecDepth 100000 in
theorem c_X1_explains (l : Launch) (D : va_G) (h : Nat) (a1 : Nat) (a2 : Nat) (a3 : Nat) (a4 : Nat) (a5 : Nat) (a6 : Nat) (pe : Nat) (n : Nat) (td : Int32) (ys : Int32) (la : Int32) (ri : Int32) (kd : Nat → Int32) (dy : Nat → Int32) (nd : Nat → Int32) (co : Nat → Int32) (od : Nat → Int32) (wo : Nat → Int32) (stood : Int32) (others : Int32) (hn : n ≤ 12) : ct l yX1_explains cX1_explains 4 (some .boolean) 2 46 D [.ref h, .int stood, .int others] (wY D h a1 a2 a3 a4 a5 a6 pe n td ys la ri kd dy nd co od wo) (wY D h a1 a2 a3 a4 a5 a6 pe n td ys la ri kd dy nd co od wo) (fun _ => False) (some (Value.int (s_X1_explains n la kd nd stood others))) := by
  obtain ⟨V, hv⟩ : ∃ V, s_X1_explains n la kd nd stood others = V := ⟨_, rfl⟩
  rw [hv]
  refine ct_intro (own := RX1) (lv := [(0, .ref h), (1, .int stood), (2, .int others)]) (by decide) rfl (Nat.le_of_ble_eq_true rfl) rfl ?_
  intro p_ e_ s_ m_ below_ meth_ c_ C
  have hv : (s_X1_explains_L2 la kd nd stood others (1 : Int32) n 0) = V := hv
  refine r_ic C (v := (0 : Int32)) dX1_explains_0 (by decide) ?_
  refine r_isn C (lv' := [(3, .int (0 : Int32)), (0, .ref h), (1, .int stood), (2, .int others)]) dX1_explains_1 rfl (by decide) rfl ?_
  have L8 : ∀ (k1 : Nat) (d2 : Nat), (d2 + k1 = n) → (s_X1_explains_L2 la kd nd stood others (1 : Int32) k1 d2) = V → GM p_ l e_ s_ m_ below_ meth_ c_ D 2 46 4 [.ref h, .int stood, .int others] (wY D h a1 a2 a3 a4 a5 a6 pe n td ys la ri kd dy nd co od wo) (fun _ => False) (some (Value.int V)) (wY D h a1 a2 a3 a4 a5 a6 pe n td ys la ri kd dy nd co od wo) 2 [(3, .int (nI d2)), (0, .ref h), (1, .int stood), (2, .int others)] [] := by
    intro k1
    induction k1 with
    | zero =>
      intro d2 hk hv
      have hv : (1 : Int32) = V := hv
      refine r_iln C dX1_explains_2 rfl 0 rfl ?_
      refine r_aln C dX1_explains_3 rfl 1 rfl ?_
      refine gf_X1_15 C 0 rfl rfl dX1_explains_4 ?_
      refine r_icge C (tgt := 40) dX1_explains_7 (by decide) (fun c3 => ?_) (fun c3 => ?_)
      · skip
        refine r_ic C (v := (1 : Int32)) dX1_explains_40 (by decide) ?_
        exact r_zret rfl C rfl (congrArg (fun z => some (Value.int z)) hv) rfl dX1_explains_41
      · exact absurd c3 (fun z => absurd ((nv_lt (a := d2) (b := n) rfl rfl (by omega) (by omega)).mp z) (by omega))
    | succ k1 ih4 =>
      intro d2 hk hv
      have hv : (if s_X6_isIn others (nI d2) = (0 : Int32) then (s_X1_explains_L2 la kd nd stood others (1 : Int32) k1 (d2 + 1)) else (if s_X5_wouldStand la kd nd d2 stood = s_X6_isIn stood (nI d2) then (s_X1_explains_L2 la kd nd stood others (1 : Int32) k1 (d2 + 1)) else (0 : Int32))) = V := hv
      refine r_iln C dX1_explains_2 rfl 0 rfl ?_
      refine r_aln C dX1_explains_3 rfl 1 rfl ?_
      refine gf_X1_15 C 0 rfl rfl dX1_explains_4 ?_
      refine r_icge C (tgt := 40) dX1_explains_7 (by decide) (fun c5 => ?_) (fun c5 => ?_)
      · exact absurd ((nv_lt (a := d2) (b := n) rfl rfl (by omega) (by omega)).mpr (by omega)) c5
      · skip
        refine r_iln C dX1_explains_10 rfl 3 rfl ?_
        refine r_iln C dX1_explains_11 rfl 0 rfl ?_
        refine aft_rd (st' := [.int (s_X6_isIn others (nI d2))]) (run_SN (rest := []) C (c_X6_isIn l D others (nI d2) ) ok_X6_isIn ws_X6_isIn wm_X1_19 [] rfl ⟨Nat.le_of_ble_eq_true rfl, Nat.le_of_ble_eq_true rfl⟩ rfl rfl (Nat.le_of_ble_eq_true rfl) dX1_explains_12) rfl ?_
        refine r_ifeq C (tgt := 34) dX1_explains_15 (by decide) (fun c6 => ?_) (fun c6 => ?_)
        · rw [if_pos c6] at hv
          refine r_inc C (v := nI (d2 + 1)) (lv' := [(3, .int (nI (d2 + 1))), (0, .ref h), (1, .int stood), (2, .int others)]) dX1_explains_34 0 rfl (inc_nI d2) (by decide) rfl ?_
          refine r_goto C (tgt := 2) dX1_explains_37 (by decide) ?_
          exact ih4 (d2 + 1) (by omega) hv
        · rw [if_neg c6] at hv
          refine r_aln C dX1_explains_18 rfl 1 rfl ?_
          refine r_iln C dX1_explains_19 rfl 0 rfl ?_
          refine r_iln C dX1_explains_20 rfl 2 rfl ?_
          refine aft_rd (st' := [.int (s_X5_wouldStand la kd nd d2 stood)]) (run_VN (rest := []) C (c_X5_wouldStand l D h a1 a2 a3 a4 a5 a6 pe n td ys la ri kd dy nd co od wo d2 stood (by omega)) ok_X5_wouldStand wn_X5_wouldStand wl_X5_wouldStand wm_X1_23 [0, 1, 2, 3, 4, 5, 6] 0 rfl rfl rfl ⟨Nat.le_of_ble_eq_true rfl, Nat.le_of_ble_eq_true rfl⟩ rfl rfl (Nat.le_of_ble_eq_true rfl) dX1_explains_21) rfl ?_
          refine r_iln C dX1_explains_24 rfl 2 rfl ?_
          refine r_iln C dX1_explains_25 rfl 0 rfl ?_
          refine aft_rd (st' := [.int (s_X6_isIn stood (nI d2)), .int (s_X5_wouldStand la kd nd d2 stood)]) (run_SN (rest := [.int (s_X5_wouldStand la kd nd d2 stood)]) C (c_X6_isIn l D stood (nI d2) ) ok_X6_isIn ws_X6_isIn wm_X1_19 [] rfl ⟨Nat.le_of_ble_eq_true rfl, Nat.le_of_ble_eq_true rfl⟩ rfl rfl (Nat.le_of_ble_eq_true rfl) dX1_explains_26) rfl ?_
          refine r_iceq C (tgt := 34) dX1_explains_29 (by decide) (fun c7 => ?_) (fun c7 => ?_)
          · rw [if_pos c7] at hv
            refine r_inc C (v := nI (d2 + 1)) (lv' := [(3, .int (nI (d2 + 1))), (0, .ref h), (1, .int stood), (2, .int others)]) dX1_explains_34 0 rfl (inc_nI d2) (by decide) rfl ?_
            refine r_goto C (tgt := 2) dX1_explains_37 (by decide) ?_
            exact ih4 (d2 + 1) (by omega) hv
          · rw [if_neg c7] at hv
            refine r_ic C (v := (0 : Int32)) dX1_explains_32 (by decide) ?_
            exact r_zret rfl C rfl (congrArg (fun z => some (Value.int z)) hv) rfl dX1_explains_33
  refine r_lve (lv2 := [(3, .int (nI 0)), (0, .ref h), (1, .int stood), (2, .int others)]) (congrArg (fun (z : Int32) => ([(3, .int z), (0, .ref h), (1, .int stood), (2, .int others)] : List (Nat × Value))) rfl) ?_
  exact L8 n 0 (by omega) hv

def s_X1_parts (deeds : Int32) : Int64 := (1 : Int64) <<< (((2 : Int32) * deeds).toInt64 &&& 63)
set_option maxHeartbeats 8000000 in
set_option maxRecDepth 100000 in
theorem c_X1_parts (l : Launch) (D : va_G) (deeds : Int32) : ct l yX1_parts cX1_parts 1 (some .long) 0 0 D [.int deeds] (([] : va_W)) (([] : va_W)) (fun _ => False) (some (Value.long (s_X1_parts deeds))) := by
  obtain ⟨V, hv⟩ : ∃ V, s_X1_parts deeds = V := ⟨_, rfl⟩
  rw [hv]
  refine ct_intro (own := RX1) (lv := [(0, .int deeds)]) (by decide) rfl (Nat.le_of_ble_eq_true rfl) rfl ?_
  intro p_ e_ s_ m_ below_ meth_ c_ C
  have hv : (1 : Int64) <<< (((2 : Int32) * deeds).toInt64 &&& 63) = V := hv
  refine r_lc C (v := (1 : Int64)) dX1_parts_0 (by decide) ?_
  refine r_ic C (v := (2 : Int32)) dX1_parts_1 (by decide) ?_
  refine r_iln C dX1_parts_2 rfl 0 rfl ?_
  refine r_imul C dX1_parts_3 ?_
  refine r_lshl C dX1_parts_4 ?_
  exact r_lret rfl C (congrArg (fun z => some (Value.long z)) hv) rfl dX1_parts_5

def s_X1_halvings_L10 (mean : Int64) (deeds : Int32) (K : Int32) : Nat → Nat → Int32
  | 0, _ => K
  | k1 + 1, d2 => (if lg_cmp (((mean ||| (s_X1_parts deeds)) >>> ((nI d2).toInt64 &&& 63)) &&& (1 : Int64)) (0 : Int64) = (0 : Int32) then (s_X1_halvings_L10 mean deeds K k1 (d2 + 1)) else nI d2)
def s_X1_halvings (mean : Int64) (deeds : Int32) : Int32 := (s_X1_halvings_L10 mean deeds (nI 24) 24 0)
set_option maxHeartbeats 8000000 in
set_option maxRecDepth 100000 in
theorem c_X1_halvings (l : Launch) (D : va_G) (mean : Int64) (deeds : Int32) : ct l yX1_halvings cX1_halvings 6 (some .int) 1 20 D [.long mean, .int deeds] (([] : va_W)) (([] : va_W)) (fun _ => False) (some (Value.int (s_X1_halvings mean deeds))) := by
  obtain ⟨V, hv⟩ : ∃ V, s_X1_halvings mean deeds = V := ⟨_, rfl⟩
  rw [hv]
  refine ct_intro (own := RX1) (lv := [(0, .long mean), (2, .int deeds)]) (by decide) rfl (Nat.le_of_ble_eq_true rfl) rfl ?_
  intro p_ e_ s_ m_ below_ meth_ c_ C
  have hv : (s_X1_halvings_L10 mean deeds (nI 24) 24 0) = V := hv
  refine r_lln C dX1_halvings_0 rfl 0 rfl ?_
  refine r_iln C dX1_halvings_1 rfl 1 rfl ?_
  refine aft_rd (st' := [.long (s_X1_parts deeds), .long mean]) (run_S (rest := [.long mean]) C (c_X1_parts l D deeds ) ok_X1_parts ws_X1_parts wm_X1_26 [] rfl ⟨Nat.le_of_ble_eq_true rfl, Nat.le_of_ble_eq_true rfl⟩ rfl rfl (Nat.le_of_ble_eq_true rfl) dX1_halvings_2) rfl ?_
  refine r_lor C dX1_halvings_5 ?_
  refine r_lsn C (lv' := [(3, .long (mean ||| (s_X1_parts deeds))), (0, .long mean), (2, .int deeds)]) dX1_halvings_6 rfl (by decide) rfl ?_
  refine r_ic C (v := (0 : Int32)) dX1_halvings_7 (by decide) ?_
  refine r_is C (lv' := [(5, .int (0 : Int32)), (3, .long (mean ||| (s_X1_parts deeds))), (0, .long mean), (2, .int deeds)]) dX1_halvings_8 (by decide) rfl ?_
  have L7 : ∀ (k1 : Nat) (d2 : Nat), (d2 + k1 = 24) → (s_X1_halvings_L10 mean deeds (nI 24) k1 d2) = V → GM p_ l e_ s_ m_ below_ meth_ c_ D 1 20 6 [.long mean, .int deeds] (([] : va_W)) (fun _ => False) (some (Value.int V)) (([] : va_W)) 10 [(5, .int (nI d2)), (3, .long (mean ||| (s_X1_parts deeds))), (0, .long mean), (2, .int deeds)] [] := by
    intro k1
    induction k1 with
    | zero =>
      intro d2 hk hv
      obtain rfl : d2 = 24 := by omega
      have hv : nI 24 = V := hv
      refine r_il C dX1_halvings_10 0 rfl ?_
      refine r_bp C (v := (24 : Int32)) dX1_halvings_12 (by decide) ?_
      refine r_icge C (tgt := 34) dX1_halvings_14 (by decide) (fun c3 => ?_) (fun c3 => ?_)
      · skip
        refine r_il C dX1_halvings_34 0 rfl ?_
        exact r_iret rfl C (congrArg (fun z => some (Value.int z)) hv) rfl dX1_halvings_36
      · exact absurd c3 (fun z => absurd ((nv_lt (a := 24) (b := 24) rfl rfl (by omega) (by omega)).mp z) (by omega))
    | succ k1 ih4 =>
      intro d2 hk hv
      have hv : (if lg_cmp (((mean ||| (s_X1_parts deeds)) >>> ((nI d2).toInt64 &&& 63)) &&& (1 : Int64)) (0 : Int64) = (0 : Int32) then (s_X1_halvings_L10 mean deeds (nI 24) k1 (d2 + 1)) else nI d2) = V := hv
      refine r_il C dX1_halvings_10 0 rfl ?_
      refine r_bp C (v := (24 : Int32)) dX1_halvings_12 (by decide) ?_
      refine r_icge C (tgt := 34) dX1_halvings_14 (by decide) (fun c5 => ?_) (fun c5 => ?_)
      · exact absurd ((nv_lt (a := d2) (b := 24) rfl rfl (by omega) (by omega)).mpr (by omega)) c5
      · skip
        refine r_lln C dX1_halvings_17 rfl 1 rfl ?_
        refine r_il C dX1_halvings_18 0 rfl ?_
        refine r_lshr C dX1_halvings_20 ?_
        refine r_lc C (v := (1 : Int64)) dX1_halvings_21 (by decide) ?_
        refine r_land C dX1_halvings_22 ?_
        refine r_lc C (v := (0 : Int64)) dX1_halvings_23 (by decide) ?_
        refine r_lcmp C dX1_halvings_24 ?_
        refine r_ifne C (tgt := 34) dX1_halvings_25 (by decide) (fun c6 => ?_) (fun c6 => ?_)
        · rw [if_neg c6] at hv
          refine r_il C dX1_halvings_34 0 rfl ?_
          exact r_iret rfl C (congrArg (fun z => some (Value.int z)) hv) rfl dX1_halvings_36
        · rw [if_pos c6] at hv
          refine r_inc C (v := nI (d2 + 1)) (lv' := [(5, .int (nI (d2 + 1))), (3, .long (mean ||| (s_X1_parts deeds))), (0, .long mean), (2, .int deeds)]) dX1_halvings_28 0 rfl (inc_nI d2) (by decide) rfl ?_
          refine r_goto C (tgt := 10) dX1_halvings_31 (by decide) ?_
          exact ih4 (d2 + 1) (by omega) hv
  refine r_lve (lv2 := [(5, .int (nI 0)), (3, .long (mean ||| (s_X1_parts deeds))), (0, .long mean), (2, .int deeds)]) (congrArg (fun (z : Int32) => ([(5, .int z), (3, .long (mean ||| (s_X1_parts deeds))), (0, .long mean), (2, .int deeds)] : List (Nat × Value))) rfl) ?_
  exact L7 24 0 (by omega) hv

def s_X0_dueFor_L15 (pe : Nat) (wo : Nat → Int32) (deed : Nat) : Nat → Nat → Int32 → Int32 → Int32 × Int32
  | 0, _, first_3, harmed_4 => (first_3, harmed_4)
  | k1 + 1, d2, first_3, harmed_4 => (if nI d2 = s_X5_bearer pe wo deed then (s_X0_dueFor_L15 pe wo deed k1 (d2 + 1) first_3 harmed_4) else (if s_X5_worthTo wo deed d2 < (0 : Int32) then (if harmed_4 = (0 : Int32) then (s_X0_dueFor_L15 pe wo deed k1 (d2 + 1) (nI d2) (harmed_4 + (1 : Int32))) else (s_X0_dueFor_L15 pe wo deed k1 (d2 + 1) first_3 (harmed_4 + (1 : Int32)))) else (s_X0_dueFor_L15 pe wo deed k1 (d2 + 1) first_3 harmed_4)))
def s_X0_dueFor (pe : Nat) (co : Nat → Int32) (wo : Nat → Int32) (deed : Nat) (person : Nat) : Int32 := (if ((s_X0_dueFor_L15 pe wo deed pe 0 (-1 : Int32) (0 : Int32)).2) = (0 : Int32) then (0 : Int32) else (if nI person = s_X5_bearer pe wo deed then -(co deed) else (if s_X5_worthTo wo deed person < (0 : Int32) then (if nI person = ((s_X0_dueFor_L15 pe wo deed pe 0 (-1 : Int32) (0 : Int32)).1) then ((co deed) / ((s_X0_dueFor_L15 pe wo deed pe 0 (-1 : Int32) (0 : Int32)).2)) + ((co deed) - (co deed) / ((s_X0_dueFor_L15 pe wo deed pe 0 (-1 : Int32) (0 : Int32)).2) * ((s_X0_dueFor_L15 pe wo deed pe 0 (-1 : Int32) (0 : Int32)).2)) else ((co deed) / ((s_X0_dueFor_L15 pe wo deed pe 0 (-1 : Int32) (0 : Int32)).2)) + (0 : Int32)) else (0 : Int32))))
set_option maxHeartbeats 8000000 in
set_option maxRecDepth 100000 in
theorem c_X0_dueFor (l : Launch) (D : va_G) (h : Nat) (a1 : Nat) (a2 : Nat) (a3 : Nat) (a4 : Nat) (a5 : Nat) (a6 : Nat) (pe : Nat) (n : Nat) (td : Int32) (ys : Int32) (la : Int32) (ri : Int32) (kd : Nat → Int32) (dy : Nat → Int32) (nd : Nat → Int32) (co : Nat → Int32) (od : Nat → Int32) (wo : Nat → Int32) (deed : Nat) (person : Nat) (hd : deed < 12) (hp : 1 ≤ pe ∧ pe ≤ 4) (hq : person < 4) : ct l yX0_dueFor cX0_dueFor 7 (some .int) 2 46 D [.ref h, .int (nI deed), .int (nI person)] (wY D h a1 a2 a3 a4 a5 a6 pe n td ys la ri kd dy nd co od wo) (wY D h a1 a2 a3 a4 a5 a6 pe n td ys la ri kd dy nd co od wo) (fun _ => False) (some (Value.int (s_X0_dueFor pe co wo deed person))) := by
  obtain ⟨V, hv⟩ : ∃ V, s_X0_dueFor pe co wo deed person = V := ⟨_, rfl⟩
  rw [hv]
  refine ct_intro (own := RX0) (lv := [(0, .ref h), (1, .int (nI deed)), (2, .int (nI person))]) (by decide) rfl (Nat.le_of_ble_eq_true rfl) rfl ?_
  intro p_ e_ s_ m_ below_ meth_ c_ C
  have hv : (if ((s_X0_dueFor_L15 pe wo deed pe 0 (-1 : Int32) (0 : Int32)).2) = (0 : Int32) then (0 : Int32) else (if nI person = s_X5_bearer pe wo deed then -(co deed) else (if s_X5_worthTo wo deed person < (0 : Int32) then (if nI person = ((s_X0_dueFor_L15 pe wo deed pe 0 (-1 : Int32) (0 : Int32)).1) then ((co deed) / ((s_X0_dueFor_L15 pe wo deed pe 0 (-1 : Int32) (0 : Int32)).2)) + ((co deed) - (co deed) / ((s_X0_dueFor_L15 pe wo deed pe 0 (-1 : Int32) (0 : Int32)).2) * ((s_X0_dueFor_L15 pe wo deed pe 0 (-1 : Int32) (0 : Int32)).2)) else ((co deed) / ((s_X0_dueFor_L15 pe wo deed pe 0 (-1 : Int32) (0 : Int32)).2)) + (0 : Int32)) else (0 : Int32)))) = V := hv
  refine r_aln C dX0_dueFor_0 rfl 0 rfl ?_
  refine r_iln C dX0_dueFor_1 rfl 1 rfl ?_
  refine aft_rd (st' := [.int (s_X5_bearer pe wo deed)]) (run_VN (rest := []) C (c_X5_bearer l D h a1 a2 a3 a4 a5 a6 pe n td ys la ri kd dy nd co od wo deed (by omega) (by omega)) ok_X5_bearer wn_X5_bearer wl_X5_bearer wm_X0_28 [0, 1, 2, 3, 4, 5, 6] 0 rfl rfl rfl ⟨Nat.le_of_ble_eq_true rfl, Nat.le_of_ble_eq_true rfl⟩ rfl rfl (Nat.le_of_ble_eq_true rfl) dX0_dueFor_2) rfl ?_
  refine r_isn C (lv' := [(3, .int (s_X5_bearer pe wo deed)), (0, .ref h), (1, .int (nI deed)), (2, .int (nI person))]) dX0_dueFor_5 rfl (by decide) rfl ?_
  refine r_ic C (v := (-1 : Int32)) dX0_dueFor_6 (by decide) ?_
  refine r_is C (lv' := [(4, .int (-1 : Int32)), (3, .int (s_X5_bearer pe wo deed)), (0, .ref h), (1, .int (nI deed)), (2, .int (nI person))]) dX0_dueFor_7 (by decide) rfl ?_
  refine r_ic C (v := (0 : Int32)) dX0_dueFor_9 (by decide) ?_
  refine r_is C (lv' := [(5, .int (0 : Int32)), (4, .int (-1 : Int32)), (3, .int (s_X5_bearer pe wo deed)), (0, .ref h), (1, .int (nI deed)), (2, .int (nI person))]) dX0_dueFor_10 (by decide) rfl ?_
  refine r_ic C (v := (0 : Int32)) dX0_dueFor_12 (by decide) ?_
  refine r_is C (lv' := [(6, .int (0 : Int32)), (5, .int (0 : Int32)), (4, .int (-1 : Int32)), (3, .int (s_X5_bearer pe wo deed)), (0, .ref h), (1, .int (nI deed)), (2, .int (nI person))]) dX0_dueFor_13 (by decide) rfl ?_
  have L15 : ∀ (k1 : Nat) (d2 : Nat) (first_3 : Int32) (harmed_4 : Int32), (d2 + k1 = pe) → (if ((s_X0_dueFor_L15 pe wo deed k1 d2 first_3 harmed_4).2) = (0 : Int32) then (0 : Int32) else (if nI person = s_X5_bearer pe wo deed then -(co deed) else (if s_X5_worthTo wo deed person < (0 : Int32) then (if nI person = ((s_X0_dueFor_L15 pe wo deed k1 d2 first_3 harmed_4).1) then ((co deed) / ((s_X0_dueFor_L15 pe wo deed k1 d2 first_3 harmed_4).2)) + ((co deed) - (co deed) / ((s_X0_dueFor_L15 pe wo deed k1 d2 first_3 harmed_4).2) * ((s_X0_dueFor_L15 pe wo deed k1 d2 first_3 harmed_4).2)) else ((co deed) / ((s_X0_dueFor_L15 pe wo deed k1 d2 first_3 harmed_4).2)) + (0 : Int32)) else (0 : Int32)))) = V → GM p_ l e_ s_ m_ below_ meth_ c_ D 2 46 7 [.ref h, .int (nI deed), .int (nI person)] (wY D h a1 a2 a3 a4 a5 a6 pe n td ys la ri kd dy nd co od wo) (fun _ => False) (some (Value.int V)) (wY D h a1 a2 a3 a4 a5 a6 pe n td ys la ri kd dy nd co od wo) 15 [(6, .int (nI d2)), (5, .int harmed_4), (4, .int first_3), (3, .int (s_X5_bearer pe wo deed)), (0, .ref h), (1, .int (nI deed)), (2, .int (nI person))] [] := by
    intro k1
    induction k1 with
    | zero =>
      intro d2 first_3 harmed_4 hk hv
      have hv : (if harmed_4 = (0 : Int32) then (0 : Int32) else (if nI person = s_X5_bearer pe wo deed then -(co deed) else (if s_X5_worthTo wo deed person < (0 : Int32) then (if nI person = first_3 then ((co deed) / harmed_4) + ((co deed) - (co deed) / harmed_4 * harmed_4) else ((co deed) / harmed_4) + (0 : Int32)) else (0 : Int32)))) = V := hv
      refine r_il C dX0_dueFor_15 0 rfl ?_
      refine r_aln C dX0_dueFor_17 rfl 4 rfl ?_
      refine gf_X0_32 C 0 rfl rfl dX0_dueFor_18 ?_
      refine r_icge C (tgt := 63) dX0_dueFor_21 (by decide) (fun c5 => ?_) (fun c5 => ?_)
      · skip
        refine r_il C dX0_dueFor_63 1 rfl ?_
        refine r_ifne C (tgt := 70) dX0_dueFor_65 (by decide) (fun c6 => ?_) (fun c6 => ?_)
        · rw [if_neg c6] at hv
          refine r_iln C dX0_dueFor_70 rfl 6 rfl ?_
          refine r_iln C dX0_dueFor_71 rfl 3 rfl ?_
          refine r_icne C (tgt := 83) dX0_dueFor_72 (by decide) (fun c7 => ?_) (fun c7 => ?_)
          · rw [if_neg c7] at hv
            refine r_aln C dX0_dueFor_83 rfl 4 rfl ?_
            refine r_iln C dX0_dueFor_84 rfl 5 rfl ?_
            refine r_iln C dX0_dueFor_85 rfl 6 rfl ?_
            refine aft_rd (st' := [.int (s_X5_worthTo wo deed person)]) (run_VN (rest := []) C (c_X5_worthTo l D h a1 a2 a3 a4 a5 a6 pe n td ys la ri kd dy nd co od wo deed person (by omega) (by omega)) ok_X5_worthTo wn_X5_worthTo wl_X5_worthTo wm_X0_35 [0, 1, 2, 3, 4, 5, 6] 0 rfl rfl rfl ⟨Nat.le_of_ble_eq_true rfl, Nat.le_of_ble_eq_true rfl⟩ rfl rfl (Nat.le_of_ble_eq_true rfl) dX0_dueFor_86) rfl ?_
            refine r_iflt C (tgt := 94) dX0_dueFor_89 (by decide) (fun c8 => ?_) (fun c8 => ?_)
            · rw [if_pos c8] at hv
              refine r_iln C dX0_dueFor_94 rfl 6 rfl ?_
              refine r_il C dX0_dueFor_95 2 rfl ?_
              refine r_icne C (tgt := 112) dX0_dueFor_97 (by decide) (fun c9 => ?_) (fun c9 => ?_)
              · rw [if_neg c9] at hv
                refine r_ic C (v := (0 : Int32)) dX0_dueFor_112 (by decide) ?_
                refine r_is C (lv' := [(6, .int (0 : Int32)), (5, .int harmed_4), (4, .int first_3), (3, .int (s_X5_bearer pe wo deed)), (0, .ref h), (1, .int (nI deed)), (2, .int (nI person))]) dX0_dueFor_113 (by decide) rfl ?_
                refine r_aln C dX0_dueFor_115 rfl 4 rfl ?_
                refine gf_X0_39 C 0 rfl rfl dX0_dueFor_116 ?_
                refine r_iln C dX0_dueFor_119 rfl 5 rfl ?_
                refine r_iald C 4 deed rfl rfl (by omega) (by decide) rfl dX0_dueFor_120 ?_
                refine r_il C dX0_dueFor_121 1 rfl ?_
                refine r_idiv C dX0_dueFor_123 c6 ?_
                refine r_il C dX0_dueFor_124 0 rfl ?_
                refine r_iadd C dX0_dueFor_126 ?_
                exact r_iret rfl C (congrArg (fun z => some (Value.int z)) hv) rfl dX0_dueFor_127
              · rw [if_pos c9] at hv
                refine r_aln C dX0_dueFor_100 rfl 4 rfl ?_
                refine gf_X0_39 C 0 rfl rfl dX0_dueFor_101 ?_
                refine r_iln C dX0_dueFor_104 rfl 5 rfl ?_
                refine r_iald C 4 deed rfl rfl (by omega) (by decide) rfl dX0_dueFor_105 ?_
                refine r_il C dX0_dueFor_106 1 rfl ?_
                refine r_irem C dX0_dueFor_108 c6 ?_
                refine r_goto C (tgt := 113) dX0_dueFor_109 (by decide) ?_
                refine r_is C (lv' := [(6, .int ((co deed) - (co deed) / harmed_4 * harmed_4)), (5, .int harmed_4), (4, .int first_3), (3, .int (s_X5_bearer pe wo deed)), (0, .ref h), (1, .int (nI deed)), (2, .int (nI person))]) dX0_dueFor_113 (by decide) rfl ?_
                refine r_aln C dX0_dueFor_115 rfl 4 rfl ?_
                refine gf_X0_39 C 0 rfl rfl dX0_dueFor_116 ?_
                refine r_iln C dX0_dueFor_119 rfl 5 rfl ?_
                refine r_iald C 4 deed rfl rfl (by omega) (by decide) rfl dX0_dueFor_120 ?_
                refine r_il C dX0_dueFor_121 1 rfl ?_
                refine r_idiv C dX0_dueFor_123 c6 ?_
                refine r_il C dX0_dueFor_124 0 rfl ?_
                refine r_iadd C dX0_dueFor_126 ?_
                exact r_iret rfl C (congrArg (fun z => some (Value.int z)) hv) rfl dX0_dueFor_127
            · rw [if_neg c8] at hv
              refine r_ic C (v := (0 : Int32)) dX0_dueFor_92 (by decide) ?_
              exact r_iret rfl C (congrArg (fun z => some (Value.int z)) hv) rfl dX0_dueFor_93
          · rw [if_pos c7] at hv
            refine r_aln C dX0_dueFor_75 rfl 4 rfl ?_
            refine gf_X0_39 C 0 rfl rfl dX0_dueFor_76 ?_
            refine r_iln C dX0_dueFor_79 rfl 5 rfl ?_
            refine r_iald C 4 deed rfl rfl (by omega) (by decide) rfl dX0_dueFor_80 ?_
            refine r_ineg C dX0_dueFor_81 ?_
            exact r_iret rfl C (congrArg (fun z => some (Value.int z)) hv) rfl dX0_dueFor_82
        · rw [if_pos c6] at hv
          refine r_ic C (v := (0 : Int32)) dX0_dueFor_68 (by decide) ?_
          exact r_iret rfl C (congrArg (fun z => some (Value.int z)) hv) rfl dX0_dueFor_69
      · exact absurd c5 (fun z => absurd ((nv_lt (a := d2) (b := pe) rfl rfl (by omega) (by omega)).mp z) (by omega))
    | succ k1 ih10 =>
      intro d2 first_3 harmed_4 hk hv
      have hv : (if ((if nI d2 = s_X5_bearer pe wo deed then (s_X0_dueFor_L15 pe wo deed k1 (d2 + 1) first_3 harmed_4) else (if s_X5_worthTo wo deed d2 < (0 : Int32) then (if harmed_4 = (0 : Int32) then (s_X0_dueFor_L15 pe wo deed k1 (d2 + 1) (nI d2) (harmed_4 + (1 : Int32))) else (s_X0_dueFor_L15 pe wo deed k1 (d2 + 1) first_3 (harmed_4 + (1 : Int32)))) else (s_X0_dueFor_L15 pe wo deed k1 (d2 + 1) first_3 harmed_4))).2) = (0 : Int32) then (0 : Int32) else (if nI person = s_X5_bearer pe wo deed then -(co deed) else (if s_X5_worthTo wo deed person < (0 : Int32) then (if nI person = ((if nI d2 = s_X5_bearer pe wo deed then (s_X0_dueFor_L15 pe wo deed k1 (d2 + 1) first_3 harmed_4) else (if s_X5_worthTo wo deed d2 < (0 : Int32) then (if harmed_4 = (0 : Int32) then (s_X0_dueFor_L15 pe wo deed k1 (d2 + 1) (nI d2) (harmed_4 + (1 : Int32))) else (s_X0_dueFor_L15 pe wo deed k1 (d2 + 1) first_3 (harmed_4 + (1 : Int32)))) else (s_X0_dueFor_L15 pe wo deed k1 (d2 + 1) first_3 harmed_4))).1) then ((co deed) / ((if nI d2 = s_X5_bearer pe wo deed then (s_X0_dueFor_L15 pe wo deed k1 (d2 + 1) first_3 harmed_4) else (if s_X5_worthTo wo deed d2 < (0 : Int32) then (if harmed_4 = (0 : Int32) then (s_X0_dueFor_L15 pe wo deed k1 (d2 + 1) (nI d2) (harmed_4 + (1 : Int32))) else (s_X0_dueFor_L15 pe wo deed k1 (d2 + 1) first_3 (harmed_4 + (1 : Int32)))) else (s_X0_dueFor_L15 pe wo deed k1 (d2 + 1) first_3 harmed_4))).2)) + ((co deed) - (co deed) / ((if nI d2 = s_X5_bearer pe wo deed then (s_X0_dueFor_L15 pe wo deed k1 (d2 + 1) first_3 harmed_4) else (if s_X5_worthTo wo deed d2 < (0 : Int32) then (if harmed_4 = (0 : Int32) then (s_X0_dueFor_L15 pe wo deed k1 (d2 + 1) (nI d2) (harmed_4 + (1 : Int32))) else (s_X0_dueFor_L15 pe wo deed k1 (d2 + 1) first_3 (harmed_4 + (1 : Int32)))) else (s_X0_dueFor_L15 pe wo deed k1 (d2 + 1) first_3 harmed_4))).2) * ((if nI d2 = s_X5_bearer pe wo deed then (s_X0_dueFor_L15 pe wo deed k1 (d2 + 1) first_3 harmed_4) else (if s_X5_worthTo wo deed d2 < (0 : Int32) then (if harmed_4 = (0 : Int32) then (s_X0_dueFor_L15 pe wo deed k1 (d2 + 1) (nI d2) (harmed_4 + (1 : Int32))) else (s_X0_dueFor_L15 pe wo deed k1 (d2 + 1) first_3 (harmed_4 + (1 : Int32)))) else (s_X0_dueFor_L15 pe wo deed k1 (d2 + 1) first_3 harmed_4))).2)) else ((co deed) / ((if nI d2 = s_X5_bearer pe wo deed then (s_X0_dueFor_L15 pe wo deed k1 (d2 + 1) first_3 harmed_4) else (if s_X5_worthTo wo deed d2 < (0 : Int32) then (if harmed_4 = (0 : Int32) then (s_X0_dueFor_L15 pe wo deed k1 (d2 + 1) (nI d2) (harmed_4 + (1 : Int32))) else (s_X0_dueFor_L15 pe wo deed k1 (d2 + 1) first_3 (harmed_4 + (1 : Int32)))) else (s_X0_dueFor_L15 pe wo deed k1 (d2 + 1) first_3 harmed_4))).2)) + (0 : Int32)) else (0 : Int32)))) = V := hv
      refine r_il C dX0_dueFor_15 0 rfl ?_
      refine r_aln C dX0_dueFor_17 rfl 4 rfl ?_
      refine gf_X0_32 C 0 rfl rfl dX0_dueFor_18 ?_
      refine r_icge C (tgt := 63) dX0_dueFor_21 (by decide) (fun c11 => ?_) (fun c11 => ?_)
      · exact absurd ((nv_lt (a := d2) (b := pe) rfl rfl (by omega) (by omega)).mpr (by omega)) c11
      · skip
        refine r_il C dX0_dueFor_24 0 rfl ?_
        refine r_iln C dX0_dueFor_26 rfl 3 rfl ?_
        refine r_iceq C (tgt := 57) dX0_dueFor_27 (by decide) (fun c12 => ?_) (fun c12 => ?_)
        · rw [if_pos c12] at hv
          refine r_inc C (v := nI (d2 + 1)) (lv' := [(6, .int (nI (d2 + 1))), (5, .int harmed_4), (4, .int first_3), (3, .int (s_X5_bearer pe wo deed)), (0, .ref h), (1, .int (nI deed)), (2, .int (nI person))]) dX0_dueFor_57 0 rfl (inc_nI d2) (by decide) rfl ?_
          refine r_goto C (tgt := 15) dX0_dueFor_60 (by decide) ?_
          exact ih10 (d2 + 1) first_3 harmed_4 (by omega) hv
        · rw [if_neg c12] at hv
          refine r_aln C dX0_dueFor_30 rfl 4 rfl ?_
          refine r_iln C dX0_dueFor_31 rfl 5 rfl ?_
          refine r_il C dX0_dueFor_32 0 rfl ?_
          refine aft_rd (st' := [.int (s_X5_worthTo wo deed d2)]) (run_VN (rest := []) C (c_X5_worthTo l D h a1 a2 a3 a4 a5 a6 pe n td ys la ri kd dy nd co od wo deed d2 (by omega) (by omega)) ok_X5_worthTo wn_X5_worthTo wl_X5_worthTo wm_X0_35 [0, 1, 2, 3, 4, 5, 6] 0 rfl rfl rfl ⟨Nat.le_of_ble_eq_true rfl, Nat.le_of_ble_eq_true rfl⟩ rfl rfl (Nat.le_of_ble_eq_true rfl) dX0_dueFor_34) rfl ?_
          refine r_ifge C (tgt := 57) dX0_dueFor_37 (by decide) (fun c13 => ?_) (fun c13 => ?_)
          · rw [if_neg c13] at hv
            refine r_inc C (v := nI (d2 + 1)) (lv' := [(6, .int (nI (d2 + 1))), (5, .int harmed_4), (4, .int first_3), (3, .int (s_X5_bearer pe wo deed)), (0, .ref h), (1, .int (nI deed)), (2, .int (nI person))]) dX0_dueFor_57 0 rfl (inc_nI d2) (by decide) rfl ?_
            refine r_goto C (tgt := 15) dX0_dueFor_60 (by decide) ?_
            exact ih10 (d2 + 1) first_3 harmed_4 (by omega) hv
          · rw [if_pos c13] at hv
            refine r_il C dX0_dueFor_40 1 rfl ?_
            refine r_ifne C (tgt := 50) dX0_dueFor_42 (by decide) (fun c14 => ?_) (fun c14 => ?_)
            · rw [if_neg c14] at hv
              refine r_il C dX0_dueFor_50 2 rfl ?_
              refine r_is C (lv' := [(4, .int first_3), (6, .int (nI d2)), (5, .int harmed_4), (3, .int (s_X5_bearer pe wo deed)), (0, .ref h), (1, .int (nI deed)), (2, .int (nI person))]) dX0_dueFor_52 (by decide) rfl ?_
              refine r_inc C (v := harmed_4 + (1 : Int32)) (lv' := [(5, .int (harmed_4 + (1 : Int32))), (4, .int first_3), (6, .int (nI d2)), (3, .int (s_X5_bearer pe wo deed)), (0, .ref h), (1, .int (nI deed)), (2, .int (nI person))]) dX0_dueFor_54 2 rfl (by rfl) (by decide) rfl ?_
              refine r_inc C (v := nI (d2 + 1)) (lv' := [(6, .int (nI (d2 + 1))), (5, .int (harmed_4 + (1 : Int32))), (4, .int first_3), (3, .int (s_X5_bearer pe wo deed)), (0, .ref h), (1, .int (nI deed)), (2, .int (nI person))]) dX0_dueFor_57 2 rfl (inc_nI d2) (by decide) rfl ?_
              refine r_goto C (tgt := 15) dX0_dueFor_60 (by decide) ?_
              exact ih10 (d2 + 1) first_3 (harmed_4 + (1 : Int32)) (by omega) hv
            · rw [if_pos c14] at hv
              refine r_il C dX0_dueFor_45 0 rfl ?_
              refine r_goto C (tgt := 52) dX0_dueFor_47 (by decide) ?_
              refine r_is C (lv' := [(4, .int (nI d2)), (6, .int (nI d2)), (5, .int harmed_4), (3, .int (s_X5_bearer pe wo deed)), (0, .ref h), (1, .int (nI deed)), (2, .int (nI person))]) dX0_dueFor_52 (by decide) rfl ?_
              refine r_inc C (v := harmed_4 + (1 : Int32)) (lv' := [(5, .int (harmed_4 + (1 : Int32))), (4, .int (nI d2)), (6, .int (nI d2)), (3, .int (s_X5_bearer pe wo deed)), (0, .ref h), (1, .int (nI deed)), (2, .int (nI person))]) dX0_dueFor_54 2 rfl (by rfl) (by decide) rfl ?_
              refine r_inc C (v := nI (d2 + 1)) (lv' := [(6, .int (nI (d2 + 1))), (5, .int (harmed_4 + (1 : Int32))), (4, .int (nI d2)), (3, .int (s_X5_bearer pe wo deed)), (0, .ref h), (1, .int (nI deed)), (2, .int (nI person))]) dX0_dueFor_57 2 rfl (inc_nI d2) (by decide) rfl ?_
              refine r_goto C (tgt := 15) dX0_dueFor_60 (by decide) ?_
              exact ih10 (d2 + 1) (nI d2) (harmed_4 + (1 : Int32)) (by omega) hv
  refine r_lve (lv2 := [(6, .int (nI 0)), (5, .int (0 : Int32)), (4, .int (-1 : Int32)), (3, .int (s_X5_bearer pe wo deed)), (0, .ref h), (1, .int (nI deed)), (2, .int (nI person))]) (congrArg (fun (z : Int32) => ([(6, .int z), (5, .int (0 : Int32)), (4, .int (-1 : Int32)), (3, .int (s_X5_bearer pe wo deed)), (0, .ref h), (1, .int (nI deed)), (2, .int (nI person))] : List (Nat × Value))) rfl) ?_
  exact L15 pe 0 (-1 : Int32) (0 : Int32) (by omega) hv

def s_X0_dueTo_L4 (pe : Nat) (ri : Int32) (co : Nat → Int32) (wo : Nat → Int32) (person : Nat) : Nat → Nat → Int32 → Int32
  | 0, _, due_3 => due_3
  | k1 + 1, d2, due_3 => (if s_X6_isIn ri (nI d2) = (0 : Int32) then (s_X0_dueTo_L4 pe ri co wo person k1 (d2 + 1) due_3) else (s_X0_dueTo_L4 pe ri co wo person k1 (d2 + 1) (due_3 + (s_X0_dueFor pe co wo d2 person))))
def s_X0_dueTo (pe : Nat) (n : Nat) (ri : Int32) (co : Nat → Int32) (wo : Nat → Int32) (person : Nat) : Int32 := (s_X0_dueTo_L4 pe ri co wo person n 0 (0 : Int32))
set_option maxHeartbeats 8000000 in
set_option maxRecDepth 100000 in
theorem c_X0_dueTo (l : Launch) (D : va_G) (h : Nat) (a1 : Nat) (a2 : Nat) (a3 : Nat) (a4 : Nat) (a5 : Nat) (a6 : Nat) (pe : Nat) (n : Nat) (td : Int32) (ys : Int32) (la : Int32) (ri : Int32) (kd : Nat → Int32) (dy : Nat → Int32) (nd : Nat → Int32) (co : Nat → Int32) (od : Nat → Int32) (wo : Nat → Int32) (person : Nat) (hn : n ≤ 12) (hp : 1 ≤ pe ∧ pe ≤ 4) (hq : person < 4) : ct l yX0_dueTo cX0_dueTo 4 (some .int) 3 72 D [.ref h, .int (nI person)] (wY D h a1 a2 a3 a4 a5 a6 pe n td ys la ri kd dy nd co od wo) (wY D h a1 a2 a3 a4 a5 a6 pe n td ys la ri kd dy nd co od wo) (fun _ => False) (some (Value.int (s_X0_dueTo pe n ri co wo person))) := by
  obtain ⟨V, hv⟩ : ∃ V, s_X0_dueTo pe n ri co wo person = V := ⟨_, rfl⟩
  rw [hv]
  refine ct_intro (own := RX0) (lv := [(0, .ref h), (1, .int (nI person))]) (by decide) rfl (Nat.le_of_ble_eq_true rfl) rfl ?_
  intro p_ e_ s_ m_ below_ meth_ c_ C
  have hv : (s_X0_dueTo_L4 pe ri co wo person n 0 (0 : Int32)) = V := hv
  refine r_ic C (v := (0 : Int32)) dX0_dueTo_0 (by decide) ?_
  refine r_isn C (lv' := [(2, .int (0 : Int32)), (0, .ref h), (1, .int (nI person))]) dX0_dueTo_1 rfl (by decide) rfl ?_
  refine r_ic C (v := (0 : Int32)) dX0_dueTo_2 (by decide) ?_
  refine r_isn C (lv' := [(3, .int (0 : Int32)), (2, .int (0 : Int32)), (0, .ref h), (1, .int (nI person))]) dX0_dueTo_3 rfl (by decide) rfl ?_
  have L8 : ∀ (k1 : Nat) (d2 : Nat) (due_3 : Int32), (d2 + k1 = n) → (s_X0_dueTo_L4 pe ri co wo person k1 d2 due_3) = V → GM p_ l e_ s_ m_ below_ meth_ c_ D 3 72 4 [.ref h, .int (nI person)] (wY D h a1 a2 a3 a4 a5 a6 pe n td ys la ri kd dy nd co od wo) (fun _ => False) (some (Value.int V)) (wY D h a1 a2 a3 a4 a5 a6 pe n td ys la ri kd dy nd co od wo) 4 [(3, .int (nI d2)), (2, .int due_3), (0, .ref h), (1, .int (nI person))] [] := by
    intro k1
    induction k1 with
    | zero =>
      intro d2 due_3 hk hv
      have hv : due_3 = V := hv
      refine r_iln C dX0_dueTo_4 rfl 0 rfl ?_
      refine r_aln C dX0_dueTo_5 rfl 2 rfl ?_
      refine gf_X0_9 C 0 rfl rfl dX0_dueTo_6 ?_
      refine r_icge C (tgt := 38) dX0_dueTo_9 (by decide) (fun c4 => ?_) (fun c4 => ?_)
      · skip
        refine r_iln C dX0_dueTo_38 rfl 1 rfl ?_
        exact r_iret rfl C (congrArg (fun z => some (Value.int z)) hv) rfl dX0_dueTo_39
      · exact absurd c4 (fun z => absurd ((nv_lt (a := d2) (b := n) rfl rfl (by omega) (by omega)).mp z) (by omega))
    | succ k1 ih5 =>
      intro d2 due_3 hk hv
      have hv : (if s_X6_isIn ri (nI d2) = (0 : Int32) then (s_X0_dueTo_L4 pe ri co wo person k1 (d2 + 1) due_3) else (s_X0_dueTo_L4 pe ri co wo person k1 (d2 + 1) (due_3 + (s_X0_dueFor pe co wo d2 person)))) = V := hv
      refine r_iln C dX0_dueTo_4 rfl 0 rfl ?_
      refine r_aln C dX0_dueTo_5 rfl 2 rfl ?_
      refine gf_X0_9 C 0 rfl rfl dX0_dueTo_6 ?_
      refine r_icge C (tgt := 38) dX0_dueTo_9 (by decide) (fun c6 => ?_) (fun c6 => ?_)
      · exact absurd ((nv_lt (a := d2) (b := n) rfl rfl (by omega) (by omega)).mpr (by omega)) c6
      · skip
        refine r_aln C dX0_dueTo_12 rfl 2 rfl ?_
        refine gf_X0_15 C 0 rfl rfl dX0_dueTo_13 ?_
        refine r_iln C dX0_dueTo_16 rfl 0 rfl ?_
        refine aft_rd (st' := [.int (s_X6_isIn ri (nI d2))]) (run_SN (rest := []) C (c_X6_isIn l D ri (nI d2) ) ok_X6_isIn ws_X6_isIn wm_X0_18 [] rfl ⟨Nat.le_of_ble_eq_true rfl, Nat.le_of_ble_eq_true rfl⟩ rfl rfl (Nat.le_of_ble_eq_true rfl) dX0_dueTo_17) rfl ?_
        refine r_ifeq C (tgt := 32) dX0_dueTo_20 (by decide) (fun c7 => ?_) (fun c7 => ?_)
        · rw [if_pos c7] at hv
          refine r_inc C (v := nI (d2 + 1)) (lv' := [(3, .int (nI (d2 + 1))), (2, .int due_3), (0, .ref h), (1, .int (nI person))]) dX0_dueTo_32 0 rfl (inc_nI d2) (by decide) rfl ?_
          refine r_goto C (tgt := 4) dX0_dueTo_35 (by decide) ?_
          exact ih5 (d2 + 1) due_3 (by omega) hv
        · rw [if_neg c7] at hv
          refine r_iln C dX0_dueTo_23 rfl 1 rfl ?_
          refine r_aln C dX0_dueTo_24 rfl 2 rfl ?_
          refine r_iln C dX0_dueTo_25 rfl 0 rfl ?_
          refine r_iln C dX0_dueTo_26 rfl 3 rfl ?_
          refine aft_rd (st' := [.int (s_X0_dueFor pe co wo d2 person), .int due_3]) (run_S (rest := [.int due_3]) C (c_X0_dueFor l D h a1 a2 a3 a4 a5 a6 pe n td ys la ri kd dy nd co od wo d2 person (by omega) (by omega) (by omega)) ok_X0_dueFor ws_X0_dueFor wm_X0_22 [0, 1, 2, 3, 4, 5, 6] rfl ⟨Nat.le_of_ble_eq_true rfl, Nat.le_of_ble_eq_true rfl⟩ rfl rfl (Nat.le_of_ble_eq_true rfl) dX0_dueTo_27) rfl ?_
          refine r_iadd C dX0_dueTo_30 ?_
          refine r_isn C (lv' := [(2, .int (due_3 + (s_X0_dueFor pe co wo d2 person))), (3, .int (nI d2)), (0, .ref h), (1, .int (nI person))]) dX0_dueTo_31 rfl (by decide) rfl ?_
          refine r_inc C (v := nI (d2 + 1)) (lv' := [(3, .int (nI (d2 + 1))), (2, .int (due_3 + (s_X0_dueFor pe co wo d2 person))), (0, .ref h), (1, .int (nI person))]) dX0_dueTo_32 1 rfl (inc_nI d2) (by decide) rfl ?_
          refine r_goto C (tgt := 4) dX0_dueTo_35 (by decide) ?_
          exact ih5 (d2 + 1) (due_3 + (s_X0_dueFor pe co wo d2 person)) (by omega) hv
  refine r_lve (lv2 := [(3, .int (nI 0)), (2, .int (0 : Int32)), (0, .ref h), (1, .int (nI person))]) (congrArg (fun (z : Int32) => ([(3, .int z), (2, .int (0 : Int32)), (0, .ref h), (1, .int (nI person))] : List (Nat × Value))) rfl) ?_
  exact L8 n 0 (0 : Int32) (by omega) hv

def s_X0_sumOf_L4 (f : Nat → Int32) (set : Int32) : Nat → Nat → Int32 → Int32
  | 0, _, sum_3 => sum_3
  | k1 + 1, d2, sum_3 => (if s_X6_isIn set (nI d2) = (0 : Int32) then (s_X0_sumOf_L4 f set k1 (d2 + 1) sum_3) else (s_X0_sumOf_L4 f set k1 (d2 + 1) (sum_3 + (f d2))))
def s_X0_sumOf (f : Nat → Int32) (set : Int32) : Int32 := (s_X0_sumOf_L4 f set 4 0 (0 : Int32))
set_option maxHeartbeats 8000000 in
set_option maxRecDepth 100000 in
theorem c_X0_sumOf (l : Launch) (D : va_G) (a : Nat) (f : Nat → Int32) (set : Int32) : ct l yX0_sumOf cX0_sumOf 4 (some .int) 1 21 D [.ref a, .int set] (wA4 D a f) (wA4 D a f) (fun _ => False) (some (Value.int (s_X0_sumOf f set))) := by
  obtain ⟨V, hv⟩ : ∃ V, s_X0_sumOf f set = V := ⟨_, rfl⟩
  rw [hv]
  refine ct_intro (own := RX0) (lv := [(0, .ref a), (1, .int set)]) (by decide) rfl (Nat.le_of_ble_eq_true rfl) rfl ?_
  intro p_ e_ s_ m_ below_ meth_ c_ C
  have hv : (s_X0_sumOf_L4 f set 4 0 (0 : Int32)) = V := hv
  refine r_ic C (v := (0 : Int32)) dX0_sumOf_0 (by decide) ?_
  refine r_isn C (lv' := [(2, .int (0 : Int32)), (0, .ref a), (1, .int set)]) dX0_sumOf_1 rfl (by decide) rfl ?_
  refine r_ic C (v := (0 : Int32)) dX0_sumOf_2 (by decide) ?_
  refine r_isn C (lv' := [(3, .int (0 : Int32)), (2, .int (0 : Int32)), (0, .ref a), (1, .int set)]) dX0_sumOf_3 rfl (by decide) rfl ?_
  have L8 : ∀ (k1 : Nat) (d2 : Nat) (sum_3 : Int32), (d2 + k1 = 4) → (s_X0_sumOf_L4 f set k1 d2 sum_3) = V → GM p_ l e_ s_ m_ below_ meth_ c_ D 1 21 4 [.ref a, .int set] (wA4 D a f) (fun _ => False) (some (Value.int V)) (wA4 D a f) 4 [(3, .int (nI d2)), (2, .int sum_3), (0, .ref a), (1, .int set)] [] := by
    intro k1
    induction k1 with
    | zero =>
      intro d2 sum_3 hk hv
      have hv : sum_3 = V := hv
      refine r_iln C dX0_sumOf_4 rfl 0 rfl ?_
      refine r_aln C dX0_sumOf_5 rfl 2 rfl ?_
      refine r_alen C 0 0 rfl rfl dX0_sumOf_6 ?_
      refine r_icge C (tgt := 30) dX0_sumOf_7 (by decide) (fun c4 => ?_) (fun c4 => ?_)
      · skip
        refine r_iln C dX0_sumOf_30 rfl 1 rfl ?_
        exact r_iret rfl C (congrArg (fun z => some (Value.int z)) hv) rfl dX0_sumOf_31
      · exact absurd c4 (fun z => absurd ((nv_lt (a := d2) (b := 4) rfl rfl (by omega) (by omega)).mp z) (by omega))
    | succ k1 ih5 =>
      intro d2 sum_3 hk hv
      have hv : (if s_X6_isIn set (nI d2) = (0 : Int32) then (s_X0_sumOf_L4 f set k1 (d2 + 1) sum_3) else (s_X0_sumOf_L4 f set k1 (d2 + 1) (sum_3 + (f d2)))) = V := hv
      refine r_iln C dX0_sumOf_4 rfl 0 rfl ?_
      refine r_aln C dX0_sumOf_5 rfl 2 rfl ?_
      refine r_alen C 0 0 rfl rfl dX0_sumOf_6 ?_
      refine r_icge C (tgt := 30) dX0_sumOf_7 (by decide) (fun c6 => ?_) (fun c6 => ?_)
      · exact absurd ((nv_lt (a := d2) (b := 4) rfl rfl (by omega) (by omega)).mpr (by omega)) c6
      · skip
        refine r_iln C dX0_sumOf_10 rfl 3 rfl ?_
        refine r_iln C dX0_sumOf_11 rfl 0 rfl ?_
        refine aft_rd (st' := [.int (s_X6_isIn set (nI d2))]) (run_SN (rest := []) C (c_X6_isIn l D set (nI d2) ) ok_X6_isIn ws_X6_isIn wm_X0_18 [] rfl ⟨Nat.le_of_ble_eq_true rfl, Nat.le_of_ble_eq_true rfl⟩ rfl rfl (Nat.le_of_ble_eq_true rfl) dX0_sumOf_12) rfl ?_
        refine r_ifeq C (tgt := 24) dX0_sumOf_15 (by decide) (fun c7 => ?_) (fun c7 => ?_)
        · rw [if_pos c7] at hv
          refine r_inc C (v := nI (d2 + 1)) (lv' := [(3, .int (nI (d2 + 1))), (2, .int sum_3), (0, .ref a), (1, .int set)]) dX0_sumOf_24 0 rfl (inc_nI d2) (by decide) rfl ?_
          refine r_goto C (tgt := 4) dX0_sumOf_27 (by decide) ?_
          exact ih5 (d2 + 1) sum_3 (by omega) hv
        · rw [if_neg c7] at hv
          refine r_iln C dX0_sumOf_18 rfl 1 rfl ?_
          refine r_aln C dX0_sumOf_19 rfl 2 rfl ?_
          refine r_iln C dX0_sumOf_20 rfl 0 rfl ?_
          refine r_iald C 0 d2 rfl rfl (by omega) (by decide) rfl dX0_sumOf_21 ?_
          refine r_iadd C dX0_sumOf_22 ?_
          refine r_isn C (lv' := [(2, .int (sum_3 + (f d2))), (3, .int (nI d2)), (0, .ref a), (1, .int set)]) dX0_sumOf_23 rfl (by decide) rfl ?_
          refine r_inc C (v := nI (d2 + 1)) (lv' := [(3, .int (nI (d2 + 1))), (2, .int (sum_3 + (f d2))), (0, .ref a), (1, .int set)]) dX0_sumOf_24 1 rfl (inc_nI d2) (by decide) rfl ?_
          refine r_goto C (tgt := 4) dX0_sumOf_27 (by decide) ?_
          exact ih5 (d2 + 1) (sum_3 + (f d2)) (by omega) hv
  refine r_lve (lv2 := [(3, .int (nI 0)), (2, .int (0 : Int32)), (0, .ref a), (1, .int set)]) (congrArg (fun (z : Int32) => ([(3, .int z), (2, .int (0 : Int32)), (0, .ref a), (1, .int set)] : List (Nat × Value))) rfl) ?_
  exact L8 4 0 (0 : Int32) (by omega) hv

def s_X0_mostSets_L8 (f : Nat → Int32) (unpaid : Nat) (K : Int32) : Nat → Nat → Int32
  | 0, _ => K
  | k2 + 1, d3 => (if s_X6_isWithin (nI d3) (nI unpaid) = (0 : Int32) then (s_X0_mostSets_L8 f unpaid K k2 (d3 + 1)) else (if s_X0_sumOf f (nI d3) = (0 : Int32) then (2 : Int32) else (s_X0_mostSets_L8 f unpaid K k2 (d3 + 1))))
def s_X0_mostSets (f : Nat → Int32) (unpaid : Nat) : Int32 := (if nI unpaid = (0 : Int32) then (0 : Int32) else (s_X0_mostSets_L8 f unpaid (1 : Int32) (unpaid - 1) 1))
set_option maxHeartbeats 8000000 in
set_option maxRecDepth 100000 in
theorem c_X0_mostSets (l : Launch) (D : va_G) (a : Nat) (f : Nat → Int32) (unpaid : Nat) (hu : unpaid < 4096) : ct l yX0_mostSets cX0_mostSets 3 (some .int) 2 44 D [.ref a, .int (nI unpaid)] (wA4 D a f) (wA4 D a f) (fun _ => False) (some (Value.int (s_X0_mostSets f unpaid))) := by
  obtain ⟨V, hv⟩ : ∃ V, s_X0_mostSets f unpaid = V := ⟨_, rfl⟩
  rw [hv]
  refine ct_intro (own := RX0) (lv := [(0, .ref a), (1, .int (nI unpaid))]) (by decide) rfl (Nat.le_of_ble_eq_true rfl) rfl ?_
  intro p_ e_ s_ m_ below_ meth_ c_ C
  have hv : (if nI unpaid = (0 : Int32) then (0 : Int32) else (s_X0_mostSets_L8 f unpaid (1 : Int32) (unpaid - 1) 1)) = V := hv
  refine r_iln C dX0_mostSets_0 rfl 1 rfl ?_
  refine r_ifne C (tgt := 6) dX0_mostSets_1 (by decide) (fun c1 => ?_) (fun c1 => ?_)
  · rw [if_neg c1] at hv
    have fc1 : ¬ (unpaid = 0) := fun z => c1 ((nv_eq (a := unpaid) (b := 0) rfl rfl (by omega) (by omega)).mpr z)
    refine r_ic C (v := (1 : Int32)) dX0_mostSets_6 (by decide) ?_
    refine r_isn C (lv' := [(2, .int (1 : Int32)), (0, .ref a), (1, .int (nI unpaid))]) dX0_mostSets_7 rfl (by decide) rfl ?_
    have L9 : ∀ (k2 : Nat) (d3 : Nat), (d3 + k2 = unpaid) → (s_X0_mostSets_L8 f unpaid (1 : Int32) k2 d3) = V → GM p_ l e_ s_ m_ below_ meth_ c_ D 2 44 3 [.ref a, .int (nI unpaid)] (wA4 D a f) (fun _ => False) (some (Value.int V)) (wA4 D a f) 8 [(2, .int (nI d3)), (0, .ref a), (1, .int (nI unpaid))] [] := by
      intro k2
      induction k2 with
      | zero =>
        intro d3 hk hv
        have hv : (1 : Int32) = V := hv
        refine r_iln C dX0_mostSets_8 rfl 0 rfl ?_
        refine r_iln C dX0_mostSets_9 rfl 2 rfl ?_
        refine r_icge C (tgt := 37) dX0_mostSets_10 (by decide) (fun c4 => ?_) (fun c4 => ?_)
        · skip
          refine r_ic C (v := (1 : Int32)) dX0_mostSets_37 (by decide) ?_
          exact r_iret rfl C (congrArg (fun z => some (Value.int z)) hv) rfl dX0_mostSets_38
        · exact absurd c4 (fun z => absurd ((nv_lt (a := d3) (b := unpaid) rfl rfl (by omega) (by omega)).mp z) (by omega))
      | succ k2 ih5 =>
        intro d3 hk hv
        have hv : (if s_X6_isWithin (nI d3) (nI unpaid) = (0 : Int32) then (s_X0_mostSets_L8 f unpaid (1 : Int32) k2 (d3 + 1)) else (if s_X0_sumOf f (nI d3) = (0 : Int32) then (2 : Int32) else (s_X0_mostSets_L8 f unpaid (1 : Int32) k2 (d3 + 1)))) = V := hv
        refine r_iln C dX0_mostSets_8 rfl 0 rfl ?_
        refine r_iln C dX0_mostSets_9 rfl 2 rfl ?_
        refine r_icge C (tgt := 37) dX0_mostSets_10 (by decide) (fun c6 => ?_) (fun c6 => ?_)
        · exact absurd ((nv_lt (a := d3) (b := unpaid) rfl rfl (by omega) (by omega)).mpr (by omega)) c6
        · skip
          refine r_iln C dX0_mostSets_13 rfl 0 rfl ?_
          refine r_iln C dX0_mostSets_14 rfl 2 rfl ?_
          refine aft_rd (st' := [.int (s_X6_isWithin (nI d3) (nI unpaid))]) (run_SN (rest := []) C (c_X6_isWithin l D (nI d3) (nI unpaid) ) ok_X6_isWithin ws_X6_isWithin wm_X0_52 [] rfl ⟨Nat.le_of_ble_eq_true rfl, Nat.le_of_ble_eq_true rfl⟩ rfl rfl (Nat.le_of_ble_eq_true rfl) dX0_mostSets_15) rfl ?_
          refine r_ifeq C (tgt := 31) dX0_mostSets_18 (by decide) (fun c7 => ?_) (fun c7 => ?_)
          · rw [if_pos c7] at hv
            refine r_inc C (v := nI (d3 + 1)) (lv' := [(2, .int (nI (d3 + 1))), (0, .ref a), (1, .int (nI unpaid))]) dX0_mostSets_31 0 rfl (inc_nI d3) (by decide) rfl ?_
            refine r_goto C (tgt := 8) dX0_mostSets_34 (by decide) ?_
            exact ih5 (d3 + 1) (by omega) hv
          · rw [if_neg c7] at hv
            refine r_aln C dX0_mostSets_21 rfl 1 rfl ?_
            refine r_iln C dX0_mostSets_22 rfl 0 rfl ?_
            refine aft_rd (st' := [.int (s_X0_sumOf f (nI d3))]) (run_S (rest := []) C (c_X0_sumOf l D a f (nI d3) ) ok_X0_sumOf ws_X0_sumOf wm_X0_55 [0] rfl ⟨Nat.le_of_ble_eq_true rfl, Nat.le_of_ble_eq_true rfl⟩ rfl rfl (Nat.le_of_ble_eq_true rfl) dX0_mostSets_23) rfl ?_
            refine r_ifne C (tgt := 31) dX0_mostSets_26 (by decide) (fun c8 => ?_) (fun c8 => ?_)
            · rw [if_neg c8] at hv
              refine r_inc C (v := nI (d3 + 1)) (lv' := [(2, .int (nI (d3 + 1))), (0, .ref a), (1, .int (nI unpaid))]) dX0_mostSets_31 0 rfl (inc_nI d3) (by decide) rfl ?_
              refine r_goto C (tgt := 8) dX0_mostSets_34 (by decide) ?_
              exact ih5 (d3 + 1) (by omega) hv
            · rw [if_pos c8] at hv
              refine r_ic C (v := (2 : Int32)) dX0_mostSets_29 (by decide) ?_
              exact r_iret rfl C (congrArg (fun z => some (Value.int z)) hv) rfl dX0_mostSets_30
    refine r_lve (lv2 := [(2, .int (nI 1)), (0, .ref a), (1, .int (nI unpaid))]) (congrArg (fun (z : Int32) => ([(2, .int z), (0, .ref a), (1, .int (nI unpaid))] : List (Nat × Value))) rfl) ?_
    exact L9 (unpaid - 1) 1 (by omega) hv
  · rw [if_pos c1] at hv
    have fc1 : unpaid = 0 := (nv_eq (a := unpaid) (b := 0) rfl rfl (by omega) (by omega)).mp c1
    refine r_ic C (v := (0 : Int32)) dX0_mostSets_4 (by decide) ?_
    exact r_iret rfl C (congrArg (fun z => some (Value.int z)) hv) rfl dX0_mostSets_5

def s_X0_fewestPayments_L4 (f : Nat → Int32) : Nat → Nat → Int32 → Int32
  | 0, _, unpaid_3 => unpaid_3
  | k1 + 1, d2, unpaid_3 => (if f d2 = (0 : Int32) then (s_X0_fewestPayments_L4 f k1 (d2 + 1) unpaid_3) else (s_X0_fewestPayments_L4 f k1 (d2 + 1) (unpaid_3 ||| ((1 : Int32) <<< ((nI d2) &&& 31)))))
def s_X0_fewestPayments (f : Nat → Int32) : Int32 := (s_J6_bitCount_0f7a4 (s_X0_fewestPayments_L4 f 4 0 (0 : Int32))) - (s_X0_mostSets f (s_X0_fewestPayments_L4 f 4 0 (0 : Int32)).toNatClampNeg)
set_option maxHeartbeats 8000000 in
set_option maxRecDepth 100000 in
theorem c_X0_fewestPayments (l : Launch) (D : va_G) (a : Nat) (f : Nat → Int32) : ct l yX0_fewestPayments cX0_fewestPayments 3 (some .int) 3 66 D [.ref a] (wA4 D a f) (wA4 D a f) (fun _ => False) (some (Value.int (s_X0_fewestPayments f))) := by
  obtain ⟨V, hv⟩ : ∃ V, s_X0_fewestPayments f = V := ⟨_, rfl⟩
  rw [hv]
  refine ct_intro (own := RX0) (lv := [(0, .ref a)]) (by decide) rfl (Nat.le_of_ble_eq_true rfl) rfl ?_
  intro p_ e_ s_ m_ below_ meth_ c_ C
  have hv : (s_J6_bitCount_0f7a4 (s_X0_fewestPayments_L4 f 4 0 (0 : Int32))) - (s_X0_mostSets f (s_X0_fewestPayments_L4 f 4 0 (0 : Int32)).toNatClampNeg) = V := hv
  refine r_ic C (v := (0 : Int32)) dX0_fewestPayments_0 (by decide) ?_
  refine r_isn C (lv' := [(1, .int (0 : Int32)), (0, .ref a)]) dX0_fewestPayments_1 rfl (by decide) rfl ?_
  refine r_ic C (v := (0 : Int32)) dX0_fewestPayments_2 (by decide) ?_
  refine r_isn C (lv' := [(2, .int (0 : Int32)), (1, .int (0 : Int32)), (0, .ref a)]) dX0_fewestPayments_3 rfl (by decide) rfl ?_
  have L8 : ∀ (k1 : Nat) (d2 : Nat) (unpaid_3 : Int32), (d2 + k1 = 4) → (isSet 4 unpaid_3 ∧ d2 ≤ 4) → (s_J6_bitCount_0f7a4 (s_X0_fewestPayments_L4 f k1 d2 unpaid_3)) - (s_X0_mostSets f (s_X0_fewestPayments_L4 f k1 d2 unpaid_3).toNatClampNeg) = V → GM p_ l e_ s_ m_ below_ meth_ c_ D 3 66 3 [.ref a] (wA4 D a f) (fun _ => False) (some (Value.int V)) (wA4 D a f) 4 [(2, .int (nI d2)), (1, .int unpaid_3), (0, .ref a)] [] := by
    intro k1
    induction k1 with
    | zero =>
      intro d2 unpaid_3 hk hs hv
      have hv : (s_J6_bitCount_0f7a4 unpaid_3) - (s_X0_mostSets f unpaid_3.toNatClampNeg) = V := hv
      refine r_iln C dX0_fewestPayments_4 rfl 0 rfl ?_
      refine r_aln C dX0_fewestPayments_5 rfl 2 rfl ?_
      refine r_alen C 0 0 rfl rfl dX0_fewestPayments_6 ?_
      refine r_icge C (tgt := 28) dX0_fewestPayments_7 (by decide) (fun c4 => ?_) (fun c4 => ?_)
      · skip
        refine r_iln C dX0_fewestPayments_28 rfl 1 rfl ?_
        refine aft_rd (st' := [.int (s_J6_bitCount_0f7a4 unpaid_3)]) (run_S (rest := []) C (c_J6_bitCount_0f7a4 l D unpaid_3 ) ok_J6_bitCount_0f7a4 ws_J6_bitCount_0f7a4 wm_X0_43 [] rfl ⟨Nat.le_of_ble_eq_true rfl, Nat.le_of_ble_eq_true rfl⟩ rfl rfl (Nat.le_of_ble_eq_true rfl) dX0_fewestPayments_29) rfl ?_
        refine r_aln C dX0_fewestPayments_32 rfl 2 rfl ?_
        refine r_iln C dX0_fewestPayments_33 rfl 1 rfl ?_
        refine r_top (nn_nI (isSet_nn (by omega) hs.1).1) ?_
        have hb4 := (isSet_nn (by omega) hs.1).2.2
        refine aft_rd (st' := [.int (s_X0_mostSets f unpaid_3.toNatClampNeg), .int (s_J6_bitCount_0f7a4 unpaid_3)]) (run_S (rest := [.int (s_J6_bitCount_0f7a4 unpaid_3)]) C (c_X0_mostSets l D a f unpaid_3.toNatClampNeg (by omega)) ok_X0_mostSets ws_X0_mostSets wm_X0_48 [0] rfl ⟨Nat.le_of_ble_eq_true rfl, Nat.le_of_ble_eq_true rfl⟩ rfl rfl (Nat.le_of_ble_eq_true rfl) dX0_fewestPayments_34) rfl ?_
        refine r_isub C dX0_fewestPayments_37 ?_
        exact r_iret rfl C (congrArg (fun z => some (Value.int z)) hv) rfl dX0_fewestPayments_38
      · exact absurd c4 (fun z => absurd ((nv_lt (a := d2) (b := 4) rfl rfl (by omega) (by omega)).mp z) (by omega))
    | succ k1 ih5 =>
      intro d2 unpaid_3 hk hs hv
      have hv : (s_J6_bitCount_0f7a4 (if f d2 = (0 : Int32) then (s_X0_fewestPayments_L4 f k1 (d2 + 1) unpaid_3) else (s_X0_fewestPayments_L4 f k1 (d2 + 1) (unpaid_3 ||| ((1 : Int32) <<< ((nI d2) &&& 31)))))) - (s_X0_mostSets f (if f d2 = (0 : Int32) then (s_X0_fewestPayments_L4 f k1 (d2 + 1) unpaid_3) else (s_X0_fewestPayments_L4 f k1 (d2 + 1) (unpaid_3 ||| ((1 : Int32) <<< ((nI d2) &&& 31))))).toNatClampNeg) = V := hv
      refine r_iln C dX0_fewestPayments_4 rfl 0 rfl ?_
      refine r_aln C dX0_fewestPayments_5 rfl 2 rfl ?_
      refine r_alen C 0 0 rfl rfl dX0_fewestPayments_6 ?_
      refine r_icge C (tgt := 28) dX0_fewestPayments_7 (by decide) (fun c6 => ?_) (fun c6 => ?_)
      · exact absurd ((nv_lt (a := d2) (b := 4) rfl rfl (by omega) (by omega)).mpr (by omega)) c6
      · skip
        refine r_aln C dX0_fewestPayments_10 rfl 2 rfl ?_
        refine r_iln C dX0_fewestPayments_11 rfl 0 rfl ?_
        refine r_iald C 0 d2 rfl rfl (by omega) (by decide) rfl dX0_fewestPayments_12 ?_
        refine r_ifeq C (tgt := 22) dX0_fewestPayments_13 (by decide) (fun c7 => ?_) (fun c7 => ?_)
        · rw [if_pos c7] at hv
          refine r_inc C (v := nI (d2 + 1)) (lv' := [(2, .int (nI (d2 + 1))), (1, .int unpaid_3), (0, .ref a)]) dX0_fewestPayments_22 0 rfl (inc_nI d2) (by decide) rfl ?_
          refine r_goto C (tgt := 4) dX0_fewestPayments_25 (by decide) ?_
          exact ih5 (d2 + 1) unpaid_3 (by omega) ⟨by first | exact hs.1 | exact isSet_or (by omega) (by omega) hs.1, by omega⟩ hv
        · rw [if_neg c7] at hv
          refine r_iln C dX0_fewestPayments_16 rfl 1 rfl ?_
          refine r_ic C (v := (1 : Int32)) dX0_fewestPayments_17 (by decide) ?_
          refine r_iln C dX0_fewestPayments_18 rfl 0 rfl ?_
          refine r_ishl C dX0_fewestPayments_19 ?_
          refine r_ior C dX0_fewestPayments_20 ?_
          refine r_isn C (lv' := [(1, .int (unpaid_3 ||| ((1 : Int32) <<< ((nI d2) &&& 31)))), (2, .int (nI d2)), (0, .ref a)]) dX0_fewestPayments_21 rfl (by decide) rfl ?_
          refine r_inc C (v := nI (d2 + 1)) (lv' := [(2, .int (nI (d2 + 1))), (1, .int (unpaid_3 ||| ((1 : Int32) <<< ((nI d2) &&& 31)))), (0, .ref a)]) dX0_fewestPayments_22 1 rfl (inc_nI d2) (by decide) rfl ?_
          refine r_goto C (tgt := 4) dX0_fewestPayments_25 (by decide) ?_
          exact ih5 (d2 + 1) (unpaid_3 ||| ((1 : Int32) <<< ((nI d2) &&& 31))) (by omega) ⟨by first | exact hs.1 | exact isSet_or (by omega) (by omega) hs.1, by omega⟩ hv
  refine r_lve (lv2 := [(2, .int (nI 0)), (1, .int (0 : Int32)), (0, .ref a)]) (congrArg (fun (z : Int32) => ([(2, .int z), (1, .int (0 : Int32)), (0, .ref a)] : List (Nat × Value))) rfl) ?_
  exact L8 4 0 (0 : Int32) (by omega) ⟨isSet_0 4, by omega⟩ hv

def s_X4_chooser (pe : Nat) (day : Int32) : Int32 := day - day / (nI pe) * (nI pe)
set_option maxHeartbeats 8000000 in
set_option maxRecDepth 100000 in
theorem c_X4_chooser (l : Launch) (D : va_G) (h : Nat) (a1 : Nat) (a2 : Nat) (a3 : Nat) (a4 : Nat) (a5 : Nat) (a6 : Nat) (pe : Nat) (n : Nat) (td : Int32) (ys : Int32) (la : Int32) (ri : Int32) (kd : Nat → Int32) (dy : Nat → Int32) (nd : Nat → Int32) (co : Nat → Int32) (od : Nat → Int32) (wo : Nat → Int32) (day : Int32) (hp : 1 ≤ pe ∧ pe ≤ 4) : ct l yX4_chooser cX4_chooser 2 (some .int) 0 0 D [.ref h, .int day] (wY D h a1 a2 a3 a4 a5 a6 pe n td ys la ri kd dy nd co od wo) (wY D h a1 a2 a3 a4 a5 a6 pe n td ys la ri kd dy nd co od wo) (fun _ => False) (some (Value.int (s_X4_chooser pe day))) := by
  obtain ⟨V, hv⟩ : ∃ V, s_X4_chooser pe day = V := ⟨_, rfl⟩
  rw [hv]
  refine ct_intro (own := RX4) (lv := [(0, .ref h), (1, .int day)]) (by decide) rfl (Nat.le_of_ble_eq_true rfl) rfl ?_
  intro p_ e_ s_ m_ below_ meth_ c_ C
  have hv : day - day / (nI pe) * (nI pe) = V := hv
  refine r_aln C dX4_chooser_0 rfl 0 rfl ?_
  refine gf_X4_48 C 0 rfl rfl dX4_chooser_1 ?_
  refine r_ifle C (tgt := 16) dX4_chooser_4 (by decide) (fun c1 => ?_) (fun c1 => ?_)
  · exact absurd ((nv_lt (a := 0) (b := pe) rfl rfl (by omega) (by omega)).mpr (by omega)) c1
  · skip
    refine r_iln C dX4_chooser_7 rfl 1 rfl ?_
    refine r_aln C dX4_chooser_8 rfl 0 rfl ?_
    refine gf_X4_48 C 0 rfl rfl dX4_chooser_9 ?_
    refine r_irem C dX4_chooser_12 (fun z => absurd ((nv_eq (a := pe) (b := 0) rfl rfl (by omega) (by omega)).mp z) (by omega)) ?_
    refine r_goto C (tgt := 17) dX4_chooser_13 (by decide) ?_
    exact r_iret rfl C (congrArg (fun z => some (Value.int z)) hv) rfl dX4_chooser_17

def s_X4_isWalk_L24 (dy : Nat → Int32) (set : Int32) (K : Int32 → Int32) : Nat → Nat → Int32 → Int32
  | 0, _, walked_5 => K walked_5
  | k3 + 1, d4, walked_5 => (if s_X6_isIn set (nI d4) = (0 : Int32) then (s_X4_isWalk_L24 dy set K k3 (d4 + 1) walked_5) else (if walked_5 &&& ((1 : Int32) <<< ((dy d4) &&& 31)) = (0 : Int32) then (s_X4_isWalk_L24 dy set K k3 (d4 + 1) (walked_5 ||| ((1 : Int32) <<< ((dy d4) &&& 31)))) else (0 : Int32)))
def s_X4_isWalk (n : Nat) (dy : Nat → Int32) (set : Int32) (opn : Int32) (k : Int32) : Int32 := (if s_X6_isWithin set opn = (0 : Int32) then (0 : Int32) else (if k < s_J6_bitCount_0f7a4 set then (0 : Int32) else (s_X4_isWalk_L24 dy set (fun walked_5 => (1 : Int32)) n 0 (0 : Int32))))
set_option maxHeartbeats 8000000 in
set_option maxRecDepth 100000 in
theorem c_X4_isWalk (l : Launch) (D : va_G) (h : Nat) (a1 : Nat) (a2 : Nat) (a3 : Nat) (a4 : Nat) (a5 : Nat) (a6 : Nat) (pe : Nat) (n : Nat) (td : Int32) (ys : Int32) (la : Int32) (ri : Int32) (kd : Nat → Int32) (dy : Nat → Int32) (nd : Nat → Int32) (co : Nat → Int32) (od : Nat → Int32) (wo : Nat → Int32) (set : Int32) (opn : Int32) (k : Int32) (hn : n ≤ 12) : ct l yX4_isWalk cX4_isWalk 7 (some .boolean) 1 21 D [.ref h, .int set, .int opn, .int k] (wY D h a1 a2 a3 a4 a5 a6 pe n td ys la ri kd dy nd co od wo) (wY D h a1 a2 a3 a4 a5 a6 pe n td ys la ri kd dy nd co od wo) (fun _ => False) (some (Value.int (s_X4_isWalk n dy set opn k))) := by
  obtain ⟨V, hv⟩ : ∃ V, s_X4_isWalk n dy set opn k = V := ⟨_, rfl⟩
  rw [hv]
  refine ct_intro (own := RX4) (lv := [(0, .ref h), (1, .int set), (2, .int opn), (3, .int k)]) (by decide) rfl (Nat.le_of_ble_eq_true rfl) rfl ?_
  intro p_ e_ s_ m_ below_ meth_ c_ C
  have hv : (if s_X6_isWithin set opn = (0 : Int32) then (0 : Int32) else (if k < s_J6_bitCount_0f7a4 set then (0 : Int32) else (s_X4_isWalk_L24 dy set (fun walked_5 => (1 : Int32)) n 0 (0 : Int32)))) = V := hv
  refine r_iln C dX4_isWalk_0 rfl 1 rfl ?_
  refine r_iln C dX4_isWalk_1 rfl 2 rfl ?_
  refine aft_rd (st' := [.int (s_X6_isWithin set opn)]) (run_SN (rest := []) C (c_X6_isWithin l D set opn ) ok_X6_isWithin ws_X6_isWithin wm_X4_33 [] rfl ⟨Nat.le_of_ble_eq_true rfl, Nat.le_of_ble_eq_true rfl⟩ rfl rfl (Nat.le_of_ble_eq_true rfl) dX4_isWalk_2) rfl ?_
  refine r_ifeq C (tgt := 16) dX4_isWalk_5 (by decide) (fun c1 => ?_) (fun c1 => ?_)
  · rw [if_pos c1] at hv
    refine r_ic C (v := (0 : Int32)) dX4_isWalk_16 (by decide) ?_
    exact r_zret rfl C rfl (congrArg (fun z => some (Value.int z)) hv) rfl dX4_isWalk_17
  · rw [if_neg c1] at hv
    refine r_iln C dX4_isWalk_8 rfl 1 rfl ?_
    refine aft_rd (st' := [.int (s_J6_bitCount_0f7a4 set)]) (run_S (rest := []) C (c_J6_bitCount_0f7a4 l D set ) ok_J6_bitCount_0f7a4 ws_J6_bitCount_0f7a4 wm_X4_24 [] rfl ⟨Nat.le_of_ble_eq_true rfl, Nat.le_of_ble_eq_true rfl⟩ rfl rfl (Nat.le_of_ble_eq_true rfl) dX4_isWalk_9) rfl ?_
    refine r_iln C dX4_isWalk_12 rfl 3 rfl ?_
    refine r_icle C (tgt := 18) dX4_isWalk_13 (by decide) (fun c2 => ?_) (fun c2 => ?_)
    · rw [if_neg c2] at hv
      refine r_ic C (v := (0 : Int32)) dX4_isWalk_18 (by decide) ?_
      refine r_is C (lv' := [(4, .int (0 : Int32)), (0, .ref h), (1, .int set), (2, .int opn), (3, .int k)]) dX4_isWalk_19 (by decide) rfl ?_
      refine r_ic C (v := (0 : Int32)) dX4_isWalk_21 (by decide) ?_
      refine r_is C (lv' := [(5, .int (0 : Int32)), (4, .int (0 : Int32)), (0, .ref h), (1, .int set), (2, .int opn), (3, .int k)]) dX4_isWalk_22 (by decide) rfl ?_
      have L11 : ∀ (k3 : Nat) (d4 : Nat) (walked_5 : Int32), (d4 + k3 = n) → (s_X4_isWalk_L24 dy set (fun walked_5 => (1 : Int32)) k3 d4 walked_5) = V → GM p_ l e_ s_ m_ below_ meth_ c_ D 1 21 7 [.ref h, .int set, .int opn, .int k] (wY D h a1 a2 a3 a4 a5 a6 pe n td ys la ri kd dy nd co od wo) (fun _ => False) (some (Value.int V)) (wY D h a1 a2 a3 a4 a5 a6 pe n td ys la ri kd dy nd co od wo) 24 [(5, .int (nI d4)), (4, .int walked_5), (0, .ref h), (1, .int set), (2, .int opn), (3, .int k)] [] := by
        intro k3
        induction k3 with
        | zero =>
          intro d4 walked_5 hk hv
          have hv : (1 : Int32) = V := hv
          refine r_il C dX4_isWalk_24 0 rfl ?_
          refine r_aln C dX4_isWalk_26 rfl 2 rfl ?_
          refine gf_X4_37 C 0 rfl rfl dX4_isWalk_27 ?_
          refine r_icge C (tgt := 76) dX4_isWalk_30 (by decide) (fun c6 => ?_) (fun c6 => ?_)
          · skip
            refine r_ic C (v := (1 : Int32)) dX4_isWalk_76 (by decide) ?_
            exact r_zret rfl C rfl (congrArg (fun z => some (Value.int z)) hv) rfl dX4_isWalk_77
          · exact absurd c6 (fun z => absurd ((nv_lt (a := d4) (b := n) rfl rfl (by omega) (by omega)).mp z) (by omega))
        | succ k3 ih7 =>
          intro d4 walked_5 hk hv
          have hv : (if s_X6_isIn set (nI d4) = (0 : Int32) then (s_X4_isWalk_L24 dy set (fun walked_5 => (1 : Int32)) k3 (d4 + 1) walked_5) else (if walked_5 &&& ((1 : Int32) <<< ((dy d4) &&& 31)) = (0 : Int32) then (s_X4_isWalk_L24 dy set (fun walked_5 => (1 : Int32)) k3 (d4 + 1) (walked_5 ||| ((1 : Int32) <<< ((dy d4) &&& 31)))) else (0 : Int32))) = V := hv
          refine r_il C dX4_isWalk_24 0 rfl ?_
          refine r_aln C dX4_isWalk_26 rfl 2 rfl ?_
          refine gf_X4_37 C 0 rfl rfl dX4_isWalk_27 ?_
          refine r_icge C (tgt := 76) dX4_isWalk_30 (by decide) (fun c8 => ?_) (fun c8 => ?_)
          · exact absurd ((nv_lt (a := d4) (b := n) rfl rfl (by omega) (by omega)).mpr (by omega)) c8
          · skip
            refine r_iln C dX4_isWalk_33 rfl 3 rfl ?_
            refine r_il C dX4_isWalk_34 0 rfl ?_
            refine aft_rd (st' := [.int (s_X6_isIn set (nI d4))]) (run_SN (rest := []) C (c_X6_isIn l D set (nI d4) ) ok_X6_isIn ws_X6_isIn wm_X4_41 [] rfl ⟨Nat.le_of_ble_eq_true rfl, Nat.le_of_ble_eq_true rfl⟩ rfl rfl (Nat.le_of_ble_eq_true rfl) dX4_isWalk_36) rfl ?_
            refine r_ifeq C (tgt := 70) dX4_isWalk_39 (by decide) (fun c9 => ?_) (fun c9 => ?_)
            · rw [if_pos c9] at hv
              refine r_inc C (v := nI (d4 + 1)) (lv' := [(5, .int (nI (d4 + 1))), (4, .int walked_5), (0, .ref h), (1, .int set), (2, .int opn), (3, .int k)]) dX4_isWalk_70 0 rfl (inc_nI d4) (by decide) rfl ?_
              refine r_goto C (tgt := 24) dX4_isWalk_73 (by decide) ?_
              exact ih7 (d4 + 1) walked_5 (by omega) hv
            · rw [if_neg c9] at hv
              refine r_ic C (v := (1 : Int32)) dX4_isWalk_42 (by decide) ?_
              refine r_aln C dX4_isWalk_43 rfl 2 rfl ?_
              refine gf_X4_44 C 0 rfl rfl dX4_isWalk_44 ?_
              refine r_il C dX4_isWalk_47 0 rfl ?_
              refine r_iald C 2 d4 rfl rfl (by omega) (by decide) rfl dX4_isWalk_49 ?_
              refine r_ishl C dX4_isWalk_50 ?_
              refine r_is C (lv' := [(6, .int ((1 : Int32) <<< ((dy d4) &&& 31))), (5, .int (nI d4)), (4, .int walked_5), (0, .ref h), (1, .int set), (2, .int opn), (3, .int k)]) dX4_isWalk_51 (by decide) rfl ?_
              refine r_il C dX4_isWalk_53 2 rfl ?_
              refine r_il C dX4_isWalk_55 0 rfl ?_
              refine r_iand C dX4_isWalk_57 ?_
              refine r_ifeq C (tgt := 63) dX4_isWalk_58 (by decide) (fun c10 => ?_) (fun c10 => ?_)
              · rw [if_pos c10] at hv
                refine r_il C dX4_isWalk_63 2 rfl ?_
                refine r_il C dX4_isWalk_65 0 rfl ?_
                refine r_ior C dX4_isWalk_67 ?_
                refine r_is C (lv' := [(4, .int (walked_5 ||| ((1 : Int32) <<< ((dy d4) &&& 31)))), (6, .int ((1 : Int32) <<< ((dy d4) &&& 31))), (5, .int (nI d4)), (0, .ref h), (1, .int set), (2, .int opn), (3, .int k)]) dX4_isWalk_68 (by decide) rfl ?_
                refine r_inc C (v := nI (d4 + 1)) (lv' := [(5, .int (nI (d4 + 1))), (4, .int (walked_5 ||| ((1 : Int32) <<< ((dy d4) &&& 31)))), (6, .int ((1 : Int32) <<< ((dy d4) &&& 31))), (0, .ref h), (1, .int set), (2, .int opn), (3, .int k)]) dX4_isWalk_70 2 rfl (inc_nI d4) (by decide) rfl ?_
                refine r_goto C (tgt := 24) dX4_isWalk_73 (by decide) ?_
                refine r_lv [0, 1, 3, 4, 5, 6] rfl ?_
                exact ih7 (d4 + 1) (walked_5 ||| ((1 : Int32) <<< ((dy d4) &&& 31))) (by omega) hv
              · rw [if_neg c10] at hv
                refine r_ic C (v := (0 : Int32)) dX4_isWalk_61 (by decide) ?_
                exact r_zret rfl C rfl (congrArg (fun z => some (Value.int z)) hv) rfl dX4_isWalk_62
      refine r_lve (lv2 := [(5, .int (nI 0)), (4, .int (0 : Int32)), (0, .ref h), (1, .int set), (2, .int opn), (3, .int k)]) (congrArg (fun (z : Int32) => ([(5, .int z), (4, .int (0 : Int32)), (0, .ref h), (1, .int set), (2, .int opn), (3, .int k)] : List (Nat × Value))) rfl) ?_
      exact L11 n 0 (0 : Int32) (by omega) hv
    · rw [if_pos c2] at hv
      refine r_ic C (v := (0 : Int32)) dX4_isWalk_16 (by decide) ?_
      exact r_zret rfl C rfl (congrArg (fun z => some (Value.int z)) hv) rfl dX4_isWalk_17

def s_X4_isFair_L2 (pe : Nat) (n : Nat) (la : Int32) (kd : Nat → Int32) (nd : Nat → Int32) (co : Nat → Int32) (wo : Nat → Int32) (set : Int32) (K : Int32) : Nat → Nat → Int32
  | 0, _ => K
  | k1 + 1, d2 => (if s_X5_valueBy pe n la kd nd co wo d2 set < s_X5_valueBy pe n la kd nd co wo d2 (0 : Int32) then (0 : Int32) else (s_X4_isFair_L2 pe n la kd nd co wo set K k1 (d2 + 1)))
def s_X4_isFair (pe : Nat) (n : Nat) (la : Int32) (kd : Nat → Int32) (nd : Nat → Int32) (co : Nat → Int32) (wo : Nat → Int32) (set : Int32) : Int32 := (s_X4_isFair_L2 pe n la kd nd co wo set (1 : Int32) pe 0)
set_option maxHeartbeats 8000000 in
set_option maxRecDepth 100000 in
theorem c_X4_isFair (l : Launch) (D : va_G) (h : Nat) (a1 : Nat) (a2 : Nat) (a3 : Nat) (a4 : Nat) (a5 : Nat) (a6 : Nat) (pe : Nat) (n : Nat) (td : Int32) (ys : Int32) (la : Int32) (ri : Int32) (kd : Nat → Int32) (dy : Nat → Int32) (nd : Nat → Int32) (co : Nat → Int32) (od : Nat → Int32) (wo : Nat → Int32) (set : Int32) (hn : n ≤ 12) (hp : 1 ≤ pe ∧ pe ≤ 4) : ct l yX4_isFair cX4_isFair 3 (some .boolean) 4 93 D [.ref h, .int set] (wY D h a1 a2 a3 a4 a5 a6 pe n td ys la ri kd dy nd co od wo) (wY D h a1 a2 a3 a4 a5 a6 pe n td ys la ri kd dy nd co od wo) (fun _ => False) (some (Value.int (s_X4_isFair pe n la kd nd co wo set))) := by
  obtain ⟨V, hv⟩ : ∃ V, s_X4_isFair pe n la kd nd co wo set = V := ⟨_, rfl⟩
  rw [hv]
  refine ct_intro (own := RX4) (lv := [(0, .ref h), (1, .int set)]) (by decide) rfl (Nat.le_of_ble_eq_true rfl) rfl ?_
  intro p_ e_ s_ m_ below_ meth_ c_ C
  have hv : (s_X4_isFair_L2 pe n la kd nd co wo set (1 : Int32) pe 0) = V := hv
  refine r_ic C (v := (0 : Int32)) dX4_isFair_0 (by decide) ?_
  refine r_isn C (lv' := [(2, .int (0 : Int32)), (0, .ref h), (1, .int set)]) dX4_isFair_1 rfl (by decide) rfl ?_
  have L7 : ∀ (k1 : Nat) (d2 : Nat), (d2 + k1 = pe) → (s_X4_isFair_L2 pe n la kd nd co wo set (1 : Int32) k1 d2) = V → GM p_ l e_ s_ m_ below_ meth_ c_ D 4 93 3 [.ref h, .int set] (wY D h a1 a2 a3 a4 a5 a6 pe n td ys la ri kd dy nd co od wo) (fun _ => False) (some (Value.int V)) (wY D h a1 a2 a3 a4 a5 a6 pe n td ys la ri kd dy nd co od wo) 2 [(2, .int (nI d2)), (0, .ref h), (1, .int set)] [] := by
    intro k1
    induction k1 with
    | zero =>
      intro d2 hk hv
      have hv : (1 : Int32) = V := hv
      refine r_iln C dX4_isFair_2 rfl 0 rfl ?_
      refine r_aln C dX4_isFair_3 rfl 1 rfl ?_
      refine gf_X4_48 C 0 rfl rfl dX4_isFair_4 ?_
      refine r_icge C (tgt := 33) dX4_isFair_7 (by decide) (fun c3 => ?_) (fun c3 => ?_)
      · skip
        refine r_ic C (v := (1 : Int32)) dX4_isFair_33 (by decide) ?_
        exact r_zret rfl C rfl (congrArg (fun z => some (Value.int z)) hv) rfl dX4_isFair_34
      · exact absurd c3 (fun z => absurd ((nv_lt (a := d2) (b := pe) rfl rfl (by omega) (by omega)).mp z) (by omega))
    | succ k1 ih4 =>
      intro d2 hk hv
      have hv : (if s_X5_valueBy pe n la kd nd co wo d2 set < s_X5_valueBy pe n la kd nd co wo d2 (0 : Int32) then (0 : Int32) else (s_X4_isFair_L2 pe n la kd nd co wo set (1 : Int32) k1 (d2 + 1))) = V := hv
      refine r_iln C dX4_isFair_2 rfl 0 rfl ?_
      refine r_aln C dX4_isFair_3 rfl 1 rfl ?_
      refine gf_X4_48 C 0 rfl rfl dX4_isFair_4 ?_
      refine r_icge C (tgt := 33) dX4_isFair_7 (by decide) (fun c5 => ?_) (fun c5 => ?_)
      · exact absurd ((nv_lt (a := d2) (b := pe) rfl rfl (by omega) (by omega)).mpr (by omega)) c5
      · skip
        refine r_aln C dX4_isFair_10 rfl 1 rfl ?_
        refine r_iln C dX4_isFair_11 rfl 0 rfl ?_
        refine r_iln C dX4_isFair_12 rfl 2 rfl ?_
        refine aft_rd (st' := [.int (s_X5_valueBy pe n la kd nd co wo d2 set)]) (run_VN (rest := []) C (c_X5_valueBy l D h a1 a2 a3 a4 a5 a6 pe n td ys la ri kd dy nd co od wo d2 set (by omega) (by omega) (by omega)) ok_X5_valueBy wn_X5_valueBy wl_X5_valueBy wm_X4_51 [0, 1, 2, 3, 4, 5, 6] 0 rfl rfl rfl ⟨Nat.le_of_ble_eq_true rfl, Nat.le_of_ble_eq_true rfl⟩ rfl rfl (Nat.le_of_ble_eq_true rfl) dX4_isFair_13) rfl ?_
        refine r_aln C dX4_isFair_16 rfl 1 rfl ?_
        refine r_iln C dX4_isFair_17 rfl 0 rfl ?_
        refine r_ic C (v := (0 : Int32)) dX4_isFair_18 (by decide) ?_
        refine aft_rd (st' := [.int (s_X5_valueBy pe n la kd nd co wo d2 (0 : Int32)), .int (s_X5_valueBy pe n la kd nd co wo d2 set)]) (run_VN (rest := [.int (s_X5_valueBy pe n la kd nd co wo d2 set)]) C (c_X5_valueBy l D h a1 a2 a3 a4 a5 a6 pe n td ys la ri kd dy nd co od wo d2 (0 : Int32) (by omega) (by omega) (by omega)) ok_X5_valueBy wn_X5_valueBy wl_X5_valueBy wm_X4_51 [0, 1, 2, 3, 4, 5, 6] 0 rfl rfl rfl ⟨Nat.le_of_ble_eq_true rfl, Nat.le_of_ble_eq_true rfl⟩ rfl rfl (Nat.le_of_ble_eq_true rfl) dX4_isFair_19) rfl ?_
        refine r_icge C (tgt := 27) dX4_isFair_22 (by decide) (fun c6 => ?_) (fun c6 => ?_)
        · rw [if_neg c6] at hv
          refine r_inc C (v := nI (d2 + 1)) (lv' := [(2, .int (nI (d2 + 1))), (0, .ref h), (1, .int set)]) dX4_isFair_27 0 rfl (inc_nI d2) (by decide) rfl ?_
          refine r_goto C (tgt := 2) dX4_isFair_30 (by decide) ?_
          exact ih4 (d2 + 1) (by omega) hv
        · rw [if_pos c6] at hv
          refine r_ic C (v := (0 : Int32)) dX4_isFair_25 (by decide) ?_
          exact r_zret rfl C rfl (congrArg (fun z => some (Value.int z)) hv) rfl dX4_isFair_26
  refine r_lve (lv2 := [(2, .int (nI 0)), (0, .ref h), (1, .int set)]) (congrArg (fun (z : Int32) => ([(2, .int z), (0, .ref h), (1, .int set)] : List (Nat × Value))) rfl) ?_
  exact L7 pe 0 (by omega) hv

def s_X4_most_L19 (pe : Nat) (n : Nat) (la : Int32) (kd : Nat → Int32) (dy : Nat → Int32) (nd : Nat → Int32) (co : Nat → Int32) (wo : Nat → Int32) (k : Int32) (fair : Int32) : Nat → Nat → Int32 → Int32 → Int32 × Int32
  | 0, _, best_3, sum_4 => (best_3, sum_4)
  | k1 + 1, d2, best_3, sum_4 => (if s_X4_isWalk n dy (nI d2) (nI ((s_X5_standing n la kd nd (0 : Int32)).toNatClampNeg)) k = (0 : Int32) then (s_X4_most_L19 pe n la kd dy nd co wo k fair k1 (d2 + 1) best_3 sum_4) else (if s_J6_bitCount_0f7a4 (nI d2) < s_J6_bitCount_0f7a4 best_3 then (if sum_4 < s_X5_sumBy pe n la kd nd co wo (nI d2) then (if fair = (0 : Int32) then (s_X4_most_L19 pe n la kd dy nd co wo k fair k1 (d2 + 1) (nI d2) (s_X5_sumBy pe n la kd nd co wo (nI d2))) else (if s_X4_isFair pe n la kd nd co wo (nI d2) = (0 : Int32) then (s_X4_most_L19 pe n la kd dy nd co wo k fair k1 (d2 + 1) best_3 sum_4) else (s_X4_most_L19 pe n la kd dy nd co wo k fair k1 (d2 + 1) (nI d2) (s_X5_sumBy pe n la kd nd co wo (nI d2))))) else (if s_X5_sumBy pe n la kd nd co wo (nI d2) = sum_4 then (if fair = (0 : Int32) then (s_X4_most_L19 pe n la kd dy nd co wo k fair k1 (d2 + 1) (nI d2) (s_X5_sumBy pe n la kd nd co wo (nI d2))) else (if s_X4_isFair pe n la kd nd co wo (nI d2) = (0 : Int32) then (s_X4_most_L19 pe n la kd dy nd co wo k fair k1 (d2 + 1) best_3 sum_4) else (s_X4_most_L19 pe n la kd dy nd co wo k fair k1 (d2 + 1) (nI d2) (s_X5_sumBy pe n la kd nd co wo (nI d2))))) else (s_X4_most_L19 pe n la kd dy nd co wo k fair k1 (d2 + 1) best_3 sum_4))) else (if sum_4 < s_X5_sumBy pe n la kd nd co wo (nI d2) then (if fair = (0 : Int32) then (s_X4_most_L19 pe n la kd dy nd co wo k fair k1 (d2 + 1) (nI d2) (s_X5_sumBy pe n la kd nd co wo (nI d2))) else (if s_X4_isFair pe n la kd nd co wo (nI d2) = (0 : Int32) then (s_X4_most_L19 pe n la kd dy nd co wo k fair k1 (d2 + 1) best_3 sum_4) else (s_X4_most_L19 pe n la kd dy nd co wo k fair k1 (d2 + 1) (nI d2) (s_X5_sumBy pe n la kd nd co wo (nI d2))))) else (if s_X5_sumBy pe n la kd nd co wo (nI d2) = sum_4 then (s_X4_most_L19 pe n la kd dy nd co wo k fair k1 (d2 + 1) best_3 sum_4) else (s_X4_most_L19 pe n la kd dy nd co wo k fair k1 (d2 + 1) best_3 sum_4)))))
def s_X4_most (pe : Nat) (n : Nat) (la : Int32) (kd : Nat → Int32) (dy : Nat → Int32) (nd : Nat → Int32) (co : Nat → Int32) (wo : Nat → Int32) (k : Int32) (fair : Int32) : Int32 := ((s_X4_most_L19 pe n la kd dy nd co wo k fair ((s_X5_standing n la kd nd (0 : Int32)).toNatClampNeg) 1 (0 : Int32) (s_X5_sumBy pe n la kd nd co wo (0 : Int32))).1)
set_option maxHeartbeats 8000000 in
set_option maxRecDepth 100000 in
theorem c_X4_most (l : Launch) (D : va_G) (h : Nat) (a1 : Nat) (a2 : Nat) (a3 : Nat) (a4 : Nat) (a5 : Nat) (a6 : Nat) (pe : Nat) (n : Nat) (td : Int32) (ys : Int32) (la : Int32) (ri : Int32) (kd : Nat → Int32) (dy : Nat → Int32) (nd : Nat → Int32) (co : Nat → Int32) (od : Nat → Int32) (wo : Nat → Int32) (k : Int32) (fair : Int32) (hn : n ≤ 12) (hp : 1 ≤ pe ∧ pe ≤ 4) : ct l yX4_most cX4_most 9 (some .int) 5 115 D [.ref h, .int k, .int fair] (wY D h a1 a2 a3 a4 a5 a6 pe n td ys la ri kd dy nd co od wo) (wY D h a1 a2 a3 a4 a5 a6 pe n td ys la ri kd dy nd co od wo) (fun _ => False) (some (Value.int (s_X4_most pe n la kd dy nd co wo k fair))) := by
  obtain ⟨V, hv⟩ : ∃ V, s_X4_most pe n la kd dy nd co wo k fair = V := ⟨_, rfl⟩
  rw [hv]
  refine ct_intro (own := RX4) (lv := [(0, .ref h), (1, .int k), (2, .int fair)]) (by decide) rfl (Nat.le_of_ble_eq_true rfl) rfl ?_
  intro p_ e_ s_ m_ below_ meth_ c_ C
  have hv : ((s_X4_most_L19 pe n la kd dy nd co wo k fair ((s_X5_standing n la kd nd (0 : Int32)).toNatClampNeg) 1 (0 : Int32) (s_X5_sumBy pe n la kd nd co wo (0 : Int32))).1) = V := hv
  refine r_aln C dX4_most_0 rfl 0 rfl ?_
  refine r_ic C (v := (0 : Int32)) dX4_most_1 (by decide) ?_
  refine aft_rd (st' := [.int (s_X5_standing n la kd nd (0 : Int32))]) (run_VN (rest := []) C (c_X5_standing l D h a1 a2 a3 a4 a5 a6 pe n td ys la ri kd dy nd co od wo (0 : Int32) (by omega)) ok_X5_standing wn_X5_standing wl_X5_standing wm_X4_9 [0, 1, 2, 3, 4, 5, 6] 0 rfl rfl rfl ⟨Nat.le_of_ble_eq_true rfl, Nat.le_of_ble_eq_true rfl⟩ rfl rfl (Nat.le_of_ble_eq_true rfl) dX4_most_2) rfl ?_
  refine r_top (nn_nI (isSet_nn hn (isSet_standing hn la kd nd (0 : Int32))).1) ?_
  have hO := (isSet_nn hn (isSet_standing hn la kd nd (0 : Int32))).2.2
  refine r_isn C (lv' := [(3, .int (nI ((s_X5_standing n la kd nd (0 : Int32)).toNatClampNeg))), (0, .ref h), (1, .int k), (2, .int fair)]) dX4_most_5 rfl (by decide) rfl ?_
  refine r_ic C (v := (0 : Int32)) dX4_most_6 (by decide) ?_
  refine r_is C (lv' := [(4, .int (0 : Int32)), (3, .int (nI ((s_X5_standing n la kd nd (0 : Int32)).toNatClampNeg))), (0, .ref h), (1, .int k), (2, .int fair)]) dX4_most_7 (by decide) rfl ?_
  refine r_aln C dX4_most_9 rfl 2 rfl ?_
  refine r_ic C (v := (0 : Int32)) dX4_most_10 (by decide) ?_
  refine aft_rd (st' := [.int (s_X5_sumBy pe n la kd nd co wo (0 : Int32))]) (run_VN (rest := []) C (c_X5_sumBy l D h a1 a2 a3 a4 a5 a6 pe n td ys la ri kd dy nd co od wo (0 : Int32) (by omega) (by omega)) ok_X5_sumBy wn_X5_sumBy wl_X5_sumBy wm_X4_15 [0, 1, 2, 3, 4, 5, 6] 0 rfl rfl rfl ⟨Nat.le_of_ble_eq_true rfl, Nat.le_of_ble_eq_true rfl⟩ rfl rfl (Nat.le_of_ble_eq_true rfl) dX4_most_11) rfl ?_
  refine r_is C (lv' := [(5, .int (s_X5_sumBy pe n la kd nd co wo (0 : Int32))), (4, .int (0 : Int32)), (3, .int (nI ((s_X5_standing n la kd nd (0 : Int32)).toNatClampNeg))), (0, .ref h), (1, .int k), (2, .int fair)]) dX4_most_14 (by decide) rfl ?_
  refine r_ic C (v := (1 : Int32)) dX4_most_16 (by decide) ?_
  refine r_is C (lv' := [(6, .int (1 : Int32)), (5, .int (s_X5_sumBy pe n la kd nd co wo (0 : Int32))), (4, .int (0 : Int32)), (3, .int (nI ((s_X5_standing n la kd nd (0 : Int32)).toNatClampNeg))), (0, .ref h), (1, .int k), (2, .int fair)]) dX4_most_17 (by decide) rfl ?_
  have L22 : ∀ (k1 : Nat) (d2 : Nat) (best_3 : Int32) (sum_4 : Int32), (d2 + k1 = (s_X5_standing n la kd nd (0 : Int32)).toNatClampNeg + 1) → ((s_X4_most_L19 pe n la kd dy nd co wo k fair k1 d2 best_3 sum_4).1) = V → GM p_ l e_ s_ m_ below_ meth_ c_ D 5 115 9 [.ref h, .int k, .int fair] (wY D h a1 a2 a3 a4 a5 a6 pe n td ys la ri kd dy nd co od wo) (fun _ => False) (some (Value.int V)) (wY D h a1 a2 a3 a4 a5 a6 pe n td ys la ri kd dy nd co od wo) 19 [(6, .int (nI d2)), (5, .int sum_4), (4, .int best_3), (3, .int (nI ((s_X5_standing n la kd nd (0 : Int32)).toNatClampNeg))), (0, .ref h), (1, .int k), (2, .int fair)] [] := by
    intro k1
    induction k1 with
    | zero =>
      intro d2 best_3 sum_4 hk hv
      have hv : best_3 = V := hv
      refine r_il C dX4_most_19 0 rfl ?_
      refine r_iln C dX4_most_21 rfl 3 rfl ?_
      refine r_icgt C (tgt := 113) dX4_most_22 (by decide) (fun c5 => ?_) (fun c5 => ?_)
      · skip
        refine r_il C dX4_most_113 2 rfl ?_
        exact r_iret rfl C (congrArg (fun z => some (Value.int z)) hv) rfl dX4_most_115
      · exact absurd ((nv_lt (a := (s_X5_standing n la kd nd (0 : Int32)).toNatClampNeg) (b := d2) rfl rfl (by omega) (by omega)).mpr (by omega)) c5
    | succ k1 ih6 =>
      intro d2 best_3 sum_4 hk hv
      have hv : ((if s_X4_isWalk n dy (nI d2) (nI ((s_X5_standing n la kd nd (0 : Int32)).toNatClampNeg)) k = (0 : Int32) then (s_X4_most_L19 pe n la kd dy nd co wo k fair k1 (d2 + 1) best_3 sum_4) else (if s_J6_bitCount_0f7a4 (nI d2) < s_J6_bitCount_0f7a4 best_3 then (if sum_4 < s_X5_sumBy pe n la kd nd co wo (nI d2) then (if fair = (0 : Int32) then (s_X4_most_L19 pe n la kd dy nd co wo k fair k1 (d2 + 1) (nI d2) (s_X5_sumBy pe n la kd nd co wo (nI d2))) else (if s_X4_isFair pe n la kd nd co wo (nI d2) = (0 : Int32) then (s_X4_most_L19 pe n la kd dy nd co wo k fair k1 (d2 + 1) best_3 sum_4) else (s_X4_most_L19 pe n la kd dy nd co wo k fair k1 (d2 + 1) (nI d2) (s_X5_sumBy pe n la kd nd co wo (nI d2))))) else (if s_X5_sumBy pe n la kd nd co wo (nI d2) = sum_4 then (if fair = (0 : Int32) then (s_X4_most_L19 pe n la kd dy nd co wo k fair k1 (d2 + 1) (nI d2) (s_X5_sumBy pe n la kd nd co wo (nI d2))) else (if s_X4_isFair pe n la kd nd co wo (nI d2) = (0 : Int32) then (s_X4_most_L19 pe n la kd dy nd co wo k fair k1 (d2 + 1) best_3 sum_4) else (s_X4_most_L19 pe n la kd dy nd co wo k fair k1 (d2 + 1) (nI d2) (s_X5_sumBy pe n la kd nd co wo (nI d2))))) else (s_X4_most_L19 pe n la kd dy nd co wo k fair k1 (d2 + 1) best_3 sum_4))) else (if sum_4 < s_X5_sumBy pe n la kd nd co wo (nI d2) then (if fair = (0 : Int32) then (s_X4_most_L19 pe n la kd dy nd co wo k fair k1 (d2 + 1) (nI d2) (s_X5_sumBy pe n la kd nd co wo (nI d2))) else (if s_X4_isFair pe n la kd nd co wo (nI d2) = (0 : Int32) then (s_X4_most_L19 pe n la kd dy nd co wo k fair k1 (d2 + 1) best_3 sum_4) else (s_X4_most_L19 pe n la kd dy nd co wo k fair k1 (d2 + 1) (nI d2) (s_X5_sumBy pe n la kd nd co wo (nI d2))))) else (if s_X5_sumBy pe n la kd nd co wo (nI d2) = sum_4 then (s_X4_most_L19 pe n la kd dy nd co wo k fair k1 (d2 + 1) best_3 sum_4) else (s_X4_most_L19 pe n la kd dy nd co wo k fair k1 (d2 + 1) best_3 sum_4))))).1) = V := hv
      refine r_il C dX4_most_19 0 rfl ?_
      refine r_iln C dX4_most_21 rfl 3 rfl ?_
      refine r_icgt C (tgt := 113) dX4_most_22 (by decide) (fun c7 => ?_) (fun c7 => ?_)
      · exact absurd c7 (fun z => absurd ((nv_lt (a := (s_X5_standing n la kd nd (0 : Int32)).toNatClampNeg) (b := d2) rfl rfl (by omega) (by omega)).mp z) (by omega))
      · skip
        refine r_aln C dX4_most_25 rfl 4 rfl ?_
        refine r_il C dX4_most_26 0 rfl ?_
        refine r_iln C dX4_most_28 rfl 3 rfl ?_
        refine r_iln C dX4_most_29 rfl 5 rfl ?_
        refine aft_rd (st' := [.int (s_X4_isWalk n dy (nI d2) (nI ((s_X5_standing n la kd nd (0 : Int32)).toNatClampNeg)) k)]) (run_S (rest := []) C (c_X4_isWalk l D h a1 a2 a3 a4 a5 a6 pe n td ys la ri kd dy nd co od wo (nI d2) (nI ((s_X5_standing n la kd nd (0 : Int32)).toNatClampNeg)) k (by omega)) ok_X4_isWalk ws_X4_isWalk wm_X4_18 [0, 1, 2, 3, 4, 5, 6] rfl ⟨Nat.le_of_ble_eq_true rfl, Nat.le_of_ble_eq_true rfl⟩ rfl rfl (Nat.le_of_ble_eq_true rfl) dX4_most_30) rfl ?_
        refine r_ifne C (tgt := 39) dX4_most_33 (by decide) (fun c8 => ?_) (fun c8 => ?_)
        · rw [if_neg c8] at hv
          refine r_aln C dX4_most_39 rfl 4 rfl ?_
          refine r_il C dX4_most_40 0 rfl ?_
          refine aft_rd (st' := [.int (s_X5_sumBy pe n la kd nd co wo (nI d2))]) (run_VN (rest := []) C (c_X5_sumBy l D h a1 a2 a3 a4 a5 a6 pe n td ys la ri kd dy nd co od wo (nI d2) (by omega) (by omega)) ok_X5_sumBy wn_X5_sumBy wl_X5_sumBy wm_X4_15 [0, 1, 2, 3, 4, 5, 6] 0 rfl rfl rfl ⟨Nat.le_of_ble_eq_true rfl, Nat.le_of_ble_eq_true rfl⟩ rfl rfl (Nat.le_of_ble_eq_true rfl) dX4_most_42) rfl ?_
          refine r_is C (lv' := [(7, .int (s_X5_sumBy pe n la kd nd co wo (nI d2))), (6, .int (nI d2)), (5, .int sum_4), (4, .int best_3), (3, .int (nI ((s_X5_standing n la kd nd (0 : Int32)).toNatClampNeg))), (0, .ref h), (1, .int k), (2, .int fair)]) dX4_most_45 (by decide) rfl ?_
          refine r_il C dX4_most_47 1 rfl ?_
          refine aft_rd (st' := [.int (s_J6_bitCount_0f7a4 (nI d2))]) (run_S (rest := []) C (c_J6_bitCount_0f7a4 l D (nI d2) ) ok_J6_bitCount_0f7a4 ws_J6_bitCount_0f7a4 wm_X4_24 [] rfl ⟨Nat.le_of_ble_eq_true rfl, Nat.le_of_ble_eq_true rfl⟩ rfl rfl (Nat.le_of_ble_eq_true rfl) dX4_most_49) rfl ?_
          refine r_il C dX4_most_52 3 rfl ?_
          refine aft_rd (st' := [.int (s_J6_bitCount_0f7a4 best_3), .int (s_J6_bitCount_0f7a4 (nI d2))]) (run_S (rest := [.int (s_J6_bitCount_0f7a4 (nI d2))]) C (c_J6_bitCount_0f7a4 l D best_3 ) ok_J6_bitCount_0f7a4 ws_J6_bitCount_0f7a4 wm_X4_24 [] rfl ⟨Nat.le_of_ble_eq_true rfl, Nat.le_of_ble_eq_true rfl⟩ rfl rfl (Nat.le_of_ble_eq_true rfl) dX4_most_54) rfl ?_
          refine r_icge C (tgt := 64) dX4_most_57 (by decide) (fun c9 => ?_) (fun c9 => ?_)
          · rw [if_neg c9] at hv
            refine r_ic C (v := (0 : Int32)) dX4_most_64 (by decide) ?_
            refine r_is C (lv' := [(8, .int (0 : Int32)), (7, .int (s_X5_sumBy pe n la kd nd co wo (nI d2))), (6, .int (nI d2)), (5, .int sum_4), (4, .int best_3), (3, .int (nI ((s_X5_standing n la kd nd (0 : Int32)).toNatClampNeg))), (0, .ref h), (1, .int k), (2, .int fair)]) dX4_most_65 (by decide) rfl ?_
            refine r_il C dX4_most_67 1 rfl ?_
            refine r_il C dX4_most_69 3 rfl ?_
            refine r_icgt C (tgt := 86) dX4_most_71 (by decide) (fun c10 => ?_) (fun c10 => ?_)
            · rw [if_pos c10] at hv
              refine r_iln C dX4_most_86 rfl 8 rfl ?_
              refine r_ifeq C (tgt := 99) dX4_most_87 (by decide) (fun c11 => ?_) (fun c11 => ?_)
              · rw [if_pos c11] at hv
                refine r_il C dX4_most_99 2 rfl ?_
                refine r_is C (lv' := [(4, .int (nI d2)), (8, .int (0 : Int32)), (7, .int (s_X5_sumBy pe n la kd nd co wo (nI d2))), (6, .int (nI d2)), (5, .int sum_4), (3, .int (nI ((s_X5_standing n la kd nd (0 : Int32)).toNatClampNeg))), (0, .ref h), (1, .int k), (2, .int fair)]) dX4_most_101 (by decide) rfl ?_
                refine r_il C dX4_most_103 2 rfl ?_
                refine r_is C (lv' := [(5, .int (s_X5_sumBy pe n la kd nd co wo (nI d2))), (4, .int (nI d2)), (8, .int (0 : Int32)), (7, .int (s_X5_sumBy pe n la kd nd co wo (nI d2))), (6, .int (nI d2)), (3, .int (nI ((s_X5_standing n la kd nd (0 : Int32)).toNatClampNeg))), (0, .ref h), (1, .int k), (2, .int fair)]) dX4_most_105 (by decide) rfl ?_
                refine r_inc C (v := nI (d2 + 1)) (lv' := [(6, .int (nI (d2 + 1))), (5, .int (s_X5_sumBy pe n la kd nd co wo (nI d2))), (4, .int (nI d2)), (8, .int (0 : Int32)), (7, .int (s_X5_sumBy pe n la kd nd co wo (nI d2))), (3, .int (nI ((s_X5_standing n la kd nd (0 : Int32)).toNatClampNeg))), (0, .ref h), (1, .int k), (2, .int fair)]) dX4_most_107 4 rfl (inc_nI d2) (by decide) rfl ?_
                refine r_goto C (tgt := 19) dX4_most_110 (by decide) ?_
                refine r_lv [0, 1, 2, 5, 6, 7, 8] rfl ?_
                exact ih6 (d2 + 1) (nI d2) (s_X5_sumBy pe n la kd nd co wo (nI d2)) (by omega) hv
              · rw [if_neg c11] at hv
                refine r_aln C dX4_most_90 rfl 6 rfl ?_
                refine r_il C dX4_most_91 2 rfl ?_
                refine aft_rd (st' := [.int (s_X4_isFair pe n la kd nd co wo (nI d2))]) (run_S (rest := []) C (c_X4_isFair l D h a1 a2 a3 a4 a5 a6 pe n td ys la ri kd dy nd co od wo (nI d2) (by omega) (by omega)) ok_X4_isFair ws_X4_isFair wm_X4_29 [0, 1, 2, 3, 4, 5, 6] rfl ⟨Nat.le_of_ble_eq_true rfl, Nat.le_of_ble_eq_true rfl⟩ rfl rfl (Nat.le_of_ble_eq_true rfl) dX4_most_93) rfl ?_
                refine r_ifeq C (tgt := 107) dX4_most_96 (by decide) (fun c12 => ?_) (fun c12 => ?_)
                · rw [if_pos c12] at hv
                  refine r_inc C (v := nI (d2 + 1)) (lv' := [(6, .int (nI (d2 + 1))), (8, .int (0 : Int32)), (7, .int (s_X5_sumBy pe n la kd nd co wo (nI d2))), (5, .int sum_4), (4, .int best_3), (3, .int (nI ((s_X5_standing n la kd nd (0 : Int32)).toNatClampNeg))), (0, .ref h), (1, .int k), (2, .int fair)]) dX4_most_107 2 rfl (inc_nI d2) (by decide) rfl ?_
                  refine r_goto C (tgt := 19) dX4_most_110 (by decide) ?_
                  refine r_lv [0, 3, 4, 5, 6, 7, 8] rfl ?_
                  exact ih6 (d2 + 1) best_3 sum_4 (by omega) hv
                · rw [if_neg c12] at hv
                  refine r_il C dX4_most_99 2 rfl ?_
                  refine r_is C (lv' := [(4, .int (nI d2)), (8, .int (0 : Int32)), (7, .int (s_X5_sumBy pe n la kd nd co wo (nI d2))), (6, .int (nI d2)), (5, .int sum_4), (3, .int (nI ((s_X5_standing n la kd nd (0 : Int32)).toNatClampNeg))), (0, .ref h), (1, .int k), (2, .int fair)]) dX4_most_101 (by decide) rfl ?_
                  refine r_il C dX4_most_103 2 rfl ?_
                  refine r_is C (lv' := [(5, .int (s_X5_sumBy pe n la kd nd co wo (nI d2))), (4, .int (nI d2)), (8, .int (0 : Int32)), (7, .int (s_X5_sumBy pe n la kd nd co wo (nI d2))), (6, .int (nI d2)), (3, .int (nI ((s_X5_standing n la kd nd (0 : Int32)).toNatClampNeg))), (0, .ref h), (1, .int k), (2, .int fair)]) dX4_most_105 (by decide) rfl ?_
                  refine r_inc C (v := nI (d2 + 1)) (lv' := [(6, .int (nI (d2 + 1))), (5, .int (s_X5_sumBy pe n la kd nd co wo (nI d2))), (4, .int (nI d2)), (8, .int (0 : Int32)), (7, .int (s_X5_sumBy pe n la kd nd co wo (nI d2))), (3, .int (nI ((s_X5_standing n la kd nd (0 : Int32)).toNatClampNeg))), (0, .ref h), (1, .int k), (2, .int fair)]) dX4_most_107 4 rfl (inc_nI d2) (by decide) rfl ?_
                  refine r_goto C (tgt := 19) dX4_most_110 (by decide) ?_
                  refine r_lv [0, 1, 2, 5, 6, 7, 8] rfl ?_
                  exact ih6 (d2 + 1) (nI d2) (s_X5_sumBy pe n la kd nd co wo (nI d2)) (by omega) hv
            · rw [if_neg c10] at hv
              refine r_il C dX4_most_74 1 rfl ?_
              refine r_il C dX4_most_76 3 rfl ?_
              refine r_icne C (tgt := 107) dX4_most_78 (by decide) (fun c13 => ?_) (fun c13 => ?_)
              · rw [if_neg c13] at hv
                refine r_inc C (v := nI (d2 + 1)) (lv' := [(6, .int (nI (d2 + 1))), (8, .int (0 : Int32)), (7, .int (s_X5_sumBy pe n la kd nd co wo (nI d2))), (5, .int sum_4), (4, .int best_3), (3, .int (nI ((s_X5_standing n la kd nd (0 : Int32)).toNatClampNeg))), (0, .ref h), (1, .int k), (2, .int fair)]) dX4_most_107 2 rfl (inc_nI d2) (by decide) rfl ?_
                refine r_goto C (tgt := 19) dX4_most_110 (by decide) ?_
                refine r_lv [0, 3, 4, 5, 6, 7, 8] rfl ?_
                exact ih6 (d2 + 1) best_3 sum_4 (by omega) hv
              · rw [if_pos c13] at hv
                refine r_il C dX4_most_81 0 rfl ?_
                refine r_ifeq C (tgt := 107) dX4_most_83 (by decide) (fun c14 => ?_) (fun c14 => ?_)
                · skip
                  refine r_inc C (v := nI (d2 + 1)) (lv' := [(6, .int (nI (d2 + 1))), (8, .int (0 : Int32)), (7, .int (s_X5_sumBy pe n la kd nd co wo (nI d2))), (5, .int sum_4), (4, .int best_3), (3, .int (nI ((s_X5_standing n la kd nd (0 : Int32)).toNatClampNeg))), (0, .ref h), (1, .int k), (2, .int fair)]) dX4_most_107 2 rfl (inc_nI d2) (by decide) rfl ?_
                  refine r_goto C (tgt := 19) dX4_most_110 (by decide) ?_
                  refine r_lv [0, 3, 4, 5, 6, 7, 8] rfl ?_
                  exact ih6 (d2 + 1) best_3 sum_4 (by omega) hv
                · exact absurd (by decide) c14
          · rw [if_pos c9] at hv
            refine r_ic C (v := (1 : Int32)) dX4_most_60 (by decide) ?_
            refine r_goto C (tgt := 65) dX4_most_61 (by decide) ?_
            refine r_is C (lv' := [(8, .int (1 : Int32)), (7, .int (s_X5_sumBy pe n la kd nd co wo (nI d2))), (6, .int (nI d2)), (5, .int sum_4), (4, .int best_3), (3, .int (nI ((s_X5_standing n la kd nd (0 : Int32)).toNatClampNeg))), (0, .ref h), (1, .int k), (2, .int fair)]) dX4_most_65 (by decide) rfl ?_
            refine r_il C dX4_most_67 1 rfl ?_
            refine r_il C dX4_most_69 3 rfl ?_
            refine r_icgt C (tgt := 86) dX4_most_71 (by decide) (fun c15 => ?_) (fun c15 => ?_)
            · rw [if_pos c15] at hv
              refine r_iln C dX4_most_86 rfl 8 rfl ?_
              refine r_ifeq C (tgt := 99) dX4_most_87 (by decide) (fun c16 => ?_) (fun c16 => ?_)
              · rw [if_pos c16] at hv
                refine r_il C dX4_most_99 2 rfl ?_
                refine r_is C (lv' := [(4, .int (nI d2)), (8, .int (1 : Int32)), (7, .int (s_X5_sumBy pe n la kd nd co wo (nI d2))), (6, .int (nI d2)), (5, .int sum_4), (3, .int (nI ((s_X5_standing n la kd nd (0 : Int32)).toNatClampNeg))), (0, .ref h), (1, .int k), (2, .int fair)]) dX4_most_101 (by decide) rfl ?_
                refine r_il C dX4_most_103 2 rfl ?_
                refine r_is C (lv' := [(5, .int (s_X5_sumBy pe n la kd nd co wo (nI d2))), (4, .int (nI d2)), (8, .int (1 : Int32)), (7, .int (s_X5_sumBy pe n la kd nd co wo (nI d2))), (6, .int (nI d2)), (3, .int (nI ((s_X5_standing n la kd nd (0 : Int32)).toNatClampNeg))), (0, .ref h), (1, .int k), (2, .int fair)]) dX4_most_105 (by decide) rfl ?_
                refine r_inc C (v := nI (d2 + 1)) (lv' := [(6, .int (nI (d2 + 1))), (5, .int (s_X5_sumBy pe n la kd nd co wo (nI d2))), (4, .int (nI d2)), (8, .int (1 : Int32)), (7, .int (s_X5_sumBy pe n la kd nd co wo (nI d2))), (3, .int (nI ((s_X5_standing n la kd nd (0 : Int32)).toNatClampNeg))), (0, .ref h), (1, .int k), (2, .int fair)]) dX4_most_107 4 rfl (inc_nI d2) (by decide) rfl ?_
                refine r_goto C (tgt := 19) dX4_most_110 (by decide) ?_
                refine r_lv [0, 1, 2, 5, 6, 7, 8] rfl ?_
                exact ih6 (d2 + 1) (nI d2) (s_X5_sumBy pe n la kd nd co wo (nI d2)) (by omega) hv
              · rw [if_neg c16] at hv
                refine r_aln C dX4_most_90 rfl 6 rfl ?_
                refine r_il C dX4_most_91 2 rfl ?_
                refine aft_rd (st' := [.int (s_X4_isFair pe n la kd nd co wo (nI d2))]) (run_S (rest := []) C (c_X4_isFair l D h a1 a2 a3 a4 a5 a6 pe n td ys la ri kd dy nd co od wo (nI d2) (by omega) (by omega)) ok_X4_isFair ws_X4_isFair wm_X4_29 [0, 1, 2, 3, 4, 5, 6] rfl ⟨Nat.le_of_ble_eq_true rfl, Nat.le_of_ble_eq_true rfl⟩ rfl rfl (Nat.le_of_ble_eq_true rfl) dX4_most_93) rfl ?_
                refine r_ifeq C (tgt := 107) dX4_most_96 (by decide) (fun c17 => ?_) (fun c17 => ?_)
                · rw [if_pos c17] at hv
                  refine r_inc C (v := nI (d2 + 1)) (lv' := [(6, .int (nI (d2 + 1))), (8, .int (1 : Int32)), (7, .int (s_X5_sumBy pe n la kd nd co wo (nI d2))), (5, .int sum_4), (4, .int best_3), (3, .int (nI ((s_X5_standing n la kd nd (0 : Int32)).toNatClampNeg))), (0, .ref h), (1, .int k), (2, .int fair)]) dX4_most_107 2 rfl (inc_nI d2) (by decide) rfl ?_
                  refine r_goto C (tgt := 19) dX4_most_110 (by decide) ?_
                  refine r_lv [0, 3, 4, 5, 6, 7, 8] rfl ?_
                  exact ih6 (d2 + 1) best_3 sum_4 (by omega) hv
                · rw [if_neg c17] at hv
                  refine r_il C dX4_most_99 2 rfl ?_
                  refine r_is C (lv' := [(4, .int (nI d2)), (8, .int (1 : Int32)), (7, .int (s_X5_sumBy pe n la kd nd co wo (nI d2))), (6, .int (nI d2)), (5, .int sum_4), (3, .int (nI ((s_X5_standing n la kd nd (0 : Int32)).toNatClampNeg))), (0, .ref h), (1, .int k), (2, .int fair)]) dX4_most_101 (by decide) rfl ?_
                  refine r_il C dX4_most_103 2 rfl ?_
                  refine r_is C (lv' := [(5, .int (s_X5_sumBy pe n la kd nd co wo (nI d2))), (4, .int (nI d2)), (8, .int (1 : Int32)), (7, .int (s_X5_sumBy pe n la kd nd co wo (nI d2))), (6, .int (nI d2)), (3, .int (nI ((s_X5_standing n la kd nd (0 : Int32)).toNatClampNeg))), (0, .ref h), (1, .int k), (2, .int fair)]) dX4_most_105 (by decide) rfl ?_
                  refine r_inc C (v := nI (d2 + 1)) (lv' := [(6, .int (nI (d2 + 1))), (5, .int (s_X5_sumBy pe n la kd nd co wo (nI d2))), (4, .int (nI d2)), (8, .int (1 : Int32)), (7, .int (s_X5_sumBy pe n la kd nd co wo (nI d2))), (3, .int (nI ((s_X5_standing n la kd nd (0 : Int32)).toNatClampNeg))), (0, .ref h), (1, .int k), (2, .int fair)]) dX4_most_107 4 rfl (inc_nI d2) (by decide) rfl ?_
                  refine r_goto C (tgt := 19) dX4_most_110 (by decide) ?_
                  refine r_lv [0, 1, 2, 5, 6, 7, 8] rfl ?_
                  exact ih6 (d2 + 1) (nI d2) (s_X5_sumBy pe n la kd nd co wo (nI d2)) (by omega) hv
            · rw [if_neg c15] at hv
              refine r_il C dX4_most_74 1 rfl ?_
              refine r_il C dX4_most_76 3 rfl ?_
              refine r_icne C (tgt := 107) dX4_most_78 (by decide) (fun c18 => ?_) (fun c18 => ?_)
              · rw [if_neg c18] at hv
                refine r_inc C (v := nI (d2 + 1)) (lv' := [(6, .int (nI (d2 + 1))), (8, .int (1 : Int32)), (7, .int (s_X5_sumBy pe n la kd nd co wo (nI d2))), (5, .int sum_4), (4, .int best_3), (3, .int (nI ((s_X5_standing n la kd nd (0 : Int32)).toNatClampNeg))), (0, .ref h), (1, .int k), (2, .int fair)]) dX4_most_107 2 rfl (inc_nI d2) (by decide) rfl ?_
                refine r_goto C (tgt := 19) dX4_most_110 (by decide) ?_
                refine r_lv [0, 3, 4, 5, 6, 7, 8] rfl ?_
                exact ih6 (d2 + 1) best_3 sum_4 (by omega) hv
              · rw [if_pos c18] at hv
                refine r_il C dX4_most_81 0 rfl ?_
                refine r_ifeq C (tgt := 107) dX4_most_83 (by decide) (fun c19 => ?_) (fun c19 => ?_)
                · exact absurd c19 (by decide)
                · skip
                  refine r_iln C dX4_most_86 rfl 8 rfl ?_
                  refine r_ifeq C (tgt := 99) dX4_most_87 (by decide) (fun c20 => ?_) (fun c20 => ?_)
                  · rw [if_pos c20] at hv
                    refine r_il C dX4_most_99 2 rfl ?_
                    refine r_is C (lv' := [(4, .int (nI d2)), (8, .int (1 : Int32)), (7, .int (s_X5_sumBy pe n la kd nd co wo (nI d2))), (6, .int (nI d2)), (5, .int sum_4), (3, .int (nI ((s_X5_standing n la kd nd (0 : Int32)).toNatClampNeg))), (0, .ref h), (1, .int k), (2, .int fair)]) dX4_most_101 (by decide) rfl ?_
                    refine r_il C dX4_most_103 2 rfl ?_
                    refine r_is C (lv' := [(5, .int (s_X5_sumBy pe n la kd nd co wo (nI d2))), (4, .int (nI d2)), (8, .int (1 : Int32)), (7, .int (s_X5_sumBy pe n la kd nd co wo (nI d2))), (6, .int (nI d2)), (3, .int (nI ((s_X5_standing n la kd nd (0 : Int32)).toNatClampNeg))), (0, .ref h), (1, .int k), (2, .int fair)]) dX4_most_105 (by decide) rfl ?_
                    refine r_inc C (v := nI (d2 + 1)) (lv' := [(6, .int (nI (d2 + 1))), (5, .int (s_X5_sumBy pe n la kd nd co wo (nI d2))), (4, .int (nI d2)), (8, .int (1 : Int32)), (7, .int (s_X5_sumBy pe n la kd nd co wo (nI d2))), (3, .int (nI ((s_X5_standing n la kd nd (0 : Int32)).toNatClampNeg))), (0, .ref h), (1, .int k), (2, .int fair)]) dX4_most_107 4 rfl (inc_nI d2) (by decide) rfl ?_
                    refine r_goto C (tgt := 19) dX4_most_110 (by decide) ?_
                    refine r_lv [0, 1, 2, 5, 6, 7, 8] rfl ?_
                    exact ih6 (d2 + 1) (nI d2) (s_X5_sumBy pe n la kd nd co wo (nI d2)) (by omega) hv
                  · rw [if_neg c20] at hv
                    refine r_aln C dX4_most_90 rfl 6 rfl ?_
                    refine r_il C dX4_most_91 2 rfl ?_
                    refine aft_rd (st' := [.int (s_X4_isFair pe n la kd nd co wo (nI d2))]) (run_S (rest := []) C (c_X4_isFair l D h a1 a2 a3 a4 a5 a6 pe n td ys la ri kd dy nd co od wo (nI d2) (by omega) (by omega)) ok_X4_isFair ws_X4_isFair wm_X4_29 [0, 1, 2, 3, 4, 5, 6] rfl ⟨Nat.le_of_ble_eq_true rfl, Nat.le_of_ble_eq_true rfl⟩ rfl rfl (Nat.le_of_ble_eq_true rfl) dX4_most_93) rfl ?_
                    refine r_ifeq C (tgt := 107) dX4_most_96 (by decide) (fun c21 => ?_) (fun c21 => ?_)
                    · rw [if_pos c21] at hv
                      refine r_inc C (v := nI (d2 + 1)) (lv' := [(6, .int (nI (d2 + 1))), (8, .int (1 : Int32)), (7, .int (s_X5_sumBy pe n la kd nd co wo (nI d2))), (5, .int sum_4), (4, .int best_3), (3, .int (nI ((s_X5_standing n la kd nd (0 : Int32)).toNatClampNeg))), (0, .ref h), (1, .int k), (2, .int fair)]) dX4_most_107 2 rfl (inc_nI d2) (by decide) rfl ?_
                      refine r_goto C (tgt := 19) dX4_most_110 (by decide) ?_
                      refine r_lv [0, 3, 4, 5, 6, 7, 8] rfl ?_
                      exact ih6 (d2 + 1) best_3 sum_4 (by omega) hv
                    · rw [if_neg c21] at hv
                      refine r_il C dX4_most_99 2 rfl ?_
                      refine r_is C (lv' := [(4, .int (nI d2)), (8, .int (1 : Int32)), (7, .int (s_X5_sumBy pe n la kd nd co wo (nI d2))), (6, .int (nI d2)), (5, .int sum_4), (3, .int (nI ((s_X5_standing n la kd nd (0 : Int32)).toNatClampNeg))), (0, .ref h), (1, .int k), (2, .int fair)]) dX4_most_101 (by decide) rfl ?_
                      refine r_il C dX4_most_103 2 rfl ?_
                      refine r_is C (lv' := [(5, .int (s_X5_sumBy pe n la kd nd co wo (nI d2))), (4, .int (nI d2)), (8, .int (1 : Int32)), (7, .int (s_X5_sumBy pe n la kd nd co wo (nI d2))), (6, .int (nI d2)), (3, .int (nI ((s_X5_standing n la kd nd (0 : Int32)).toNatClampNeg))), (0, .ref h), (1, .int k), (2, .int fair)]) dX4_most_105 (by decide) rfl ?_
                      refine r_inc C (v := nI (d2 + 1)) (lv' := [(6, .int (nI (d2 + 1))), (5, .int (s_X5_sumBy pe n la kd nd co wo (nI d2))), (4, .int (nI d2)), (8, .int (1 : Int32)), (7, .int (s_X5_sumBy pe n la kd nd co wo (nI d2))), (3, .int (nI ((s_X5_standing n la kd nd (0 : Int32)).toNatClampNeg))), (0, .ref h), (1, .int k), (2, .int fair)]) dX4_most_107 4 rfl (inc_nI d2) (by decide) rfl ?_
                      refine r_goto C (tgt := 19) dX4_most_110 (by decide) ?_
                      refine r_lv [0, 1, 2, 5, 6, 7, 8] rfl ?_
                      exact ih6 (d2 + 1) (nI d2) (s_X5_sumBy pe n la kd nd co wo (nI d2)) (by omega) hv
        · rw [if_pos c8] at hv
          refine r_goto C (tgt := 107) dX4_most_36 (by decide) ?_
          refine r_inc C (v := nI (d2 + 1)) (lv' := [(6, .int (nI (d2 + 1))), (5, .int sum_4), (4, .int best_3), (3, .int (nI ((s_X5_standing n la kd nd (0 : Int32)).toNatClampNeg))), (0, .ref h), (1, .int k), (2, .int fair)]) dX4_most_107 0 rfl (inc_nI d2) (by decide) rfl ?_
          refine r_goto C (tgt := 19) dX4_most_110 (by decide) ?_
          exact ih6 (d2 + 1) best_3 sum_4 (by omega) hv
  refine r_lve (lv2 := [(6, .int (nI 1)), (5, .int (s_X5_sumBy pe n la kd nd co wo (0 : Int32))), (4, .int (0 : Int32)), (3, .int (nI ((s_X5_standing n la kd nd (0 : Int32)).toNatClampNeg))), (0, .ref h), (1, .int k), (2, .int fair)]) (congrArg (fun (z : Int32) => ([(6, .int z), (5, .int (s_X5_sumBy pe n la kd nd co wo (0 : Int32))), (4, .int (0 : Int32)), (3, .int (nI ((s_X5_standing n la kd nd (0 : Int32)).toNatClampNeg))), (0, .ref h), (1, .int k), (2, .int fair)] : List (Nat × Value))) rfl) ?_
  exact L22 ((s_X5_standing n la kd nd (0 : Int32)).toNatClampNeg) 1 (0 : Int32) (s_X5_sumBy pe n la kd nd co wo (0 : Int32)) (by omega) hv

def s_X4_fewest_L16 (n : Nat) (la : Int32) (kd : Nat → Int32) (dy : Nat → Int32) (nd : Nat → Int32) (must : Int32) (no : Int32) : Nat → Nat → Int32 → Int32 → Int32 × Int32
  | 0, _, best_3, size_4 => (best_3, size_4)
  | k1 + 1, d2, best_3, size_4 => (if s_J6_bitCount_0f7a4 (nI d2) < size_4 then (if s_X4_isWalk n dy (nI d2) (nI ((s_X5_standing n la kd nd (0 : Int32)).toNatClampNeg)) (4 : Int32) = (0 : Int32) then (s_X4_fewest_L16 n la kd dy nd must no k1 (d2 + 1) best_3 size_4) else (if s_X6_isWithin must (s_X5_standing n la kd nd (nI d2)) = (0 : Int32) then (s_X4_fewest_L16 n la kd dy nd must no k1 (d2 + 1) best_3 size_4) else (if no &&& (s_X5_standing n la kd nd (nI d2)) = (0 : Int32) then (s_X4_fewest_L16 n la kd dy nd must no k1 (d2 + 1) (nI d2) (s_J6_bitCount_0f7a4 (nI d2))) else (s_X4_fewest_L16 n la kd dy nd must no k1 (d2 + 1) best_3 size_4)))) else (s_X4_fewest_L16 n la kd dy nd must no k1 (d2 + 1) best_3 size_4))
def s_X4_fewest (n : Nat) (la : Int32) (kd : Nat → Int32) (dy : Nat → Int32) (nd : Nat → Int32) (must : Int32) (no : Int32) : Int32 := ((s_X4_fewest_L16 n la kd dy nd must no ((s_X5_standing n la kd nd (0 : Int32)).toNatClampNeg + 1) 0 (-4 : Int32) (5 : Int32)).1)
set_option maxHeartbeats 8000000 in
set_option maxRecDepth 100000 in
theorem c_X4_fewest (l : Launch) (D : va_G) (h : Nat) (a1 : Nat) (a2 : Nat) (a3 : Nat) (a4 : Nat) (a5 : Nat) (a6 : Nat) (pe : Nat) (n : Nat) (td : Int32) (ys : Int32) (la : Int32) (ri : Int32) (kd : Nat → Int32) (dy : Nat → Int32) (nd : Nat → Int32) (co : Nat → Int32) (od : Nat → Int32) (wo : Nat → Int32) (must : Int32) (no : Int32) (hn : n ≤ 12) : ct l yX4_fewest cX4_fewest 8 (some .int) 3 69 D [.ref h, .int must, .int no] (wY D h a1 a2 a3 a4 a5 a6 pe n td ys la ri kd dy nd co od wo) (wY D h a1 a2 a3 a4 a5 a6 pe n td ys la ri kd dy nd co od wo) (fun _ => False) (some (Value.int (s_X4_fewest n la kd dy nd must no))) := by
  obtain ⟨V, hv⟩ : ∃ V, s_X4_fewest n la kd dy nd must no = V := ⟨_, rfl⟩
  rw [hv]
  refine ct_intro (own := RX4) (lv := [(0, .ref h), (1, .int must), (2, .int no)]) (by decide) rfl (Nat.le_of_ble_eq_true rfl) rfl ?_
  intro p_ e_ s_ m_ below_ meth_ c_ C
  have hv : ((s_X4_fewest_L16 n la kd dy nd must no ((s_X5_standing n la kd nd (0 : Int32)).toNatClampNeg + 1) 0 (-4 : Int32) (5 : Int32)).1) = V := hv
  refine r_aln C dX4_fewest_0 rfl 0 rfl ?_
  refine r_ic C (v := (0 : Int32)) dX4_fewest_1 (by decide) ?_
  refine aft_rd (st' := [.int (s_X5_standing n la kd nd (0 : Int32))]) (run_VN (rest := []) C (c_X5_standing l D h a1 a2 a3 a4 a5 a6 pe n td ys la ri kd dy nd co od wo (0 : Int32) (by omega)) ok_X5_standing wn_X5_standing wl_X5_standing wm_X4_9 [0, 1, 2, 3, 4, 5, 6] 0 rfl rfl rfl ⟨Nat.le_of_ble_eq_true rfl, Nat.le_of_ble_eq_true rfl⟩ rfl rfl (Nat.le_of_ble_eq_true rfl) dX4_fewest_2) rfl ?_
  refine r_top (nn_nI (isSet_nn hn (isSet_standing hn la kd nd (0 : Int32))).1) ?_
  have hO := (isSet_nn hn (isSet_standing hn la kd nd (0 : Int32))).2.2
  refine r_isn C (lv' := [(3, .int (nI ((s_X5_standing n la kd nd (0 : Int32)).toNatClampNeg))), (0, .ref h), (1, .int must), (2, .int no)]) dX4_fewest_5 rfl (by decide) rfl ?_
  refine r_bp C (v := (-4 : Int32)) dX4_fewest_6 (by decide) ?_
  refine r_is C (lv' := [(4, .int (-4 : Int32)), (3, .int (nI ((s_X5_standing n la kd nd (0 : Int32)).toNatClampNeg))), (0, .ref h), (1, .int must), (2, .int no)]) dX4_fewest_8 (by decide) rfl ?_
  refine r_ic C (v := (5 : Int32)) dX4_fewest_10 (by decide) ?_
  refine r_is C (lv' := [(5, .int (5 : Int32)), (4, .int (-4 : Int32)), (3, .int (nI ((s_X5_standing n la kd nd (0 : Int32)).toNatClampNeg))), (0, .ref h), (1, .int must), (2, .int no)]) dX4_fewest_11 (by decide) rfl ?_
  refine r_ic C (v := (0 : Int32)) dX4_fewest_13 (by decide) ?_
  refine r_is C (lv' := [(6, .int (0 : Int32)), (5, .int (5 : Int32)), (4, .int (-4 : Int32)), (3, .int (nI ((s_X5_standing n la kd nd (0 : Int32)).toNatClampNeg))), (0, .ref h), (1, .int must), (2, .int no)]) dX4_fewest_14 (by decide) rfl ?_
  have L12 : ∀ (k1 : Nat) (d2 : Nat) (best_3 : Int32) (size_4 : Int32), (d2 + k1 = (s_X5_standing n la kd nd (0 : Int32)).toNatClampNeg + 1) → ((s_X4_fewest_L16 n la kd dy nd must no k1 d2 best_3 size_4).1) = V → GM p_ l e_ s_ m_ below_ meth_ c_ D 3 69 8 [.ref h, .int must, .int no] (wY D h a1 a2 a3 a4 a5 a6 pe n td ys la ri kd dy nd co od wo) (fun _ => False) (some (Value.int V)) (wY D h a1 a2 a3 a4 a5 a6 pe n td ys la ri kd dy nd co od wo) 16 [(6, .int (nI d2)), (5, .int size_4), (4, .int best_3), (3, .int (nI ((s_X5_standing n la kd nd (0 : Int32)).toNatClampNeg))), (0, .ref h), (1, .int must), (2, .int no)] [] := by
    intro k1
    induction k1 with
    | zero =>
      intro d2 best_3 size_4 hk hv
      have hv : best_3 = V := hv
      refine r_il C dX4_fewest_16 0 rfl ?_
      refine r_iln C dX4_fewest_18 rfl 3 rfl ?_
      refine r_icgt C (tgt := 87) dX4_fewest_19 (by decide) (fun c5 => ?_) (fun c5 => ?_)
      · skip
        refine r_il C dX4_fewest_87 2 rfl ?_
        exact r_iret rfl C (congrArg (fun z => some (Value.int z)) hv) rfl dX4_fewest_89
      · exact absurd ((nv_lt (a := (s_X5_standing n la kd nd (0 : Int32)).toNatClampNeg) (b := d2) rfl rfl (by omega) (by omega)).mpr (by omega)) c5
    | succ k1 ih6 =>
      intro d2 best_3 size_4 hk hv
      have hv : ((if s_J6_bitCount_0f7a4 (nI d2) < size_4 then (if s_X4_isWalk n dy (nI d2) (nI ((s_X5_standing n la kd nd (0 : Int32)).toNatClampNeg)) (4 : Int32) = (0 : Int32) then (s_X4_fewest_L16 n la kd dy nd must no k1 (d2 + 1) best_3 size_4) else (if s_X6_isWithin must (s_X5_standing n la kd nd (nI d2)) = (0 : Int32) then (s_X4_fewest_L16 n la kd dy nd must no k1 (d2 + 1) best_3 size_4) else (if no &&& (s_X5_standing n la kd nd (nI d2)) = (0 : Int32) then (s_X4_fewest_L16 n la kd dy nd must no k1 (d2 + 1) (nI d2) (s_J6_bitCount_0f7a4 (nI d2))) else (s_X4_fewest_L16 n la kd dy nd must no k1 (d2 + 1) best_3 size_4)))) else (s_X4_fewest_L16 n la kd dy nd must no k1 (d2 + 1) best_3 size_4)).1) = V := hv
      refine r_il C dX4_fewest_16 0 rfl ?_
      refine r_iln C dX4_fewest_18 rfl 3 rfl ?_
      refine r_icgt C (tgt := 87) dX4_fewest_19 (by decide) (fun c7 => ?_) (fun c7 => ?_)
      · exact absurd c7 (fun z => absurd ((nv_lt (a := (s_X5_standing n la kd nd (0 : Int32)).toNatClampNeg) (b := d2) rfl rfl (by omega) (by omega)).mp z) (by omega))
      · skip
        refine r_il C dX4_fewest_22 0 rfl ?_
        refine aft_rd (st' := [.int (s_J6_bitCount_0f7a4 (nI d2))]) (run_S (rest := []) C (c_J6_bitCount_0f7a4 l D (nI d2) ) ok_J6_bitCount_0f7a4 ws_J6_bitCount_0f7a4 wm_X4_24 [] rfl ⟨Nat.le_of_ble_eq_true rfl, Nat.le_of_ble_eq_true rfl⟩ rfl rfl (Nat.le_of_ble_eq_true rfl) dX4_fewest_24) rfl ?_
        refine r_il C dX4_fewest_27 1 rfl ?_
        refine r_icge C (tgt := 81) dX4_fewest_29 (by decide) (fun c8 => ?_) (fun c8 => ?_)
        · rw [if_neg c8] at hv
          refine r_inc C (v := nI (d2 + 1)) (lv' := [(6, .int (nI (d2 + 1))), (5, .int size_4), (4, .int best_3), (3, .int (nI ((s_X5_standing n la kd nd (0 : Int32)).toNatClampNeg))), (0, .ref h), (1, .int must), (2, .int no)]) dX4_fewest_81 0 rfl (inc_nI d2) (by decide) rfl ?_
          refine r_goto C (tgt := 16) dX4_fewest_84 (by decide) ?_
          exact ih6 (d2 + 1) best_3 size_4 (by omega) hv
        · rw [if_pos c8] at hv
          refine r_aln C dX4_fewest_32 rfl 4 rfl ?_
          refine r_il C dX4_fewest_33 0 rfl ?_
          refine r_iln C dX4_fewest_35 rfl 3 rfl ?_
          refine r_ic C (v := (4 : Int32)) dX4_fewest_36 (by decide) ?_
          refine aft_rd (st' := [.int (s_X4_isWalk n dy (nI d2) (nI ((s_X5_standing n la kd nd (0 : Int32)).toNatClampNeg)) (4 : Int32))]) (run_S (rest := []) C (c_X4_isWalk l D h a1 a2 a3 a4 a5 a6 pe n td ys la ri kd dy nd co od wo (nI d2) (nI ((s_X5_standing n la kd nd (0 : Int32)).toNatClampNeg)) (4 : Int32) (by omega)) ok_X4_isWalk ws_X4_isWalk wm_X4_18 [0, 1, 2, 3, 4, 5, 6] rfl ⟨Nat.le_of_ble_eq_true rfl, Nat.le_of_ble_eq_true rfl⟩ rfl rfl (Nat.le_of_ble_eq_true rfl) dX4_fewest_37) rfl ?_
          refine r_ifne C (tgt := 46) dX4_fewest_40 (by decide) (fun c9 => ?_) (fun c9 => ?_)
          · rw [if_neg c9] at hv
            refine r_aln C dX4_fewest_46 rfl 4 rfl ?_
            refine r_il C dX4_fewest_47 0 rfl ?_
            refine aft_rd (st' := [.int (s_X5_standing n la kd nd (nI d2))]) (run_VN (rest := []) C (c_X5_standing l D h a1 a2 a3 a4 a5 a6 pe n td ys la ri kd dy nd co od wo (nI d2) (by omega)) ok_X5_standing wn_X5_standing wl_X5_standing wm_X4_9 [0, 1, 2, 3, 4, 5, 6] 0 rfl rfl rfl ⟨Nat.le_of_ble_eq_true rfl, Nat.le_of_ble_eq_true rfl⟩ rfl rfl (Nat.le_of_ble_eq_true rfl) dX4_fewest_49) rfl ?_
            refine r_is C (lv' := [(7, .int (s_X5_standing n la kd nd (nI d2))), (6, .int (nI d2)), (5, .int size_4), (4, .int best_3), (3, .int (nI ((s_X5_standing n la kd nd (0 : Int32)).toNatClampNeg))), (0, .ref h), (1, .int must), (2, .int no)]) dX4_fewest_52 (by decide) rfl ?_
            refine r_iln C dX4_fewest_54 rfl 6 rfl ?_
            refine r_il C dX4_fewest_55 0 rfl ?_
            refine aft_rd (st' := [.int (s_X6_isWithin must (s_X5_standing n la kd nd (nI d2)))]) (run_SN (rest := []) C (c_X6_isWithin l D must (s_X5_standing n la kd nd (nI d2)) ) ok_X6_isWithin ws_X6_isWithin wm_X4_33 [] rfl ⟨Nat.le_of_ble_eq_true rfl, Nat.le_of_ble_eq_true rfl⟩ rfl rfl (Nat.le_of_ble_eq_true rfl) dX4_fewest_57) rfl ?_
            refine r_ifeq C (tgt := 81) dX4_fewest_60 (by decide) (fun c10 => ?_) (fun c10 => ?_)
            · rw [if_pos c10] at hv
              refine r_inc C (v := nI (d2 + 1)) (lv' := [(6, .int (nI (d2 + 1))), (7, .int (s_X5_standing n la kd nd (nI d2))), (5, .int size_4), (4, .int best_3), (3, .int (nI ((s_X5_standing n la kd nd (0 : Int32)).toNatClampNeg))), (0, .ref h), (1, .int must), (2, .int no)]) dX4_fewest_81 1 rfl (inc_nI d2) (by decide) rfl ?_
              refine r_goto C (tgt := 16) dX4_fewest_84 (by decide) ?_
              refine r_lv [0, 2, 3, 4, 5, 6, 7] rfl ?_
              exact ih6 (d2 + 1) best_3 size_4 (by omega) hv
            · rw [if_neg c10] at hv
              refine r_iln C dX4_fewest_63 rfl 7 rfl ?_
              refine r_il C dX4_fewest_64 0 rfl ?_
              refine r_iand C dX4_fewest_66 ?_
              refine r_ifne C (tgt := 81) dX4_fewest_67 (by decide) (fun c11 => ?_) (fun c11 => ?_)
              · rw [if_neg c11] at hv
                refine r_inc C (v := nI (d2 + 1)) (lv' := [(6, .int (nI (d2 + 1))), (7, .int (s_X5_standing n la kd nd (nI d2))), (5, .int size_4), (4, .int best_3), (3, .int (nI ((s_X5_standing n la kd nd (0 : Int32)).toNatClampNeg))), (0, .ref h), (1, .int must), (2, .int no)]) dX4_fewest_81 1 rfl (inc_nI d2) (by decide) rfl ?_
                refine r_goto C (tgt := 16) dX4_fewest_84 (by decide) ?_
                refine r_lv [0, 2, 3, 4, 5, 6, 7] rfl ?_
                exact ih6 (d2 + 1) best_3 size_4 (by omega) hv
              · rw [if_pos c11] at hv
                refine r_il C dX4_fewest_70 1 rfl ?_
                refine r_is C (lv' := [(4, .int (nI d2)), (7, .int (s_X5_standing n la kd nd (nI d2))), (6, .int (nI d2)), (5, .int size_4), (3, .int (nI ((s_X5_standing n la kd nd (0 : Int32)).toNatClampNeg))), (0, .ref h), (1, .int must), (2, .int no)]) dX4_fewest_72 (by decide) rfl ?_
                refine r_il C dX4_fewest_74 2 rfl ?_
                refine aft_rd (st' := [.int (s_J6_bitCount_0f7a4 (nI d2))]) (run_S (rest := []) C (c_J6_bitCount_0f7a4 l D (nI d2) ) ok_J6_bitCount_0f7a4 ws_J6_bitCount_0f7a4 wm_X4_24 [] rfl ⟨Nat.le_of_ble_eq_true rfl, Nat.le_of_ble_eq_true rfl⟩ rfl rfl (Nat.le_of_ble_eq_true rfl) dX4_fewest_76) rfl ?_
                refine r_is C (lv' := [(5, .int (s_J6_bitCount_0f7a4 (nI d2))), (4, .int (nI d2)), (7, .int (s_X5_standing n la kd nd (nI d2))), (6, .int (nI d2)), (3, .int (nI ((s_X5_standing n la kd nd (0 : Int32)).toNatClampNeg))), (0, .ref h), (1, .int must), (2, .int no)]) dX4_fewest_79 (by decide) rfl ?_
                refine r_inc C (v := nI (d2 + 1)) (lv' := [(6, .int (nI (d2 + 1))), (5, .int (s_J6_bitCount_0f7a4 (nI d2))), (4, .int (nI d2)), (7, .int (s_X5_standing n la kd nd (nI d2))), (3, .int (nI ((s_X5_standing n la kd nd (0 : Int32)).toNatClampNeg))), (0, .ref h), (1, .int must), (2, .int no)]) dX4_fewest_81 3 rfl (inc_nI d2) (by decide) rfl ?_
                refine r_goto C (tgt := 16) dX4_fewest_84 (by decide) ?_
                refine r_lv [0, 1, 2, 4, 5, 6, 7] rfl ?_
                exact ih6 (d2 + 1) (nI d2) (s_J6_bitCount_0f7a4 (nI d2)) (by omega) hv
          · rw [if_pos c9] at hv
            refine r_goto C (tgt := 81) dX4_fewest_43 (by decide) ?_
            refine r_inc C (v := nI (d2 + 1)) (lv' := [(6, .int (nI (d2 + 1))), (5, .int size_4), (4, .int best_3), (3, .int (nI ((s_X5_standing n la kd nd (0 : Int32)).toNatClampNeg))), (0, .ref h), (1, .int must), (2, .int no)]) dX4_fewest_81 0 rfl (inc_nI d2) (by decide) rfl ?_
            refine r_goto C (tgt := 16) dX4_fewest_84 (by decide) ?_
            exact ih6 (d2 + 1) best_3 size_4 (by omega) hv
  refine r_lve (lv2 := [(6, .int (nI 0)), (5, .int (5 : Int32)), (4, .int (-4 : Int32)), (3, .int (nI ((s_X5_standing n la kd nd (0 : Int32)).toNatClampNeg))), (0, .ref h), (1, .int must), (2, .int no)]) (congrArg (fun (z : Int32) => ([(6, .int z), (5, .int (5 : Int32)), (4, .int (-4 : Int32)), (3, .int (nI ((s_X5_standing n la kd nd (0 : Int32)).toNatClampNeg))), (0, .ref h), (1, .int must), (2, .int no)] : List (Nat × Value))) rfl) ?_
  exact L12 ((s_X5_standing n la kd nd (0 : Int32)).toNatClampNeg + 1) 0 (-4 : Int32) (5 : Int32) (by omega) hv

def s_X4_play_step_L63 (pe : Nat) (n : Nat) (la : Int32) (kd : Nat → Int32) (dy : Nat → Int32) (nd : Nat → Int32) (co : Nat → Int32) (wo : Nat → Int32) (day : Nat) (righted : Int32) (opn : Int32) (P : Int32 → Int32) : Nat → Nat → Int32 → Int32 → Int32 × Int32
  | 0, _, most_6, fin_7 => (most_6, fin_7)
  | k4 + 1, d5, most_6, fin_7 => (if s_X6_isIn (opn &&& (s_X5_ofDay n dy (nI day))) (nI d5) = (0 : Int32) then (s_X4_play_step_L63 pe n la kd dy nd co wo day righted opn P k4 (d5 + 1) most_6 fin_7) else (if most_6 < s_X5_valueBy pe n la kd nd co wo (day % pe) (P (righted ||| ((1 : Int32) <<< ((nI d5) &&& 31)))) then (s_X4_play_step_L63 pe n la kd dy nd co wo day righted opn P k4 (d5 + 1) (s_X5_valueBy pe n la kd nd co wo (day % pe) (P (righted ||| ((1 : Int32) <<< ((nI d5) &&& 31))))) (P (righted ||| ((1 : Int32) <<< ((nI d5) &&& 31))))) else (s_X4_play_step_L63 pe n la kd dy nd co wo day righted opn P k4 (d5 + 1) most_6 fin_7)))
def s_X4_play_step (pe : Nat) (n : Nat) (la : Int32) (kd : Nat → Int32) (dy : Nat → Int32) (nd : Nat → Int32) (co : Nat → Int32) (wo : Nat → Int32) (day : Nat) (righted : Int32) (opn : Int32) (idle : Int32) (P : Int32 → Int32) : Int32 := (if nI (day % pe) = idle then P righted else (if opn &&& (s_X5_ofDay n dy (nI day)) = (0 : Int32) then P righted else ((s_X4_play_step_L63 pe n la kd dy nd co wo day righted opn P n 0 (s_X5_valueBy pe n la kd nd co wo (day % pe) (P righted)) (P righted)).2)))
set_option maxHeartbeats 8000000 in
set_option maxRecDepth 100000 in
theorem c_X4_play_step (l : Launch) (D : va_G) (h : Nat) (a1 : Nat) (a2 : Nat) (a3 : Nat) (a4 : Nat) (a5 : Nat) (a6 : Nat) (pe : Nat) (n : Nat) (td : Int32) (ys : Int32) (la : Int32) (ri : Int32) (kd : Nat → Int32) (dy : Nat → Int32) (nd : Nat → Int32) (co : Nat → Int32) (od : Nat → Int32) (wo : Nat → Int32) (day : Nat) (righted : Int32) (opn : Int32) (idle : Int32) (hn : n ≤ 12) (hp : 1 ≤ pe ∧ pe ≤ 4) (hday : day < 12) (fr lo : Nat) (hfr : 20 ≤ fr) (hlo : 500 ≤ lo) (P : Int32 → Int32) (hrec : ∀ r : Int32, ct l yX4_play cX4_play 12 (some .int) fr lo D [.ref h, .int (dm day), .int r, .int opn, .int idle] (wY D h a1 a2 a3 a4 a5 a6 pe n td ys la ri kd dy nd co od wo) (wY D h a1 a2 a3 a4 a5 a6 pe n td ys la ri kd dy nd co od wo) (fun _ => False) (some (Value.int (P r)))) : ct l yX4_play cX4_play 12 (some .int) (fr + 1) (lo + 31) D [.ref h, .int (nI day), .int righted, .int opn, .int idle] (wY D h a1 a2 a3 a4 a5 a6 pe n td ys la ri kd dy nd co od wo) (wY D h a1 a2 a3 a4 a5 a6 pe n td ys la ri kd dy nd co od wo) (fun _ => False) (some (Value.int (s_X4_play_step pe n la kd dy nd co wo day righted opn idle P))) := by
  obtain ⟨V, hv⟩ : ∃ V, s_X4_play_step pe n la kd dy nd co wo day righted opn idle P = V := ⟨_, rfl⟩
  rw [hv]
  refine ct_intro (own := RX4) (lv := [(0, .ref h), (1, .int (nI day)), (2, .int righted), (3, .int opn), (4, .int idle)]) (by decide) rfl (Nat.le_of_ble_eq_true rfl) rfl ?_
  intro p_ e_ s_ m_ below_ meth_ c_ C
  have hv : (if nI (day % pe) = idle then P righted else (if opn &&& (s_X5_ofDay n dy (nI day)) = (0 : Int32) then P righted else ((s_X4_play_step_L63 pe n la kd dy nd co wo day righted opn P n 0 (s_X5_valueBy pe n la kd nd co wo (day % pe) (P righted)) (P righted)).2))) = V := hv
  refine r_iln C dX4_play_0 rfl 1 rfl ?_
  refine r_ifge C (tgt := 6) dX4_play_1 (by decide) (fun c1 => ?_) (fun c1 => ?_)
  · skip
    refine r_aln C dX4_play_6 rfl 0 rfl ?_
    refine r_iln C dX4_play_7 rfl 1 rfl ?_
    refine r_ic C (v := (1 : Int32)) dX4_play_8 (by decide) ?_
    refine r_isub C dX4_play_9 ?_
    refine r_iln C dX4_play_10 rfl 2 rfl ?_
    refine r_iln C dX4_play_11 rfl 3 rfl ?_
    refine r_il C dX4_play_12 4 rfl ?_
    refine r_stk (st2 := [.int idle, .int opn, .int righted, .int (dm day), .ref h]) (congrArg (fun (z : Int32) => ([.int idle, .int opn, .int righted, .int z, .ref h] : List Value)) (dm_sub day)) ?_
    refine aft_rd (st' := [.int (P righted)]) (run_S (rest := []) C (hrec righted) ok_X4_play ws_X4_play wm_X4_55 [0, 1, 2, 3, 4, 5, 6] rfl ⟨by show _ ≤ fr + 1; omega, by show _ ≤ lo + 31; omega⟩ rfl rfl (Nat.le_of_ble_eq_true rfl) dX4_play_14) rfl ?_
    refine r_is C (lv' := [(5, .int (P righted)), (0, .ref h), (1, .int (nI day)), (2, .int righted), (3, .int opn), (4, .int idle)]) dX4_play_17 (by decide) rfl ?_
    refine r_aln C dX4_play_19 rfl 1 rfl ?_
    refine r_iln C dX4_play_20 rfl 2 rfl ?_
    refine aft_rd (st' := [.int (s_X4_chooser pe (nI day))]) (run_S (rest := []) C (c_X4_chooser l D h a1 a2 a3 a4 a5 a6 pe n td ys la ri kd dy nd co od wo (nI day) (by omega)) ok_X4_chooser ws_X4_chooser wm_X4_59 [0, 1, 2, 3, 4, 5, 6] rfl ⟨by show _ ≤ fr + 1; omega, by show _ ≤ lo + 31; omega⟩ rfl rfl (Nat.le_of_ble_eq_true rfl) dX4_play_21) rfl ?_
    refine r_top (pk_rem (a := day) (d := pe) (by omega) (by omega) (by omega)) ?_
    have hch : day % pe < pe := Nat.mod_lt _ (by omega)
    refine r_is C (lv' := [(6, .int (nI (day % pe))), (5, .int (P righted)), (0, .ref h), (1, .int (nI day)), (2, .int righted), (3, .int opn), (4, .int idle)]) dX4_play_24 (by decide) rfl ?_
    refine r_iln C dX4_play_26 rfl 5 rfl ?_
    refine r_aln C dX4_play_27 rfl 2 rfl ?_
    refine r_iln C dX4_play_28 rfl 3 rfl ?_
    refine aft_rd (st' := [.int (s_X5_ofDay n dy (nI day)), .int opn]) (run_VN (rest := [.int opn]) C (c_X5_ofDay l D h a1 a2 a3 a4 a5 a6 pe n td ys la ri kd dy nd co od wo (nI day) (by omega)) ok_X5_ofDay wn_X5_ofDay wl_X5_ofDay wm_X4_63 [0, 1, 2, 3, 4, 5, 6] 0 rfl rfl rfl ⟨by show _ ≤ fr + 1; omega, by show _ ≤ lo + 31; omega⟩ rfl rfl (Nat.le_of_ble_eq_true rfl) dX4_play_29) rfl ?_
    refine r_iand C dX4_play_32 ?_
    refine r_is C (lv' := [(7, .int (opn &&& (s_X5_ofDay n dy (nI day)))), (6, .int (nI (day % pe))), (5, .int (P righted)), (0, .ref h), (1, .int (nI day)), (2, .int righted), (3, .int opn), (4, .int idle)]) dX4_play_33 (by decide) rfl ?_
    refine r_il C dX4_play_35 1 rfl ?_
    refine r_il C dX4_play_37 7 rfl ?_
    refine r_iceq C (tgt := 47) dX4_play_39 (by decide) (fun c2 => ?_) (fun c2 => ?_)
    · rw [if_pos c2] at hv
      refine r_il C dX4_play_47 2 rfl ?_
      exact r_iret rfl C (congrArg (fun z => some (Value.int z)) hv) rfl dX4_play_49
    · rw [if_neg c2] at hv
      refine r_il C dX4_play_42 0 rfl ?_
      refine r_ifne C (tgt := 50) dX4_play_44 (by decide) (fun c3 => ?_) (fun c3 => ?_)
      · rw [if_neg c3] at hv
        refine r_aln C dX4_play_50 rfl 3 rfl ?_
        refine r_il C dX4_play_51 1 rfl ?_
        refine r_il C dX4_play_53 2 rfl ?_
        refine aft_rd (st' := [.int (s_X5_valueBy pe n la kd nd co wo (day % pe) (P righted))]) (run_VN (rest := []) C (c_X5_valueBy l D h a1 a2 a3 a4 a5 a6 pe n td ys la ri kd dy nd co od wo (day % pe) (P righted) (by omega) (by omega) (by omega)) ok_X5_valueBy wn_X5_valueBy wl_X5_valueBy wm_X4_51 [0, 1, 2, 3, 4, 5, 6] 0 rfl rfl rfl ⟨by show _ ≤ fr + 1; omega, by show _ ≤ lo + 31; omega⟩ rfl rfl (Nat.le_of_ble_eq_true rfl) dX4_play_55) rfl ?_
        refine r_is C (lv' := [(8, .int (s_X5_valueBy pe n la kd nd co wo (day % pe) (P righted))), (7, .int (opn &&& (s_X5_ofDay n dy (nI day)))), (6, .int (nI (day % pe))), (5, .int (P righted)), (0, .ref h), (1, .int (nI day)), (2, .int righted), (3, .int opn), (4, .int idle)]) dX4_play_58 (by decide) rfl ?_
        refine r_ic C (v := (0 : Int32)) dX4_play_60 (by decide) ?_
        refine r_is C (lv' := [(9, .int (0 : Int32)), (8, .int (s_X5_valueBy pe n la kd nd co wo (day % pe) (P righted))), (7, .int (opn &&& (s_X5_ofDay n dy (nI day)))), (6, .int (nI (day % pe))), (5, .int (P righted)), (0, .ref h), (1, .int (nI day)), (2, .int righted), (3, .int opn), (4, .int idle)]) dX4_play_61 (by decide) rfl ?_
        have L13 : ∀ (k4 : Nat) (d5 : Nat) (most_6 : Int32) (fin_7 : Int32), (d5 + k4 = n) → ((s_X4_play_step_L63 pe n la kd dy nd co wo day righted opn P k4 d5 most_6 fin_7).2) = V → GM p_ l e_ s_ m_ below_ meth_ c_ D (fr + 1) (lo + 31) 12 [.ref h, .int (nI day), .int righted, .int opn, .int idle] (wY D h a1 a2 a3 a4 a5 a6 pe n td ys la ri kd dy nd co od wo) (fun _ => False) (some (Value.int V)) (wY D h a1 a2 a3 a4 a5 a6 pe n td ys la ri kd dy nd co od wo) 63 [(9, .int (nI d5)), (8, .int most_6), (7, .int (opn &&& (s_X5_ofDay n dy (nI day)))), (6, .int (nI (day % pe))), (5, .int fin_7), (0, .ref h), (1, .int (nI day)), (2, .int righted), (3, .int opn), (4, .int idle)] [] := by
          intro k4
          induction k4 with
          | zero =>
            intro d5 most_6 fin_7 hk hv
            have hv : fin_7 = V := hv
            refine r_il C dX4_play_63 0 rfl ?_
            refine r_aln C dX4_play_65 rfl 5 rfl ?_
            refine gf_X4_37 C 0 rfl rfl dX4_play_66 ?_
            refine r_icge C (tgt := 131) dX4_play_69 (by decide) (fun c8 => ?_) (fun c8 => ?_)
            · skip
              refine r_il C dX4_play_131 4 rfl ?_
              exact r_iret rfl C (congrArg (fun z => some (Value.int z)) hv) rfl dX4_play_133
            · exact absurd c8 (fun z => absurd ((nv_lt (a := d5) (b := n) rfl rfl (by omega) (by omega)).mp z) (by omega))
          | succ k4 ih9 =>
            intro d5 most_6 fin_7 hk hv
            have hv : ((if s_X6_isIn (opn &&& (s_X5_ofDay n dy (nI day))) (nI d5) = (0 : Int32) then (s_X4_play_step_L63 pe n la kd dy nd co wo day righted opn P k4 (d5 + 1) most_6 fin_7) else (if most_6 < s_X5_valueBy pe n la kd nd co wo (day % pe) (P (righted ||| ((1 : Int32) <<< ((nI d5) &&& 31)))) then (s_X4_play_step_L63 pe n la kd dy nd co wo day righted opn P k4 (d5 + 1) (s_X5_valueBy pe n la kd nd co wo (day % pe) (P (righted ||| ((1 : Int32) <<< ((nI d5) &&& 31))))) (P (righted ||| ((1 : Int32) <<< ((nI d5) &&& 31))))) else (s_X4_play_step_L63 pe n la kd dy nd co wo day righted opn P k4 (d5 + 1) most_6 fin_7))).2) = V := hv
            refine r_il C dX4_play_63 0 rfl ?_
            refine r_aln C dX4_play_65 rfl 5 rfl ?_
            refine gf_X4_37 C 0 rfl rfl dX4_play_66 ?_
            refine r_icge C (tgt := 131) dX4_play_69 (by decide) (fun c10 => ?_) (fun c10 => ?_)
            · exact absurd ((nv_lt (a := d5) (b := n) rfl rfl (by omega) (by omega)).mpr (by omega)) c10
            · skip
              refine r_il C dX4_play_72 2 rfl ?_
              refine r_il C dX4_play_74 0 rfl ?_
              refine aft_rd (st' := [.int (s_X6_isIn (opn &&& (s_X5_ofDay n dy (nI day))) (nI d5))]) (run_SN (rest := []) C (c_X6_isIn l D (opn &&& (s_X5_ofDay n dy (nI day))) (nI d5) ) ok_X6_isIn ws_X6_isIn wm_X4_41 [] rfl ⟨by show _ ≤ fr + 1; omega, by show _ ≤ lo + 31; omega⟩ rfl rfl (Nat.le_of_ble_eq_true rfl) dX4_play_76) rfl ?_
              refine r_ifeq C (tgt := 125) dX4_play_79 (by decide) (fun c11 => ?_) (fun c11 => ?_)
              · rw [if_pos c11] at hv
                refine r_inc C (v := nI (d5 + 1)) (lv' := [(9, .int (nI (d5 + 1))), (8, .int most_6), (7, .int (opn &&& (s_X5_ofDay n dy (nI day)))), (6, .int (nI (day % pe))), (5, .int fin_7), (0, .ref h), (1, .int (nI day)), (2, .int righted), (3, .int opn), (4, .int idle)]) dX4_play_125 0 rfl (inc_nI d5) (by decide) rfl ?_
                refine r_goto C (tgt := 63) dX4_play_128 (by decide) ?_
                exact ih9 (d5 + 1) most_6 fin_7 (by omega) hv
              · rw [if_neg c11] at hv
                refine r_aln C dX4_play_82 rfl 5 rfl ?_
                refine r_iln C dX4_play_83 rfl 6 rfl ?_
                refine r_ic C (v := (1 : Int32)) dX4_play_84 (by decide) ?_
                refine r_isub C dX4_play_85 ?_
                refine r_iln C dX4_play_86 rfl 7 rfl ?_
                refine r_ic C (v := (1 : Int32)) dX4_play_87 (by decide) ?_
                refine r_il C dX4_play_88 0 rfl ?_
                refine r_ishl C dX4_play_90 ?_
                refine r_ior C dX4_play_91 ?_
                refine r_iln C dX4_play_92 rfl 8 rfl ?_
                refine r_il C dX4_play_93 9 rfl ?_
                refine r_stk (st2 := [.int idle, .int opn, .int (righted ||| ((1 : Int32) <<< ((nI d5) &&& 31))), .int (dm day), .ref h]) (congrArg (fun (z : Int32) => ([.int idle, .int opn, .int (righted ||| ((1 : Int32) <<< ((nI d5) &&& 31))), .int z, .ref h] : List Value)) (dm_sub day)) ?_
                refine aft_rd (st' := [.int (P (righted ||| ((1 : Int32) <<< ((nI d5) &&& 31))))]) (run_S (rest := []) C (hrec (righted ||| ((1 : Int32) <<< ((nI d5) &&& 31)))) ok_X4_play ws_X4_play wm_X4_55 [0, 1, 2, 3, 4, 5, 6] rfl ⟨by show _ ≤ fr + 1; omega, by show _ ≤ lo + 31; omega⟩ rfl rfl (Nat.le_of_ble_eq_true rfl) dX4_play_95) rfl ?_
                refine r_is C (lv' := [(10, .int (P (righted ||| ((1 : Int32) <<< ((nI d5) &&& 31))))), (9, .int (nI d5)), (8, .int most_6), (7, .int (opn &&& (s_X5_ofDay n dy (nI day)))), (6, .int (nI (day % pe))), (5, .int fin_7), (0, .ref h), (1, .int (nI day)), (2, .int righted), (3, .int opn), (4, .int idle)]) dX4_play_98 (by decide) rfl ?_
                refine r_aln C dX4_play_100 rfl 6 rfl ?_
                refine r_il C dX4_play_101 4 rfl ?_
                refine r_il C dX4_play_103 0 rfl ?_
                refine aft_rd (st' := [.int (s_X5_valueBy pe n la kd nd co wo (day % pe) (P (righted ||| ((1 : Int32) <<< ((nI d5) &&& 31)))))]) (run_VN (rest := []) C (c_X5_valueBy l D h a1 a2 a3 a4 a5 a6 pe n td ys la ri kd dy nd co od wo (day % pe) (P (righted ||| ((1 : Int32) <<< ((nI d5) &&& 31)))) (by omega) (by omega) (by omega)) ok_X5_valueBy wn_X5_valueBy wl_X5_valueBy wm_X4_51 [0, 1, 2, 3, 4, 5, 6] 0 rfl rfl rfl ⟨by show _ ≤ fr + 1; omega, by show _ ≤ lo + 31; omega⟩ rfl rfl (Nat.le_of_ble_eq_true rfl) dX4_play_105) rfl ?_
                refine r_is C (lv' := [(11, .int (s_X5_valueBy pe n la kd nd co wo (day % pe) (P (righted ||| ((1 : Int32) <<< ((nI d5) &&& 31)))))), (10, .int (P (righted ||| ((1 : Int32) <<< ((nI d5) &&& 31))))), (9, .int (nI d5)), (8, .int most_6), (7, .int (opn &&& (s_X5_ofDay n dy (nI day)))), (6, .int (nI (day % pe))), (5, .int fin_7), (0, .ref h), (1, .int (nI day)), (2, .int righted), (3, .int opn), (4, .int idle)]) dX4_play_108 (by decide) rfl ?_
                refine r_il C dX4_play_110 0 rfl ?_
                refine r_il C dX4_play_112 3 rfl ?_
                refine r_icle C (tgt := 125) dX4_play_114 (by decide) (fun c12 => ?_) (fun c12 => ?_)
                · rw [if_neg c12] at hv
                  refine r_inc C (v := nI (d5 + 1)) (lv' := [(9, .int (nI (d5 + 1))), (11, .int (s_X5_valueBy pe n la kd nd co wo (day % pe) (P (righted ||| ((1 : Int32) <<< ((nI d5) &&& 31)))))), (10, .int (P (righted ||| ((1 : Int32) <<< ((nI d5) &&& 31))))), (8, .int most_6), (7, .int (opn &&& (s_X5_ofDay n dy (nI day)))), (6, .int (nI (day % pe))), (5, .int fin_7), (0, .ref h), (1, .int (nI day)), (2, .int righted), (3, .int opn), (4, .int idle)]) dX4_play_125 2 rfl (inc_nI d5) (by decide) rfl ?_
                  refine r_goto C (tgt := 63) dX4_play_128 (by decide) ?_
                  refine r_lv [0, 3, 4, 5, 6, 7, 8, 9, 10, 11] rfl ?_
                  exact ih9 (d5 + 1) most_6 fin_7 (by omega) hv
                · rw [if_pos c12] at hv
                  refine r_il C dX4_play_117 0 rfl ?_
                  refine r_is C (lv' := [(8, .int (s_X5_valueBy pe n la kd nd co wo (day % pe) (P (righted ||| ((1 : Int32) <<< ((nI d5) &&& 31)))))), (11, .int (s_X5_valueBy pe n la kd nd co wo (day % pe) (P (righted ||| ((1 : Int32) <<< ((nI d5) &&& 31)))))), (10, .int (P (righted ||| ((1 : Int32) <<< ((nI d5) &&& 31))))), (9, .int (nI d5)), (7, .int (opn &&& (s_X5_ofDay n dy (nI day)))), (6, .int (nI (day % pe))), (5, .int fin_7), (0, .ref h), (1, .int (nI day)), (2, .int righted), (3, .int opn), (4, .int idle)]) dX4_play_119 (by decide) rfl ?_
                  refine r_il C dX4_play_121 2 rfl ?_
                  refine r_is C (lv' := [(5, .int (P (righted ||| ((1 : Int32) <<< ((nI d5) &&& 31))))), (8, .int (s_X5_valueBy pe n la kd nd co wo (day % pe) (P (righted ||| ((1 : Int32) <<< ((nI d5) &&& 31)))))), (11, .int (s_X5_valueBy pe n la kd nd co wo (day % pe) (P (righted ||| ((1 : Int32) <<< ((nI d5) &&& 31)))))), (10, .int (P (righted ||| ((1 : Int32) <<< ((nI d5) &&& 31))))), (9, .int (nI d5)), (7, .int (opn &&& (s_X5_ofDay n dy (nI day)))), (6, .int (nI (day % pe))), (0, .ref h), (1, .int (nI day)), (2, .int righted), (3, .int opn), (4, .int idle)]) dX4_play_123 (by decide) rfl ?_
                  refine r_inc C (v := nI (d5 + 1)) (lv' := [(9, .int (nI (d5 + 1))), (5, .int (P (righted ||| ((1 : Int32) <<< ((nI d5) &&& 31))))), (8, .int (s_X5_valueBy pe n la kd nd co wo (day % pe) (P (righted ||| ((1 : Int32) <<< ((nI d5) &&& 31)))))), (11, .int (s_X5_valueBy pe n la kd nd co wo (day % pe) (P (righted ||| ((1 : Int32) <<< ((nI d5) &&& 31)))))), (10, .int (P (righted ||| ((1 : Int32) <<< ((nI d5) &&& 31))))), (7, .int (opn &&& (s_X5_ofDay n dy (nI day)))), (6, .int (nI (day % pe))), (0, .ref h), (1, .int (nI day)), (2, .int righted), (3, .int opn), (4, .int idle)]) dX4_play_125 4 rfl (inc_nI d5) (by decide) rfl ?_
                  refine r_goto C (tgt := 63) dX4_play_128 (by decide) ?_
                  refine r_lv [0, 2, 5, 6, 1, 7, 8, 9, 10, 11] rfl ?_
                  exact ih9 (d5 + 1) (s_X5_valueBy pe n la kd nd co wo (day % pe) (P (righted ||| ((1 : Int32) <<< ((nI d5) &&& 31))))) (P (righted ||| ((1 : Int32) <<< ((nI d5) &&& 31)))) (by omega) hv
        refine r_lve (lv2 := [(9, .int (nI 0)), (8, .int (s_X5_valueBy pe n la kd nd co wo (day % pe) (P righted))), (7, .int (opn &&& (s_X5_ofDay n dy (nI day)))), (6, .int (nI (day % pe))), (5, .int (P righted)), (0, .ref h), (1, .int (nI day)), (2, .int righted), (3, .int opn), (4, .int idle)]) (congrArg (fun (z : Int32) => ([(9, .int z), (8, .int (s_X5_valueBy pe n la kd nd co wo (day % pe) (P righted))), (7, .int (opn &&& (s_X5_ofDay n dy (nI day)))), (6, .int (nI (day % pe))), (5, .int (P righted)), (0, .ref h), (1, .int (nI day)), (2, .int righted), (3, .int opn), (4, .int idle)] : List (Nat × Value))) rfl) ?_
        exact L13 n 0 (s_X5_valueBy pe n la kd nd co wo (day % pe) (P righted)) (P righted) (by omega) hv
      · rw [if_pos c3] at hv
        refine r_il C dX4_play_47 2 rfl ?_
        exact r_iret rfl C (congrArg (fun z => some (Value.int z)) hv) rfl dX4_play_49
  · exact absurd c1 (fun z => absurd ((nv_lt (a := day) (b := 0) rfl rfl (by omega) (by omega)).mp z) (by omega))

def s_X4_play_base (righted : Int32) : Int32 := righted
set_option maxHeartbeats 8000000 in
set_option maxRecDepth 100000 in
theorem c_X4_play_base (l : Launch) (D : va_G) (h : Nat) (a1 : Nat) (a2 : Nat) (a3 : Nat) (a4 : Nat) (a5 : Nat) (a6 : Nat) (pe : Nat) (n : Nat) (td : Int32) (ys : Int32) (la : Int32) (ri : Int32) (kd : Nat → Int32) (dy : Nat → Int32) (nd : Nat → Int32) (co : Nat → Int32) (od : Nat → Int32) (wo : Nat → Int32) (righted : Int32) (opn : Int32) (idle : Int32) : ct l yX4_play cX4_play 12 (some .int) 20 500 D [.ref h, .int (-1 : Int32), .int righted, .int opn, .int idle] (wY D h a1 a2 a3 a4 a5 a6 pe n td ys la ri kd dy nd co od wo) (wY D h a1 a2 a3 a4 a5 a6 pe n td ys la ri kd dy nd co od wo) (fun _ => False) (some (Value.int (s_X4_play_base righted))) := by
  obtain ⟨V, hv⟩ : ∃ V, s_X4_play_base righted = V := ⟨_, rfl⟩
  rw [hv]
  refine ct_intro (own := RX4) (lv := [(0, .ref h), (1, .int (-1 : Int32)), (2, .int righted), (3, .int opn), (4, .int idle)]) (by decide) rfl (Nat.le_of_ble_eq_true rfl) rfl ?_
  intro p_ e_ s_ m_ below_ meth_ c_ C
  have hv : righted = V := hv
  refine r_iln C dX4_play_0 rfl 1 rfl ?_
  refine r_ifge C (tgt := 6) dX4_play_1 (by decide) (fun c1 => ?_) (fun c1 => ?_)
  · exact absurd (by decide) c1
  · skip
    refine r_iln C dX4_play_4 rfl 2 rfl ?_
    exact r_iret rfl C (congrArg (fun z => some (Value.int z)) hv) rfl dX4_play_5

def s_X4_play (pe n : Nat) (la : Int32) (kd dy nd co wo : Nat → Int32) (opn idle : Int32) : Nat → Int32 → Int32
  | 0, r => r
  | j + 1, r => s_X4_play_step pe n la kd dy nd co wo j r opn idle (fun q => s_X4_play pe n la kd dy nd co wo opn idle j q)
theorem c_X4_play (l : Launch) (D : va_G) (h a1 a2 a3 a4 a5 a6 : Nat) (pe n : Nat) (td ys la ri : Int32) (kd dy nd co od wo : Nat → Int32) (hn : n ≤ 12) (hp : 1 ≤ pe ∧ pe ≤ 4) (opn idle : Int32) : ∀ (j : Nat), j ≤ 12 → ∀ r : Int32, ct l yX4_play cX4_play 12 (some .int) (20 + j) (500 + 31 * j) D [.ref h, .int (dm j), .int r, .int opn, .int idle] (wY D h a1 a2 a3 a4 a5 a6 pe n td ys la ri kd dy nd co od wo) (wY D h a1 a2 a3 a4 a5 a6 pe n td ys la ri kd dy nd co od wo) (fun _ => False) (some (Value.int (s_X4_play pe n la kd dy nd co wo opn idle j r))) := by
  intro j
  induction j with
  | zero => intro _ r; exact c_X4_play_base l D h a1 a2 a3 a4 a5 a6 pe n td ys la ri kd dy nd co od wo r opn idle
  | succ j ih => intro hj r; exact c_X4_play_step l D h a1 a2 a3 a4 a5 a6 pe n td ys la ri kd dy nd co od wo j r opn idle hn hp (by omega) (20 + j) (500 + 31 * j) (by omega) (by omega) (fun q => s_X4_play pe n la kd dy nd co wo opn idle j q) (ih (by omega))
def s_X4_selfish (pe : Nat) (n : Nat) (la : Int32) (kd : Nat → Int32) (dy : Nat → Int32) (nd : Nat → Int32) (co : Nat → Int32) (wo : Nat → Int32) (idle : Int32) : Int32 := s_X4_play pe n la kd dy nd co wo (s_X5_standing n la kd nd (0 : Int32)) idle 12 (0 : Int32)
set_option maxHeartbeats 8000000 in
set_option maxRecDepth 100000 in
theorem c_X4_selfish (l : Launch) (D : va_G) (h : Nat) (a1 : Nat) (a2 : Nat) (a3 : Nat) (a4 : Nat) (a5 : Nat) (a6 : Nat) (pe : Nat) (n : Nat) (td : Int32) (ys : Int32) (la : Int32) (ri : Int32) (kd : Nat → Int32) (dy : Nat → Int32) (nd : Nat → Int32) (co : Nat → Int32) (od : Nat → Int32) (wo : Nat → Int32) (idle : Int32) (hn : n ≤ 12) (hp : 1 ≤ pe ∧ pe ≤ 4) : ct l yX4_selfish cX4_selfish 2 (some .int) 33 903 D [.ref h, .int idle] (wY D h a1 a2 a3 a4 a5 a6 pe n td ys la ri kd dy nd co od wo) (wY D h a1 a2 a3 a4 a5 a6 pe n td ys la ri kd dy nd co od wo) (fun _ => False) (some (Value.int (s_X4_selfish pe n la kd dy nd co wo idle))) := by
  obtain ⟨V, hv⟩ : ∃ V, s_X4_selfish pe n la kd dy nd co wo idle = V := ⟨_, rfl⟩
  rw [hv]
  refine ct_intro (own := RX4) (lv := [(0, .ref h), (1, .int idle)]) (by decide) rfl (Nat.le_of_ble_eq_true rfl) rfl ?_
  intro p_ e_ s_ m_ below_ meth_ c_ C
  have hv : s_X4_play pe n la kd dy nd co wo (s_X5_standing n la kd nd (0 : Int32)) idle 12 (0 : Int32) = V := hv
  refine r_aln C dX4_selfish_0 rfl 0 rfl ?_
  refine r_bp C (v := (11 : Int32)) dX4_selfish_1 (by decide) ?_
  refine r_ic C (v := (0 : Int32)) dX4_selfish_3 (by decide) ?_
  refine r_aln C dX4_selfish_4 rfl 0 rfl ?_
  refine r_ic C (v := (0 : Int32)) dX4_selfish_5 (by decide) ?_
  refine aft_rd (st' := [.int (s_X5_standing n la kd nd (0 : Int32)), .int (0 : Int32), .int (11 : Int32), .ref h]) (run_VN (rest := [.int (0 : Int32), .int (11 : Int32), .ref h]) C (c_X5_standing l D h a1 a2 a3 a4 a5 a6 pe n td ys la ri kd dy nd co od wo (0 : Int32) (by omega)) ok_X5_standing wn_X5_standing wl_X5_standing wm_X4_9 [0, 1, 2, 3, 4, 5, 6] 0 rfl rfl rfl ⟨Nat.le_of_ble_eq_true rfl, Nat.le_of_ble_eq_true rfl⟩ rfl rfl (Nat.le_of_ble_eq_true rfl) dX4_selfish_6) rfl ?_
  refine r_iln C dX4_selfish_9 rfl 1 rfl ?_
  refine aft_rd (st' := [.int (s_X4_play pe n la kd dy nd co wo (s_X5_standing n la kd nd (0 : Int32)) idle 12 (0 : Int32))]) (run_S (rest := []) C (c_X4_play l D h a1 a2 a3 a4 a5 a6 pe n td ys la ri kd dy nd co od wo hn hp (s_X5_standing n la kd nd (0 : Int32)) idle 12 (by omega) (0 : Int32)) ok_X4_play ws_X4_play wm_X4_55 [0, 1, 2, 3, 4, 5, 6] rfl ⟨Nat.le_of_ble_eq_true rfl, Nat.le_of_ble_eq_true rfl⟩ rfl rfl (Nat.le_of_ble_eq_true rfl) dX4_selfish_10) rfl ?_
  exact r_iret rfl C (congrArg (fun z => some (Value.int z)) hv) rfl dX4_selfish_13

def s_X1_mean_step (pe : Nat) (la : Int32) (kd : Nat → Int32) (nd : Nat → Int32) (od : Nat → Int32) (wo : Nat → Int32) (deed : Nat) (stood : Int32) (sum : Int32) (P : Int32 → Int32 → Int64) : Int64 := (if s_X5_wouldStand la kd nd deed stood = (0 : Int32) then (((0 : Int32).toInt64) * (0 : Int64)) + ((((4 : Int32) - (0 : Int32)).toInt64) * (P stood sum)) else (if (0 : Int32) < od deed then (if od deed < (4 : Int32) then (((od deed).toInt64) * (P (stood ||| ((1 : Int32) <<< ((nI deed) &&& 31))) (sum + (s_X5_worthToAll pe wo deed)))) + ((((4 : Int32) - (od deed)).toInt64) * (P stood sum)) else (((od deed).toInt64) * (P (stood ||| ((1 : Int32) <<< ((nI deed) &&& 31))) (sum + (s_X5_worthToAll pe wo deed)))) + ((((4 : Int32) - (od deed)).toInt64) * (0 : Int64))) else (if od deed < (4 : Int32) then (((od deed).toInt64) * (0 : Int64)) + ((((4 : Int32) - (od deed)).toInt64) * (P stood sum)) else (((od deed).toInt64) * (0 : Int64)) + ((((4 : Int32) - (od deed)).toInt64) * (0 : Int64)))))
set_option maxHeartbeats 8000000 in
set_option maxRecDepth 100000 in
theorem c_X1_mean_step (l : Launch) (D : va_G) (h : Nat) (a1 : Nat) (a2 : Nat) (a3 : Nat) (a4 : Nat) (a5 : Nat) (a6 : Nat) (pe : Nat) (n : Nat) (td : Int32) (ys : Int32) (la : Int32) (ri : Int32) (kd : Nat → Int32) (dy : Nat → Int32) (nd : Nat → Int32) (co : Nat → Int32) (od : Nat → Int32) (wo : Nat → Int32) (deed : Nat) (stood : Int32) (sum : Int32) (hn : n ≤ 12) (hp : 1 ≤ pe ∧ pe ≤ 4) (hd : deed < n) (fr lo : Nat) (hfr : 20 ≤ fr) (hlo : 500 ≤ lo) (P : Int32 → Int32 → Int64) (hrec : ∀ st su : Int32, ct l yX1_mean cX1_mean 9 (some .long) fr lo D [.ref h, .int (nI (deed + 1)), .int st, .int su] (wY D h a1 a2 a3 a4 a5 a6 pe n td ys la ri kd dy nd co od wo) (wY D h a1 a2 a3 a4 a5 a6 pe n td ys la ri kd dy nd co od wo) (fun _ => False) (some (Value.long (P st su)))) : ct l yX1_mean cX1_mean 9 (some .long) (fr + 1) (lo + 28) D [.ref h, .int (nI deed), .int stood, .int sum] (wY D h a1 a2 a3 a4 a5 a6 pe n td ys la ri kd dy nd co od wo) (wY D h a1 a2 a3 a4 a5 a6 pe n td ys la ri kd dy nd co od wo) (fun _ => False) (some (Value.long (s_X1_mean_step pe la kd nd od wo deed stood sum P))) := by
  obtain ⟨V, hv⟩ : ∃ V, s_X1_mean_step pe la kd nd od wo deed stood sum P = V := ⟨_, rfl⟩
  rw [hv]
  refine ct_intro (own := RX1) (lv := [(0, .ref h), (1, .int (nI deed)), (2, .int stood), (3, .int sum)]) (by decide) rfl (Nat.le_of_ble_eq_true rfl) rfl ?_
  intro p_ e_ s_ m_ below_ meth_ c_ C
  have hv : (if s_X5_wouldStand la kd nd deed stood = (0 : Int32) then (((0 : Int32).toInt64) * (0 : Int64)) + ((((4 : Int32) - (0 : Int32)).toInt64) * (P stood sum)) else (if (0 : Int32) < od deed then (if od deed < (4 : Int32) then (((od deed).toInt64) * (P (stood ||| ((1 : Int32) <<< ((nI deed) &&& 31))) (sum + (s_X5_worthToAll pe wo deed)))) + ((((4 : Int32) - (od deed)).toInt64) * (P stood sum)) else (((od deed).toInt64) * (P (stood ||| ((1 : Int32) <<< ((nI deed) &&& 31))) (sum + (s_X5_worthToAll pe wo deed)))) + ((((4 : Int32) - (od deed)).toInt64) * (0 : Int64))) else (if od deed < (4 : Int32) then (((od deed).toInt64) * (0 : Int64)) + ((((4 : Int32) - (od deed)).toInt64) * (P stood sum)) else (((od deed).toInt64) * (0 : Int64)) + ((((4 : Int32) - (od deed)).toInt64) * (0 : Int64))))) = V := hv
  refine r_iln C dX1_mean_0 rfl 1 rfl ?_
  refine r_aln C dX1_mean_1 rfl 0 rfl ?_
  refine gf_X1_15 C 0 rfl rfl dX1_mean_2 ?_
  refine r_iclt C (tgt := 11) dX1_mean_5 (by decide) (fun c1 => ?_) (fun c1 => ?_)
  · skip
    refine r_aln C dX1_mean_11 rfl 0 rfl ?_
    refine r_iln C dX1_mean_12 rfl 1 rfl ?_
    refine r_iln C dX1_mean_13 rfl 2 rfl ?_
    refine aft_rd (st' := [.int (s_X5_wouldStand la kd nd deed stood)]) (run_VN (rest := []) C (c_X5_wouldStand l D h a1 a2 a3 a4 a5 a6 pe n td ys la ri kd dy nd co od wo deed stood (by omega)) ok_X5_wouldStand wn_X5_wouldStand wl_X5_wouldStand wm_X1_23 [0, 1, 2, 3, 4, 5, 6] 0 rfl rfl rfl ⟨by show _ ≤ fr + 1; omega, by show _ ≤ lo + 28; omega⟩ rfl rfl (Nat.le_of_ble_eq_true rfl) dX1_mean_14) rfl ?_
    refine r_ifeq C (tgt := 29) dX1_mean_17 (by decide) (fun c2 => ?_) (fun c2 => ?_)
    · rw [if_pos c2] at hv
      refine r_ic C (v := (0 : Int32)) dX1_mean_29 (by decide) ?_
      refine r_is C (lv' := [(4, .int (0 : Int32)), (0, .ref h), (1, .int (nI deed)), (2, .int stood), (3, .int sum)]) dX1_mean_30 (by decide) rfl ?_
      refine r_lc C (v := (0 : Int64)) dX1_mean_32 (by decide) ?_
      refine r_ls C (lv' := [(5, .long (0 : Int64)), (4, .int (0 : Int32)), (0, .ref h), (1, .int (nI deed)), (2, .int stood), (3, .int sum)]) dX1_mean_33 (by decide) rfl ?_
      refine r_il C dX1_mean_35 1 rfl ?_
      refine r_ifle C (tgt := 61) dX1_mean_37 (by decide) (fun c3 => ?_) (fun c3 => ?_)
      · skip
        refine r_lc C (v := (0 : Int64)) dX1_mean_61 (by decide) ?_
        refine r_ls C (lv' := [(7, .long (0 : Int64)), (5, .long (0 : Int64)), (4, .int (0 : Int32)), (0, .ref h), (1, .int (nI deed)), (2, .int stood), (3, .int sum)]) dX1_mean_62 (by decide) rfl ?_
        refine r_il C dX1_mean_64 2 rfl ?_
        refine r_ic C (v := (4 : Int32)) dX1_mean_66 (by decide) ?_
        refine r_icge C (tgt := 81) dX1_mean_67 (by decide) (fun c4 => ?_) (fun c4 => ?_)
        · exact absurd (by decide) c4
        · skip
          refine r_aln C dX1_mean_70 rfl 3 rfl ?_
          refine r_iln C dX1_mean_71 rfl 4 rfl ?_
          refine r_ic C (v := (1 : Int32)) dX1_mean_72 (by decide) ?_
          refine r_iadd C dX1_mean_73 ?_
          refine r_iln C dX1_mean_74 rfl 5 rfl ?_
          refine r_iln C dX1_mean_75 rfl 6 rfl ?_
          refine r_stk (st2 := [.int sum, .int stood, .int (nI (deed + 1)), .ref h]) (congrArg (fun (z : Int32) => ([.int sum, .int stood, .int z, .ref h] : List Value)) (nI_1 deed)) ?_
          refine aft_rd (st' := [.long (P stood sum)]) (run_S (rest := []) C (hrec stood sum) ok_X1_mean ws_X1_mean wm_X1_40 [0, 1, 2, 3, 4, 5, 6] rfl ⟨by show _ ≤ fr + 1; omega, by show _ ≤ lo + 28; omega⟩ rfl rfl (Nat.le_of_ble_eq_true rfl) dX1_mean_76) rfl ?_
          refine r_ls C (lv' := [(7, .long (P stood sum)), (5, .long (0 : Int64)), (4, .int (0 : Int32)), (0, .ref h), (1, .int (nI deed)), (2, .int stood), (3, .int sum)]) dX1_mean_79 (by decide) rfl ?_
          refine r_il C dX1_mean_81 2 rfl ?_
          refine r_i2l C dX1_mean_83 ?_
          refine r_ll C dX1_mean_84 1 rfl ?_
          refine r_lmul C dX1_mean_86 ?_
          refine r_ic C (v := (4 : Int32)) dX1_mean_87 (by decide) ?_
          refine r_il C dX1_mean_88 2 rfl ?_
          refine r_isub C dX1_mean_90 ?_
          refine r_i2l C dX1_mean_91 ?_
          refine r_ll C dX1_mean_92 0 rfl ?_
          refine r_lmul C dX1_mean_94 ?_
          refine r_ladd C dX1_mean_95 ?_
          exact r_lret rfl C (congrArg (fun z => some (Value.long z)) hv) rfl dX1_mean_96
      · exact absurd c3 (by decide)
    · rw [if_neg c2] at hv
      refine r_aln C dX1_mean_20 rfl 0 rfl ?_
      refine gf_X1_32 C 0 rfl rfl dX1_mean_21 ?_
      refine r_iln C dX1_mean_24 rfl 1 rfl ?_
      refine r_iald C 5 deed rfl rfl (by omega) (by decide) rfl dX1_mean_25 ?_
      refine r_goto C (tgt := 30) dX1_mean_26 (by decide) ?_
      refine r_is C (lv' := [(4, .int (od deed)), (0, .ref h), (1, .int (nI deed)), (2, .int stood), (3, .int sum)]) dX1_mean_30 (by decide) rfl ?_
      refine r_lc C (v := (0 : Int64)) dX1_mean_32 (by decide) ?_
      refine r_ls C (lv' := [(5, .long (0 : Int64)), (4, .int (od deed)), (0, .ref h), (1, .int (nI deed)), (2, .int stood), (3, .int sum)]) dX1_mean_33 (by decide) rfl ?_
      refine r_il C dX1_mean_35 1 rfl ?_
      refine r_ifle C (tgt := 61) dX1_mean_37 (by decide) (fun c5 => ?_) (fun c5 => ?_)
      · rw [if_neg c5] at hv
        refine r_lc C (v := (0 : Int64)) dX1_mean_61 (by decide) ?_
        refine r_ls C (lv' := [(7, .long (0 : Int64)), (5, .long (0 : Int64)), (4, .int (od deed)), (0, .ref h), (1, .int (nI deed)), (2, .int stood), (3, .int sum)]) dX1_mean_62 (by decide) rfl ?_
        refine r_il C dX1_mean_64 2 rfl ?_
        refine r_ic C (v := (4 : Int32)) dX1_mean_66 (by decide) ?_
        refine r_icge C (tgt := 81) dX1_mean_67 (by decide) (fun c6 => ?_) (fun c6 => ?_)
        · rw [if_neg c6] at hv
          refine r_il C dX1_mean_81 2 rfl ?_
          refine r_i2l C dX1_mean_83 ?_
          refine r_ll C dX1_mean_84 1 rfl ?_
          refine r_lmul C dX1_mean_86 ?_
          refine r_ic C (v := (4 : Int32)) dX1_mean_87 (by decide) ?_
          refine r_il C dX1_mean_88 2 rfl ?_
          refine r_isub C dX1_mean_90 ?_
          refine r_i2l C dX1_mean_91 ?_
          refine r_ll C dX1_mean_92 0 rfl ?_
          refine r_lmul C dX1_mean_94 ?_
          refine r_ladd C dX1_mean_95 ?_
          exact r_lret rfl C (congrArg (fun z => some (Value.long z)) hv) rfl dX1_mean_96
        · rw [if_pos c6] at hv
          refine r_aln C dX1_mean_70 rfl 3 rfl ?_
          refine r_iln C dX1_mean_71 rfl 4 rfl ?_
          refine r_ic C (v := (1 : Int32)) dX1_mean_72 (by decide) ?_
          refine r_iadd C dX1_mean_73 ?_
          refine r_iln C dX1_mean_74 rfl 5 rfl ?_
          refine r_iln C dX1_mean_75 rfl 6 rfl ?_
          refine r_stk (st2 := [.int sum, .int stood, .int (nI (deed + 1)), .ref h]) (congrArg (fun (z : Int32) => ([.int sum, .int stood, .int z, .ref h] : List Value)) (nI_1 deed)) ?_
          refine aft_rd (st' := [.long (P stood sum)]) (run_S (rest := []) C (hrec stood sum) ok_X1_mean ws_X1_mean wm_X1_40 [0, 1, 2, 3, 4, 5, 6] rfl ⟨by show _ ≤ fr + 1; omega, by show _ ≤ lo + 28; omega⟩ rfl rfl (Nat.le_of_ble_eq_true rfl) dX1_mean_76) rfl ?_
          refine r_ls C (lv' := [(7, .long (P stood sum)), (5, .long (0 : Int64)), (4, .int (od deed)), (0, .ref h), (1, .int (nI deed)), (2, .int stood), (3, .int sum)]) dX1_mean_79 (by decide) rfl ?_
          refine r_il C dX1_mean_81 2 rfl ?_
          refine r_i2l C dX1_mean_83 ?_
          refine r_ll C dX1_mean_84 1 rfl ?_
          refine r_lmul C dX1_mean_86 ?_
          refine r_ic C (v := (4 : Int32)) dX1_mean_87 (by decide) ?_
          refine r_il C dX1_mean_88 2 rfl ?_
          refine r_isub C dX1_mean_90 ?_
          refine r_i2l C dX1_mean_91 ?_
          refine r_ll C dX1_mean_92 0 rfl ?_
          refine r_lmul C dX1_mean_94 ?_
          refine r_ladd C dX1_mean_95 ?_
          exact r_lret rfl C (congrArg (fun z => some (Value.long z)) hv) rfl dX1_mean_96
      · rw [if_pos c5] at hv
        refine r_aln C dX1_mean_40 rfl 2 rfl ?_
        refine r_iln C dX1_mean_41 rfl 3 rfl ?_
        refine r_ic C (v := (1 : Int32)) dX1_mean_42 (by decide) ?_
        refine r_iadd C dX1_mean_43 ?_
        refine r_iln C dX1_mean_44 rfl 4 rfl ?_
        refine r_ic C (v := (1 : Int32)) dX1_mean_45 (by decide) ?_
        refine r_iln C dX1_mean_46 rfl 3 rfl ?_
        refine r_ishl C dX1_mean_47 ?_
        refine r_ior C dX1_mean_48 ?_
        refine r_iln C dX1_mean_49 rfl 5 rfl ?_
        refine r_aln C dX1_mean_50 rfl 2 rfl ?_
        refine r_iln C dX1_mean_51 rfl 3 rfl ?_
        refine aft_rd (st' := [.int (s_X5_worthToAll pe wo deed), .int sum, .int (stood ||| ((1 : Int32) <<< ((nI deed) &&& 31))), .int ((nI deed) + (1 : Int32)), .ref h]) (run_VN (rest := [.int sum, .int (stood ||| ((1 : Int32) <<< ((nI deed) &&& 31))), .int ((nI deed) + (1 : Int32)), .ref h]) C (c_X5_worthToAll l D h a1 a2 a3 a4 a5 a6 pe n td ys la ri kd dy nd co od wo deed (by omega) (by omega)) ok_X5_worthToAll wn_X5_worthToAll wl_X5_worthToAll wm_X1_36 [0, 1, 2, 3, 4, 5, 6] 0 rfl rfl rfl ⟨by show _ ≤ fr + 1; omega, by show _ ≤ lo + 28; omega⟩ rfl rfl (Nat.le_of_ble_eq_true rfl) dX1_mean_52) rfl ?_
        refine r_iadd C dX1_mean_55 ?_
        refine r_stk (st2 := [.int (sum + (s_X5_worthToAll pe wo deed)), .int (stood ||| ((1 : Int32) <<< ((nI deed) &&& 31))), .int (nI (deed + 1)), .ref h]) (congrArg (fun (z : Int32) => ([.int (sum + (s_X5_worthToAll pe wo deed)), .int (stood ||| ((1 : Int32) <<< ((nI deed) &&& 31))), .int z, .ref h] : List Value)) (nI_1 deed)) ?_
        refine aft_rd (st' := [.long (P (stood ||| ((1 : Int32) <<< ((nI deed) &&& 31))) (sum + (s_X5_worthToAll pe wo deed)))]) (run_S (rest := []) C (hrec (stood ||| ((1 : Int32) <<< ((nI deed) &&& 31))) (sum + (s_X5_worthToAll pe wo deed))) ok_X1_mean ws_X1_mean wm_X1_40 [0, 1, 2, 3, 4, 5, 6] rfl ⟨by show _ ≤ fr + 1; omega, by show _ ≤ lo + 28; omega⟩ rfl rfl (Nat.le_of_ble_eq_true rfl) dX1_mean_56) rfl ?_
        refine r_ls C (lv' := [(5, .long (P (stood ||| ((1 : Int32) <<< ((nI deed) &&& 31))) (sum + (s_X5_worthToAll pe wo deed)))), (4, .int (od deed)), (0, .ref h), (1, .int (nI deed)), (2, .int stood), (3, .int sum)]) dX1_mean_59 (by decide) rfl ?_
        refine r_lc C (v := (0 : Int64)) dX1_mean_61 (by decide) ?_
        refine r_ls C (lv' := [(7, .long (0 : Int64)), (5, .long (P (stood ||| ((1 : Int32) <<< ((nI deed) &&& 31))) (sum + (s_X5_worthToAll pe wo deed)))), (4, .int (od deed)), (0, .ref h), (1, .int (nI deed)), (2, .int stood), (3, .int sum)]) dX1_mean_62 (by decide) rfl ?_
        refine r_il C dX1_mean_64 2 rfl ?_
        refine r_ic C (v := (4 : Int32)) dX1_mean_66 (by decide) ?_
        refine r_icge C (tgt := 81) dX1_mean_67 (by decide) (fun c7 => ?_) (fun c7 => ?_)
        · rw [if_neg c7] at hv
          refine r_il C dX1_mean_81 2 rfl ?_
          refine r_i2l C dX1_mean_83 ?_
          refine r_ll C dX1_mean_84 1 rfl ?_
          refine r_lmul C dX1_mean_86 ?_
          refine r_ic C (v := (4 : Int32)) dX1_mean_87 (by decide) ?_
          refine r_il C dX1_mean_88 2 rfl ?_
          refine r_isub C dX1_mean_90 ?_
          refine r_i2l C dX1_mean_91 ?_
          refine r_ll C dX1_mean_92 0 rfl ?_
          refine r_lmul C dX1_mean_94 ?_
          refine r_ladd C dX1_mean_95 ?_
          exact r_lret rfl C (congrArg (fun z => some (Value.long z)) hv) rfl dX1_mean_96
        · rw [if_pos c7] at hv
          refine r_aln C dX1_mean_70 rfl 3 rfl ?_
          refine r_iln C dX1_mean_71 rfl 4 rfl ?_
          refine r_ic C (v := (1 : Int32)) dX1_mean_72 (by decide) ?_
          refine r_iadd C dX1_mean_73 ?_
          refine r_iln C dX1_mean_74 rfl 5 rfl ?_
          refine r_iln C dX1_mean_75 rfl 6 rfl ?_
          refine r_stk (st2 := [.int sum, .int stood, .int (nI (deed + 1)), .ref h]) (congrArg (fun (z : Int32) => ([.int sum, .int stood, .int z, .ref h] : List Value)) (nI_1 deed)) ?_
          refine aft_rd (st' := [.long (P stood sum)]) (run_S (rest := []) C (hrec stood sum) ok_X1_mean ws_X1_mean wm_X1_40 [0, 1, 2, 3, 4, 5, 6] rfl ⟨by show _ ≤ fr + 1; omega, by show _ ≤ lo + 28; omega⟩ rfl rfl (Nat.le_of_ble_eq_true rfl) dX1_mean_76) rfl ?_
          refine r_ls C (lv' := [(7, .long (P stood sum)), (5, .long (P (stood ||| ((1 : Int32) <<< ((nI deed) &&& 31))) (sum + (s_X5_worthToAll pe wo deed)))), (4, .int (od deed)), (0, .ref h), (1, .int (nI deed)), (2, .int stood), (3, .int sum)]) dX1_mean_79 (by decide) rfl ?_
          refine r_il C dX1_mean_81 2 rfl ?_
          refine r_i2l C dX1_mean_83 ?_
          refine r_ll C dX1_mean_84 1 rfl ?_
          refine r_lmul C dX1_mean_86 ?_
          refine r_ic C (v := (4 : Int32)) dX1_mean_87 (by decide) ?_
          refine r_il C dX1_mean_88 2 rfl ?_
          refine r_isub C dX1_mean_90 ?_
          refine r_i2l C dX1_mean_91 ?_
          refine r_ll C dX1_mean_92 0 rfl ?_
          refine r_lmul C dX1_mean_94 ?_
          refine r_ladd C dX1_mean_95 ?_
          exact r_lret rfl C (congrArg (fun z => some (Value.long z)) hv) rfl dX1_mean_96
  · exact absurd ((nv_lt (a := deed) (b := n) rfl rfl (by omega) (by omega)).mpr (by omega)) c1

def s_X1_mean_base (sum : Int32) : Int64 := sum.toInt64
set_option maxHeartbeats 8000000 in
set_option maxRecDepth 100000 in
theorem c_X1_mean_base (l : Launch) (D : va_G) (h : Nat) (a1 : Nat) (a2 : Nat) (a3 : Nat) (a4 : Nat) (a5 : Nat) (a6 : Nat) (pe : Nat) (n : Nat) (td : Int32) (ys : Int32) (la : Int32) (ri : Int32) (kd : Nat → Int32) (dy : Nat → Int32) (nd : Nat → Int32) (co : Nat → Int32) (od : Nat → Int32) (wo : Nat → Int32) (stood : Int32) (sum : Int32) (hn : n ≤ 12) : ct l yX1_mean cX1_mean 9 (some .long) 20 500 D [.ref h, .int (nI n), .int stood, .int sum] (wY D h a1 a2 a3 a4 a5 a6 pe n td ys la ri kd dy nd co od wo) (wY D h a1 a2 a3 a4 a5 a6 pe n td ys la ri kd dy nd co od wo) (fun _ => False) (some (Value.long (s_X1_mean_base sum))) := by
  obtain ⟨V, hv⟩ : ∃ V, s_X1_mean_base sum = V := ⟨_, rfl⟩
  rw [hv]
  refine ct_intro (own := RX1) (lv := [(0, .ref h), (1, .int (nI n)), (2, .int stood), (3, .int sum)]) (by decide) rfl (Nat.le_of_ble_eq_true rfl) rfl ?_
  intro p_ e_ s_ m_ below_ meth_ c_ C
  have hv : sum.toInt64 = V := hv
  refine r_iln C dX1_mean_0 rfl 1 rfl ?_
  refine r_aln C dX1_mean_1 rfl 0 rfl ?_
  refine gf_X1_15 C 0 rfl rfl dX1_mean_2 ?_
  refine r_iclt C (tgt := 11) dX1_mean_5 (by decide) (fun c1 => ?_) (fun c1 => ?_)
  · exact absurd c1 (fun z => absurd ((nv_lt (a := n) (b := n) rfl rfl (by omega) (by omega)).mp z) (by omega))
  · skip
    refine r_iln C dX1_mean_8 rfl 3 rfl ?_
    refine r_i2l C dX1_mean_9 ?_
    exact r_lret rfl C (congrArg (fun z => some (Value.long z)) hv) rfl dX1_mean_10

def s_X1_mean (pe : Nat) (la : Int32) (kd nd od wo : Nat → Int32) : Nat → Nat → Int32 → Int32 → Int64
  | 0, _, _, su => su.toInt64
  | k + 1, deed, st, su => s_X1_mean_step pe la kd nd od wo deed st su (fun a b => s_X1_mean pe la kd nd od wo k (deed + 1) a b)
theorem c_X1_mean (l : Launch) (D : va_G) (h a1 a2 a3 a4 a5 a6 : Nat) (pe n : Nat) (td ys la ri : Int32) (kd dy nd co od wo : Nat → Int32) (hn : n ≤ 12) (hp : 1 ≤ pe ∧ pe ≤ 4) : ∀ (k deed : Nat), deed + k = n → ∀ st su : Int32, ct l yX1_mean cX1_mean 9 (some .long) (20 + k) (500 + 28 * k) D [.ref h, .int (nI deed), .int st, .int su] (wY D h a1 a2 a3 a4 a5 a6 pe n td ys la ri kd dy nd co od wo) (wY D h a1 a2 a3 a4 a5 a6 pe n td ys la ri kd dy nd co od wo) (fun _ => False) (some (Value.long (s_X1_mean pe la kd nd od wo k deed st su))) := by
  intro k
  induction k with
  | zero =>
    intro deed hk st su
    obtain rfl : deed = n := by omega
    exact c_X1_mean_base l D h a1 a2 a3 a4 a5 a6 pe deed td ys la ri kd dy nd co od wo st su hn
  | succ k ih => intro deed hk st su; exact c_X1_mean_step l D h a1 a2 a3 a4 a5 a6 pe n td ys la ri kd dy nd co od wo deed st su hn hp (by omega) (20 + k) (500 + 28 * k) (by omega) (by omega) (fun a b => s_X1_mean pe la kd nd od wo k (deed + 1) a b) (fun a b => ih (deed + 1) (by omega) a b)