def s_X7_here_L0 (tp : Nat → Int32) : Nat → Nat → Nat
  | 0, ap_3 => ap_3
  | k1 + 1, ap_3 => (if tp ap_3 = (32 : Int32) then (s_X7_here_L0 tp k1 (ap_3 + 1)) else ap_3)
def s_X7_here (ty : Nat) (ap : Nat) (tp : Nat → Int32) : Int32 × Nat := (if nI (s_X7_here_L0 tp (ty - ap) ap) < nI ty then (tp (s_X7_here_L0 tp (ty - ap) ap), (s_X7_here_L0 tp (ty - ap) ap)) else ((0 : Int32), (s_X7_here_L0 tp (ty - ap) ap)))
set_option maxHeartbeats 8000000 in
set_option maxRecDepth 100000 in
theorem c_X7_here (l : Launch) (D : va_G) (o : Nat) (q1 : Nat) (q2 : Nat) (q3 : Nat) (q4 : Nat) (q5 : Nat) (q6 : Nat) (q7 : Nat) (q8 : Nat) (q9 : Nat) (q10 : Nat) (q11 : Nat) (q12 : Nat) (q13 : Nat) (q14 : Nat) (q15 : Nat) (q16 : Nat) (q17 : Nat) (q18 : Nat) (q19 : Nat) (q20 : Nat) (q21 : Nat) (q22 : Nat) (pe : Nat) (n : Nat) (la : Int32) (ri : Int32) (td : Int32) (ys : Int32) (ty : Nat) (ap : Nat) (wg : Int32) (rd : Nat) (sm : Int32) (bt : Int32) (up : Int64) (lw : Int64) (ii : Int32) (kd : Nat → Int32) (dy : Nat → Int32) (nd : Nat → Int32) (co : Nat → Int32) (od : Nat → Int32) (wo : Nat → Int32) (tp : Nat → Int32) (rk : Nat → Int32) (ry : Nat → Int32) (rn : Nat → Int32) (vs : Nat → Int32) (bs : Nat → Int32) (ch : Nat → Int32) (tr : Nat → Int32) (en : Nat → Int32) (du : Nat → Int32) (ol : Nat → Int32) (ig : Nat → Int32) (ln : Nat → Int32) (sz : Nat → Int32) (it : Nat → Int64) (mo : Nat → Int64) (hty : ty ≤ 80) (hap : ap ≤ ty) (h0 : va_D (fun _ => True) (wM D o q1 q2 q3 q4 q5 q6 q7 q8 q9 q10 q11 q12 q13 q14 q15 q16 q17 q18 q19 q20 q21 q22 pe n la ri td ys ty ap wg rd sm bt up lw ii kd dy nd co od wo tp rk ry rn vs bs ch tr en du ol ig ln sz it mo)) : ct l yX7_here cX7_here 1 (some .int) 0 0 D [.ref o] (wM D o q1 q2 q3 q4 q5 q6 q7 q8 q9 q10 q11 q12 q13 q14 q15 q16 q17 q18 q19 q20 q21 q22 pe n la ri td ys ty ap wg rd sm bt up lw ii kd dy nd co od wo tp rk ry rn vs bs ch tr en du ol ig ln sz it mo) (wM D o q1 q2 q3 q4 q5 q6 q7 q8 q9 q10 q11 q12 q13 q14 q15 q16 q17 q18 q19 q20 q21 q22 pe n la ri td ys ty (s_X7_here ty ap tp).2 wg rd sm bt up lw ii kd dy nd co od wo tp rk ry rn vs bs ch tr en du ol ig ln sz it mo) (Ad (wM D o q1 q2 q3 q4 q5 q6 q7 q8 q9 q10 q11 q12 q13 q14 q15 q16 q17 q18 q19 q20 q21 q22 pe n la ri td ys ty ap wg rd sm bt up lw ii kd dy nd co od wo tp rk ry rn vs bs ch tr en du ol ig ln sz it mo)) (some (Value.int (s_X7_here ty ap tp).1)) := by
  obtain ⟨V, hv⟩ : ∃ V, s_X7_here ty ap tp = V := ⟨_, rfl⟩
  rw [hv]
  refine ct_intro (own := RX7) (lv := [(0, .ref o)]) (by decide) rfl (Nat.le_of_ble_eq_true rfl) rfl ?_
  intro p_ e_ s_ m_ below_ meth_ c_ C
  have hv : (if nI (s_X7_here_L0 tp (ty - ap) ap) < nI ty then (tp (s_X7_here_L0 tp (ty - ap) ap), (s_X7_here_L0 tp (ty - ap) ap)) else ((0 : Int32), (s_X7_here_L0 tp (ty - ap) ap))) = V := hv
  have X4 : ∀ (ap_3 : Nat), (ap_3 ≤ ty) → (if nI ap_3 < nI ty then (tp ap_3, ap_3) else ((0 : Int32), ap_3)) = V → GM p_ l e_ s_ m_ below_ meth_ c_ D 0 0 1 [.ref o] (wM D o q1 q2 q3 q4 q5 q6 q7 q8 q9 q10 q11 q12 q13 q14 q15 q16 q17 q18 q19 q20 q21 q22 pe n la ri td ys ty V.2 wg rd sm bt up lw ii kd dy nd co od wo tp rk ry rn vs bs ch tr en du ol ig ln sz it mo) (Ad (wM D o q1 q2 q3 q4 q5 q6 q7 q8 q9 q10 q11 q12 q13 q14 q15 q16 q17 q18 q19 q20 q21 q22 pe n la ri td ys ty ap wg rd sm bt up lw ii kd dy nd co od wo tp rk ry rn vs bs ch tr en du ol ig ln sz it mo)) (some (Value.int V.1)) (wM D o q1 q2 q3 q4 q5 q6 q7 q8 q9 q10 q11 q12 q13 q14 q15 q16 q17 q18 q19 q20 q21 q22 pe n la ri td ys ty ap_3 wg rd sm bt up lw ii kd dy nd co od wo tp rk ry rn vs bs ch tr en du ol ig ln sz it mo) 38 [(0, .ref o)] [] := by
    intro ap_3 hxa hv
    refine r_aln C dX7_here_38 rfl 0 rfl ?_
    refine gf_X7_141 C 0 rfl rfl dX7_here_39 ?_
    refine r_aln C dX7_here_42 rfl 0 rfl ?_
    refine gf_X7_138 C 0 rfl rfl dX7_here_43 ?_
    refine r_icge C (tgt := 61) dX7_here_46 (by decide) (fun c5 => ?_) (fun c5 => ?_)
    · rw [if_neg c5] at hv
      have fc5 : ¬ (ap_3 < ty) := fun z => c5 ((nv_lt (a := ap_3) (b := ty) rfl rfl (by omega) (by omega)).mpr z)
      refine r_ic C (v := (0 : Int32)) dX7_here_61 (by decide) ?_
      exact r_iret rfl C (by rw [← hv]) (by rw [← hv]) dX7_here_62
    · rw [if_pos c5] at hv
      have fc5 : ap_3 < ty := (nv_lt (a := ap_3) (b := ty) rfl rfl (by omega) (by omega)).mp c5
      refine r_aln C dX7_here_49 rfl 0 rfl ?_
      refine gf_X7_28 C 0 rfl rfl dX7_here_50 ?_
      refine r_aln C dX7_here_53 rfl 0 rfl ?_
      refine gf_X7_141 C 0 rfl rfl dX7_here_54 ?_
      refine r_iald C 7 ap_3 rfl rfl (by omega) (by decide) rfl dX7_here_57 ?_
      refine r_goto C (tgt := 62) dX7_here_58 (by decide) ?_
      exact r_iret rfl C (by rw [← hv]) (by rw [← hv]) dX7_here_62
  have L10 : ∀ (k1 : Nat) (ap_3 : Nat), (ap_3 + k1 = ty) → (if nI (s_X7_here_L0 tp k1 ap_3) < nI ty then (tp (s_X7_here_L0 tp k1 ap_3), (s_X7_here_L0 tp k1 ap_3)) else ((0 : Int32), (s_X7_here_L0 tp k1 ap_3))) = V → GM p_ l e_ s_ m_ below_ meth_ c_ D 0 0 1 [.ref o] (wM D o q1 q2 q3 q4 q5 q6 q7 q8 q9 q10 q11 q12 q13 q14 q15 q16 q17 q18 q19 q20 q21 q22 pe n la ri td ys ty V.2 wg rd sm bt up lw ii kd dy nd co od wo tp rk ry rn vs bs ch tr en du ol ig ln sz it mo) (Ad (wM D o q1 q2 q3 q4 q5 q6 q7 q8 q9 q10 q11 q12 q13 q14 q15 q16 q17 q18 q19 q20 q21 q22 pe n la ri td ys ty ap wg rd sm bt up lw ii kd dy nd co od wo tp rk ry rn vs bs ch tr en du ol ig ln sz it mo)) (some (Value.int V.1)) (wM D o q1 q2 q3 q4 q5 q6 q7 q8 q9 q10 q11 q12 q13 q14 q15 q16 q17 q18 q19 q20 q21 q22 pe n la ri td ys ty ap_3 wg rd sm bt up lw ii kd dy nd co od wo tp rk ry rn vs bs ch tr en du ol ig ln sz it mo) 0 [(0, .ref o)] [] := by
    intro k1
    induction k1 with
    | zero =>
      intro ap_3 hk hv
      have hv : (if nI ap_3 < nI ty then (tp ap_3, ap_3) else ((0 : Int32), ap_3)) = V := hv
      refine r_aln C dX7_here_0 rfl 0 rfl ?_
      refine gf_X7_141 C 0 rfl rfl dX7_here_1 ?_
      refine r_aln C dX7_here_4 rfl 0 rfl ?_
      refine gf_X7_138 C 0 rfl rfl dX7_here_5 ?_
      refine r_icge C (tgt := 38) dX7_here_8 (by decide) (fun c6 => ?_) (fun c6 => ?_)
      · skip
        exact X4 ap_3 (by omega) hv
      · exact absurd c6 (fun z => absurd ((nv_lt (a := ap_3) (b := ty) rfl rfl (by omega) (by omega)).mp z) (by omega))
    | succ k1 ih7 =>
      intro ap_3 hk hv
      have hv : (if nI (if tp ap_3 = (32 : Int32) then (s_X7_here_L0 tp k1 (ap_3 + 1)) else ap_3) < nI ty then (tp (if tp ap_3 = (32 : Int32) then (s_X7_here_L0 tp k1 (ap_3 + 1)) else ap_3), (if tp ap_3 = (32 : Int32) then (s_X7_here_L0 tp k1 (ap_3 + 1)) else ap_3)) else ((0 : Int32), (if tp ap_3 = (32 : Int32) then (s_X7_here_L0 tp k1 (ap_3 + 1)) else ap_3))) = V := hv
      refine r_aln C dX7_here_0 rfl 0 rfl ?_
      refine gf_X7_141 C 0 rfl rfl dX7_here_1 ?_
      refine r_aln C dX7_here_4 rfl 0 rfl ?_
      refine gf_X7_138 C 0 rfl rfl dX7_here_5 ?_
      refine r_icge C (tgt := 38) dX7_here_8 (by decide) (fun c8 => ?_) (fun c8 => ?_)
      · exact absurd ((nv_lt (a := ap_3) (b := ty) rfl rfl (by omega) (by omega)).mpr (by omega)) c8
      · skip
        refine r_aln C dX7_here_11 rfl 0 rfl ?_
        refine gf_X7_28 C 0 rfl rfl dX7_here_12 ?_
        refine r_aln C dX7_here_15 rfl 0 rfl ?_
        refine gf_X7_141 C 0 rfl rfl dX7_here_16 ?_
        refine r_iald C 7 ap_3 rfl rfl (by omega) (by decide) rfl dX7_here_19 ?_
        refine r_bp C (v := (32 : Int32)) dX7_here_20 (by decide) ?_
        refine r_icne C (tgt := 38) dX7_here_22 (by decide) (fun c9 => ?_) (fun c9 => ?_)
        · rw [if_neg c9] at hv
          exact X4 ap_3 (by omega) hv
        · rw [if_pos c9] at hv
          refine r_aln C dX7_here_25 rfl 0 rfl ?_
          refine r_dup C dX7_here_26 rfl ?_
          refine gf_X7_141 C 0 rfl rfl dX7_here_27 ?_
          refine r_ic C (v := (1 : Int32)) dX7_here_30 (by decide) ?_
          refine r_iadd C dX7_here_31 ?_
          refine r_top (nv_add rfl rfl) ?_
          refine pf_X7_141 C (ws2 := wM D o q1 q2 q3 q4 q5 q6 q7 q8 q9 q10 q11 q12 q13 q14 q15 q16 q17 q18 q19 q20 q21 q22 pe n la ri td ys ty (ap_3 + 1) wg rd sm bt up lw ii kd dy nd co od wo tp rk ry rn vs bs ch tr en du ol ig ln sz it mo) h0 rfl 0 rfl (Nat.le_of_ble_eq_true rfl) dX7_here_32 rfl rfl ?_
          refine r_goto C (tgt := 0) dX7_here_35 (by decide) ?_
          exact ih7 (ap_3 + 1) (by omega) hv
  exact L10 (ty - ap) ap (by omega) hv

theorem here_L {ty : Nat} {tp : Nat → Int32} : ∀ (k ap : Nat), ap + k = ty → ap ≤ s_X7_here_L0 tp k ap ∧ s_X7_here_L0 tp k ap ≤ ty := by
  intro k
  induction k with
  | zero => intro ap h; exact ⟨Nat.le_refl _, by show ap ≤ ty; omega⟩
  | succ k ih =>
    intro ap h
    unfold s_X7_here_L0
    split
    · have r := ih (ap + 1) (by omega)
      exact ⟨by omega, r.2⟩
    · exact ⟨Nat.le_refl _, by omega⟩
theorem here_2 (ty ap : Nat) (tp : Nat → Int32) : (s_X7_here ty ap tp).2 = s_X7_here_L0 tp (ty - ap) ap := by
  unfold s_X7_here
  split <;> rfl
theorem here_le {ty ap : Nat} {tp : Nat → Int32} (h : ap ≤ ty) : (s_X7_here ty ap tp).2 ≤ ty := by rw [here_2]; exact (here_L (ty := ty) (ty - ap) ap (by omega)).2
theorem here_ge {ty ap : Nat} {tp : Nat → Int32} (h : ap ≤ ty) : ap ≤ (s_X7_here ty ap tp).2 := by rw [here_2]; exact (here_L (ty := ty) (ty - ap) ap (by omega)).1
theorem here_lt {ty ap : Nat} {tp : Nat → Int32} (hty : ty ≤ 80) (h : ap ≤ ty) (h0 : ¬ (s_X7_here ty ap tp).1 = (0 : Int32)) : (s_X7_here ty ap tp).2 < ty := by
  have hle := here_le (tp := tp) h
  rw [here_2] at hle ⊢
  rcases Nat.lt_or_ge (s_X7_here_L0 tp (ty - ap) ap) ty with z | z
  · exact z
  · refine absurd ?_ h0
    unfold s_X7_here
    rw [if_neg (fun q => absurd ((nI_ltI (by omega) (by omega)).mp q) (by omega))]
theorem here_stop {ty : Nat} {tp : Nat → Int32} : ∀ (k ap : Nat), ap + k = ty → s_X7_here_L0 tp k ap = ty ∨ ¬ tp (s_X7_here_L0 tp k ap) = (32 : Int32) := by
  intro k
  induction k with
  | zero => intro ap h; exact Or.inl (by show ap = ty; omega)
  | succ k ih =>
    intro ap h
    unfold s_X7_here_L0
    split
    · exact ih (ap + 1) (by omega)
    · rename_i c
      exact Or.inr c
theorem here_idem2 {ty ap : Nat} {tp : Nat → Int32} (h : ap ≤ ty) : s_X7_here_L0 tp (ty - s_X7_here_L0 tp (ty - ap) ap) (s_X7_here_L0 tp (ty - ap) ap) = s_X7_here_L0 tp (ty - ap) ap := by
  have h1 := here_L (ty := ty) (tp := tp) (ty - ap) ap (by omega)
  have h2 := here_stop (tp := tp) (ty := ty) (ty - ap) ap (by omega)
  generalize s_X7_here_L0 tp (ty - ap) ap = z at h1 h2 ⊢
  rcases h2 with h2 | h2
  · subst h2; rw [Nat.sub_self]; rfl
  · cases hk : ty - z with
    | zero => rfl
    | succ k => unfold s_X7_here_L0; rw [if_neg h2]
theorem here_idem {ty ap : Nat} {tp : Nat → Int32} (h : ap ≤ ty) : s_X7_here ty (s_X7_here ty ap tp).2 tp = s_X7_here ty ap tp := by
  rw [here_2]
  unfold s_X7_here
  rw [here_idem2 h]
theorem kind_c {c : Int32} (h : ¬ (if c = (112 : Int32) then (0 : Int32) else (if c = (97 : Int32) then (1 : Int32) else (if c = (115 : Int32) then (2 : Int32) else (if c = (104 : Int32) then (3 : Int32) else (-4 : Int32))))) < 0) : ¬ c = (0 : Int32) := fun z => by
  subst z
  exact h (by decide)
theorem day_c {c : Int32} (h : ¬ s_X7_in (c - (65 : Int32)).toInt64 0 11 = 0) : ¬ c = (0 : Int32) := fun z => by
  subst z
  exact h (by decide)
theorem need_c {c : Int32} (h : ¬ s_X7_in c.toInt64 97 108 = 0) : ¬ c = (0 : Int32) := fun z => by
  subst z
  exact h (by decide)
