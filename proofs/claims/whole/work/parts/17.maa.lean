theorem readDeed_rd {ty ap rd : Nat} {tp rk ry rn : Nat → Int32} : (s_X7_readDeed ty ap rd tp rk ry rn).2.2.1 = rd + 1 := by
  unfold s_X7_readDeed
  (repeat' split) <;> rfl
theorem readDeed_L {ty ap rd : Nat} {tp ry : Nat → Int32} (hty : ty ≤ 80) : ∀ (k : Nat) (need : Int32) (more ap2 : Nat) (wg : Int32), ap2 ≤ ty → more ≤ 1 → (more = 0 ∨ ¬ (s_X7_here ty ap2 tp).1 = (0 : Int32)) → (s_X7_readDeed_L173 ty ap rd tp ry k need more ap2 wg).2.2.1 ≤ ty := by
  intro k
  induction k with
  | zero => intro need more ap2 wg h _ _; exact h
  | succ k ih =>
    intro need more ap2 wg h hm1 hm
    unfold s_X7_readDeed_L173
    by_cases c0 : nI more = (0 : Int32)
    · rw [if_pos c0]; exact h
    · rw [if_neg c0]
      have hm2 : ¬ (s_X7_here ty ap2 tp).1 = (0 : Int32) := hm.resolve_left (fun z => c0 (by rw [z]; rfl))
      have h1 := here_lt hty h hm2
      have h2 : (s_X7_here ty ((s_X7_here ty ap2 tp).2 + 1) tp).2 ≤ ty := here_le (by omega)
      split
      · exact ih _ _ _ _ (by omega) (by omega) (Or.inl rfl)
      · split
        · exact ih _ _ _ _ (by omega) (by omega) (Or.inl rfl)
        · split
          · exact ih _ _ _ _ h2 (by omega) (Or.inl rfl)
          · rename_i c
            exact ih _ _ _ _ h2 (by omega) (Or.inr (by rw [here_idem (by omega)]; exact need_c c))
theorem readDeed_ap {ty ap rd : Nat} {tp rk ry rn : Nat → Int32} (hty : ty ≤ 80) (hap : ap ≤ ty) : (s_X7_readDeed ty ap rd tp rk ry rn).1 ≤ ty := by
  unfold s_X7_readDeed
  have h1 : (s_X7_here ty ap tp).2 ≤ ty := here_le hap
  split
  · exact here_le (by omega)
  · rename_i c1
    have h2 : (s_X7_here ty ap tp).2 < ty := here_lt hty hap (by unfold s_X7_readDeed_m47_0 at c1; exact kind_c c1)
    have h3 : (s_X7_here ty ((s_X7_here ty ap tp).2 + 1) tp).2 ≤ ty := here_le (by omega)
    split
    · exact h3
    · rename_i c2
      have h4 : (s_X7_here ty ((s_X7_here ty ap tp).2 + 1) tp).2 < ty := here_lt hty (by omega) (day_c c2)
      have h5 : (s_X7_here ty ((s_X7_here ty ((s_X7_here ty ap tp).2 + 1) tp).2 + 1) tp).2 ≤ ty := here_le (by omega)
      split
      · exact h5
      · rename_i c3
        exact readDeed_L hty _ _ _ _ _ h5 (by omega) (Or.inr (by rw [here_idem (by omega)]; exact need_c c3))
theorem adds_1 {n : Nat} {kd dy nd co od wo : Nat → Int32} {x y z : Int32} : (s_X7_adds n kd dy nd co od wo x y z).1 = n + 1 := rfl
theorem comma_c {c : Int32} (h : c = (44 : Int32)) : ¬ c = (0 : Int32) := fun z => absurd (h.symm.trans z) (by decide)
def s_X7_text_L127 (rk_6 : Nat → Int32) (ry_7 : Nat → Int32) (rn_8 : Nat → Int32) : Nat → Nat → Nat → (Nat → Int32) → (Nat → Int32) → (Nat → Int32) → (Nat → Int32) → (Nat → Int32) → (Nat → Int32) → Nat × (Nat → Int32) × (Nat → Int32) × (Nat → Int32) × (Nat → Int32) × (Nat → Int32) × (Nat → Int32)
  | 0, _, n_17, kd_18, dy_19, nd_20, co_21, od_22, wo_23 => (n_17, kd_18, dy_19, nd_20, co_21, od_22, wo_23)
  | k15 + 1, d16, n_17, kd_18, dy_19, nd_20, co_21, od_22, wo_23 => (s_X7_text_L127 rk_6 ry_7 rn_8 k15 (d16 + 1) ((s_X7_adds n_17 kd_18 dy_19 nd_20 co_21 od_22 wo_23 (rk_6 d16) (ry_7 d16) (rn_8 d16)).1) ((s_X7_adds n_17 kd_18 dy_19 nd_20 co_21 od_22 wo_23 (rk_6 d16) (ry_7 d16) (rn_8 d16)).2.1) ((s_X7_adds n_17 kd_18 dy_19 nd_20 co_21 od_22 wo_23 (rk_6 d16) (ry_7 d16) (rn_8 d16)).2.2.1) ((s_X7_adds n_17 kd_18 dy_19 nd_20 co_21 od_22 wo_23 (rk_6 d16) (ry_7 d16) (rn_8 d16)).2.2.2.1) ((s_X7_adds n_17 kd_18 dy_19 nd_20 co_21 od_22 wo_23 (rk_6 d16) (ry_7 d16) (rn_8 d16)).2.2.2.2.1) ((s_X7_adds n_17 kd_18 dy_19 nd_20 co_21 od_22 wo_23 (rk_6 d16) (ry_7 d16) (rn_8 d16)).2.2.2.2.2.1) ((s_X7_adds n_17 kd_18 dy_19 nd_20 co_21 od_22 wo_23 (rk_6 d16) (ry_7 d16) (rn_8 d16)).2.2.2.2.2.2))
def s_X7_text_L17 (ty : Nat) (tp : Nat → Int32) : Nat → Nat → Int32 → Nat → (Nat → Int32) → (Nat → Int32) → (Nat → Int32) → Nat × Int32 × Nat × (Nat → Int32) × (Nat → Int32) × (Nat → Int32)
  | 0, ap_3, wg_4, rd_5, rk_6, ry_7, rn_8 => (ap_3, wg_4, rd_5, rk_6, ry_7, rn_8)
  | k1 + 1, ap_3, wg_4, rd_5, rk_6, ry_7, rn_8 => (if (s_X7_readDeed ty ap_3 rd_5 tp rk_6 ry_7 rn_8).2.1 = (0 : Int32) then (if nI ((s_X7_readDeed ty ap_3 rd_5 tp rk_6 ry_7 rn_8).2.2.1) < (12 : Int32) then (if (s_X7_here ty ((s_X7_readDeed ty ap_3 rd_5 tp rk_6 ry_7 rn_8).1) tp).1 = (44 : Int32) then (s_X7_text_L17 ty tp k1 (((s_X7_here ty ((s_X7_readDeed ty ap_3 rd_5 tp rk_6 ry_7 rn_8).1) tp).2) + 1) ((s_X7_readDeed ty ap_3 rd_5 tp rk_6 ry_7 rn_8).2.1) ((s_X7_readDeed ty ap_3 rd_5 tp rk_6 ry_7 rn_8).2.2.1) ((s_X7_readDeed ty ap_3 rd_5 tp rk_6 ry_7 rn_8).2.2.2.1) ((s_X7_readDeed ty ap_3 rd_5 tp rk_6 ry_7 rn_8).2.2.2.2.1) ((s_X7_readDeed ty ap_3 rd_5 tp rk_6 ry_7 rn_8).2.2.2.2.2)) else (((s_X7_here ty ((s_X7_readDeed ty ap_3 rd_5 tp rk_6 ry_7 rn_8).1) tp).2) + 0, (s_X7_readDeed ty ap_3 rd_5 tp rk_6 ry_7 rn_8).2.1, (s_X7_readDeed ty ap_3 rd_5 tp rk_6 ry_7 rn_8).2.2.1, (s_X7_readDeed ty ap_3 rd_5 tp rk_6 ry_7 rn_8).2.2.2.1, (s_X7_readDeed ty ap_3 rd_5 tp rk_6 ry_7 rn_8).2.2.2.2.1, (s_X7_readDeed ty ap_3 rd_5 tp rk_6 ry_7 rn_8).2.2.2.2.2)) else (((s_X7_readDeed ty ap_3 rd_5 tp rk_6 ry_7 rn_8).1) + 0, (s_X7_readDeed ty ap_3 rd_5 tp rk_6 ry_7 rn_8).2.1, (s_X7_readDeed ty ap_3 rd_5 tp rk_6 ry_7 rn_8).2.2.1, (s_X7_readDeed ty ap_3 rd_5 tp rk_6 ry_7 rn_8).2.2.2.1, (s_X7_readDeed ty ap_3 rd_5 tp rk_6 ry_7 rn_8).2.2.2.2.1, (s_X7_readDeed ty ap_3 rd_5 tp rk_6 ry_7 rn_8).2.2.2.2.2)) else (((s_X7_readDeed ty ap_3 rd_5 tp rk_6 ry_7 rn_8).1) + 0, (s_X7_readDeed ty ap_3 rd_5 tp rk_6 ry_7 rn_8).2.1, (s_X7_readDeed ty ap_3 rd_5 tp rk_6 ry_7 rn_8).2.2.1, (s_X7_readDeed ty ap_3 rd_5 tp rk_6 ry_7 rn_8).2.2.2.1, (s_X7_readDeed ty ap_3 rd_5 tp rk_6 ry_7 rn_8).2.2.2.2.1, (s_X7_readDeed ty ap_3 rd_5 tp rk_6 ry_7 rn_8).2.2.2.2.2))
def s_X7_text (n : Nat) (la : Int32) (ri : Int32) (td : Int32) (ty : Nat) (kd : Nat → Int32) (dy : Nat → Int32) (nd : Nat → Int32) (co : Nat → Int32) (od : Nat → Int32) (wo : Nat → Int32) (tp : Nat → Int32) (rk : Nat → Int32) (ry : Nat → Int32) (rn : Nat → Int32) : Int32 × Nat × Int32 × Int32 × Int32 × Nat × Nat × Int32 × Nat × (Nat → Int32) × (Nat → Int32) × (Nat → Int32) × (Nat → Int32) × (Nat → Int32) × (Nat → Int32) × (Nat → Int32) × (Nat → Int32) × (Nat → Int32) := (if ((s_X7_text_L17 ty tp 12 0 (0 : Int32) 0 rk ry rn).2.1) = (0 : Int32) then (if (s_X7_here ty ((s_X7_text_L17 ty tp 12 0 (0 : Int32) 0 rk ry rn).1) tp).1 = (0 : Int32) then (nI ((s_X7_text_L127 ((s_X7_text_L17 ty tp 12 0 (0 : Int32) 0 rk ry rn).2.2.2.1) ((s_X7_text_L17 ty tp 12 0 (0 : Int32) 0 rk ry rn).2.2.2.2.1) ((s_X7_text_L17 ty tp 12 0 (0 : Int32) 0 rk ry rn).2.2.2.2.2) ((s_X7_text_L17 ty tp 12 0 (0 : Int32) 0 rk ry rn).2.2.1) 0 0 kd dy nd co od wo).1), ((s_X7_text_L127 ((s_X7_text_L17 ty tp 12 0 (0 : Int32) 0 rk ry rn).2.2.2.1) ((s_X7_text_L17 ty tp 12 0 (0 : Int32) 0 rk ry rn).2.2.2.2.1) ((s_X7_text_L17 ty tp 12 0 (0 : Int32) 0 rk ry rn).2.2.2.2.2) ((s_X7_text_L17 ty tp 12 0 (0 : Int32) 0 rk ry rn).2.2.1) 0 0 kd dy nd co od wo).1), (0 : Int32), (0 : Int32), (11 : Int32), 0, (s_X7_here ty ((s_X7_text_L17 ty tp 12 0 (0 : Int32) 0 rk ry rn).1) tp).2, (0 : Int32), ((s_X7_text_L17 ty tp 12 0 (0 : Int32) 0 rk ry rn).2.2.1), ((s_X7_text_L127 ((s_X7_text_L17 ty tp 12 0 (0 : Int32) 0 rk ry rn).2.2.2.1) ((s_X7_text_L17 ty tp 12 0 (0 : Int32) 0 rk ry rn).2.2.2.2.1) ((s_X7_text_L17 ty tp 12 0 (0 : Int32) 0 rk ry rn).2.2.2.2.2) ((s_X7_text_L17 ty tp 12 0 (0 : Int32) 0 rk ry rn).2.2.1) 0 0 kd dy nd co od wo).2.1), ((s_X7_text_L127 ((s_X7_text_L17 ty tp 12 0 (0 : Int32) 0 rk ry rn).2.2.2.1) ((s_X7_text_L17 ty tp 12 0 (0 : Int32) 0 rk ry rn).2.2.2.2.1) ((s_X7_text_L17 ty tp 12 0 (0 : Int32) 0 rk ry rn).2.2.2.2.2) ((s_X7_text_L17 ty tp 12 0 (0 : Int32) 0 rk ry rn).2.2.1) 0 0 kd dy nd co od wo).2.2.1), ((s_X7_text_L127 ((s_X7_text_L17 ty tp 12 0 (0 : Int32) 0 rk ry rn).2.2.2.1) ((s_X7_text_L17 ty tp 12 0 (0 : Int32) 0 rk ry rn).2.2.2.2.1) ((s_X7_text_L17 ty tp 12 0 (0 : Int32) 0 rk ry rn).2.2.2.2.2) ((s_X7_text_L17 ty tp 12 0 (0 : Int32) 0 rk ry rn).2.2.1) 0 0 kd dy nd co od wo).2.2.2.1), ((s_X7_text_L127 ((s_X7_text_L17 ty tp 12 0 (0 : Int32) 0 rk ry rn).2.2.2.1) ((s_X7_text_L17 ty tp 12 0 (0 : Int32) 0 rk ry rn).2.2.2.2.1) ((s_X7_text_L17 ty tp 12 0 (0 : Int32) 0 rk ry rn).2.2.2.2.2) ((s_X7_text_L17 ty tp 12 0 (0 : Int32) 0 rk ry rn).2.2.1) 0 0 kd dy nd co od wo).2.2.2.2.1), ((s_X7_text_L127 ((s_X7_text_L17 ty tp 12 0 (0 : Int32) 0 rk ry rn).2.2.2.1) ((s_X7_text_L17 ty tp 12 0 (0 : Int32) 0 rk ry rn).2.2.2.2.1) ((s_X7_text_L17 ty tp 12 0 (0 : Int32) 0 rk ry rn).2.2.2.2.2) ((s_X7_text_L17 ty tp 12 0 (0 : Int32) 0 rk ry rn).2.2.1) 0 0 kd dy nd co od wo).2.2.2.2.2.1), ((s_X7_text_L127 ((s_X7_text_L17 ty tp 12 0 (0 : Int32) 0 rk ry rn).2.2.2.1) ((s_X7_text_L17 ty tp 12 0 (0 : Int32) 0 rk ry rn).2.2.2.2.1) ((s_X7_text_L17 ty tp 12 0 (0 : Int32) 0 rk ry rn).2.2.2.2.2) ((s_X7_text_L17 ty tp 12 0 (0 : Int32) 0 rk ry rn).2.2.1) 0 0 kd dy nd co od wo).2.2.2.2.2.2), ((s_X7_text_L17 ty tp 12 0 (0 : Int32) 0 rk ry rn).2.2.2.1), ((s_X7_text_L17 ty tp 12 0 (0 : Int32) 0 rk ry rn).2.2.2.2.1), ((s_X7_text_L17 ty tp 12 0 (0 : Int32) 0 rk ry rn).2.2.2.2.2)) else ((-20 : Int32) - (nI ((s_X7_here ty ((s_X7_text_L17 ty tp 12 0 (0 : Int32) 0 rk ry rn).1) tp).2)), n, la, ri, td, 0, (s_X7_here ty ((s_X7_text_L17 ty tp 12 0 (0 : Int32) 0 rk ry rn).1) tp).2, (1 : Int32), ((s_X7_text_L17 ty tp 12 0 (0 : Int32) 0 rk ry rn).2.2.1), kd, dy, nd, co, od, wo, ((s_X7_text_L17 ty tp 12 0 (0 : Int32) 0 rk ry rn).2.2.2.1), ((s_X7_text_L17 ty tp 12 0 (0 : Int32) 0 rk ry rn).2.2.2.2.1), ((s_X7_text_L17 ty tp 12 0 (0 : Int32) 0 rk ry rn).2.2.2.2.2))) else ((-20 : Int32) - (nI ((s_X7_text_L17 ty tp 12 0 (0 : Int32) 0 rk ry rn).1)), n, la, ri, td, 0, ((s_X7_text_L17 ty tp 12 0 (0 : Int32) 0 rk ry rn).1), (1 : Int32), ((s_X7_text_L17 ty tp 12 0 (0 : Int32) 0 rk ry rn).2.2.1), kd, dy, nd, co, od, wo, ((s_X7_text_L17 ty tp 12 0 (0 : Int32) 0 rk ry rn).2.2.2.1), ((s_X7_text_L17 ty tp 12 0 (0 : Int32) 0 rk ry rn).2.2.2.2.1), ((s_X7_text_L17 ty tp 12 0 (0 : Int32) 0 rk ry rn).2.2.2.2.2)))
set_option maxHeartbeats 8000000 in
set_option maxRecDepth 100000 in
theorem c_X7_text (l : Launch) (D : va_G) (o : Nat) (q1 : Nat) (q2 : Nat) (q3 : Nat) (q4 : Nat) (q5 : Nat) (q6 : Nat) (q7 : Nat) (q8 : Nat) (q9 : Nat) (q10 : Nat) (q11 : Nat) (q12 : Nat) (q13 : Nat) (q14 : Nat) (q15 : Nat) (q16 : Nat) (q17 : Nat) (q18 : Nat) (q19 : Nat) (q20 : Nat) (q21 : Nat) (q22 : Nat) (pe : Nat) (n : Nat) (la : Int32) (ri : Int32) (td : Int32) (ys : Int32) (ty : Nat) (ap : Nat) (wg : Int32) (rd : Nat) (sm : Int32) (bt : Int32) (up : Int64) (lw : Int64) (ii : Int32) (kd : Nat → Int32) (dy : Nat → Int32) (nd : Nat → Int32) (co : Nat → Int32) (od : Nat → Int32) (wo : Nat → Int32) (tp : Nat → Int32) (rk : Nat → Int32) (ry : Nat → Int32) (rn : Nat → Int32) (vs : Nat → Int32) (bs : Nat → Int32) (ch : Nat → Int32) (tr : Nat → Int32) (en : Nat → Int32) (du : Nat → Int32) (ol : Nat → Int32) (ig : Nat → Int32) (ln : Nat → Int32) (sz : Nat → Int32) (it : Nat → Int64) (mo : Nat → Int64) (hty : ty ≤ 80) (h0 : va_D (fun _ => True) (wM D o q1 q2 q3 q4 q5 q6 q7 q8 q9 q10 q11 q12 q13 q14 q15 q16 q17 q18 q19 q20 q21 q22 pe n la ri td ys ty ap wg rd sm bt up lw ii kd dy nd co od wo tp rk ry rn vs bs ch tr en du ol ig ln sz it mo)) : ct l yX7_text cX7_text 3 (some .int) 2 51 D [.ref o] (wM D o q1 q2 q3 q4 q5 q6 q7 q8 q9 q10 q11 q12 q13 q14 q15 q16 q17 q18 q19 q20 q21 q22 pe n la ri td ys ty ap wg rd sm bt up lw ii kd dy nd co od wo tp rk ry rn vs bs ch tr en du ol ig ln sz it mo) (wM D o q1 q2 q3 q4 q5 q6 q7 q8 q9 q10 q11 q12 q13 q14 q15 q16 q17 q18 q19 q20 q21 q22 pe (s_X7_text n la ri td ty kd dy nd co od wo tp rk ry rn).2.1 (s_X7_text n la ri td ty kd dy nd co od wo tp rk ry rn).2.2.1 (s_X7_text n la ri td ty kd dy nd co od wo tp rk ry rn).2.2.2.1 (s_X7_text n la ri td ty kd dy nd co od wo tp rk ry rn).2.2.2.2.1 ys (s_X7_text n la ri td ty kd dy nd co od wo tp rk ry rn).2.2.2.2.2.1 (s_X7_text n la ri td ty kd dy nd co od wo tp rk ry rn).2.2.2.2.2.2.1 (s_X7_text n la ri td ty kd dy nd co od wo tp rk ry rn).2.2.2.2.2.2.2.1 (s_X7_text n la ri td ty kd dy nd co od wo tp rk ry rn).2.2.2.2.2.2.2.2.1 sm bt up lw ii (s_X7_text n la ri td ty kd dy nd co od wo tp rk ry rn).2.2.2.2.2.2.2.2.2.1 (s_X7_text n la ri td ty kd dy nd co od wo tp rk ry rn).2.2.2.2.2.2.2.2.2.2.1 (s_X7_text n la ri td ty kd dy nd co od wo tp rk ry rn).2.2.2.2.2.2.2.2.2.2.2.1 (s_X7_text n la ri td ty kd dy nd co od wo tp rk ry rn).2.2.2.2.2.2.2.2.2.2.2.2.1 (s_X7_text n la ri td ty kd dy nd co od wo tp rk ry rn).2.2.2.2.2.2.2.2.2.2.2.2.2.1 (s_X7_text n la ri td ty kd dy nd co od wo tp rk ry rn).2.2.2.2.2.2.2.2.2.2.2.2.2.2.1 tp (s_X7_text n la ri td ty kd dy nd co od wo tp rk ry rn).2.2.2.2.2.2.2.2.2.2.2.2.2.2.2.1 (s_X7_text n la ri td ty kd dy nd co od wo tp rk ry rn).2.2.2.2.2.2.2.2.2.2.2.2.2.2.2.2.1 (s_X7_text n la ri td ty kd dy nd co od wo tp rk ry rn).2.2.2.2.2.2.2.2.2.2.2.2.2.2.2.2.2 vs bs ch tr en du ol ig ln sz it mo) (Ad (wM D o q1 q2 q3 q4 q5 q6 q7 q8 q9 q10 q11 q12 q13 q14 q15 q16 q17 q18 q19 q20 q21 q22 pe n la ri td ys ty ap wg rd sm bt up lw ii kd dy nd co od wo tp rk ry rn vs bs ch tr en du ol ig ln sz it mo)) (some (Value.int (s_X7_text n la ri td ty kd dy nd co od wo tp rk ry rn).1)) := by
  obtain ⟨V, hv⟩ : ∃ V, s_X7_text n la ri td ty kd dy nd co od wo tp rk ry rn = V := ⟨_, rfl⟩
  rw [hv]
  refine ct_intro (own := RX7) (lv := [(0, .ref o)]) (by decide) rfl (Nat.le_of_ble_eq_true rfl) rfl ?_
  intro p_ e_ s_ m_ below_ meth_ c_ C
  have hv : (if ((s_X7_text_L17 ty tp 12 0 (0 : Int32) 0 rk ry rn).2.1) = (0 : Int32) then (if (s_X7_here ty ((s_X7_text_L17 ty tp 12 0 (0 : Int32) 0 rk ry rn).1) tp).1 = (0 : Int32) then (nI ((s_X7_text_L127 ((s_X7_text_L17 ty tp 12 0 (0 : Int32) 0 rk ry rn).2.2.2.1) ((s_X7_text_L17 ty tp 12 0 (0 : Int32) 0 rk ry rn).2.2.2.2.1) ((s_X7_text_L17 ty tp 12 0 (0 : Int32) 0 rk ry rn).2.2.2.2.2) ((s_X7_text_L17 ty tp 12 0 (0 : Int32) 0 rk ry rn).2.2.1) 0 0 kd dy nd co od wo).1), ((s_X7_text_L127 ((s_X7_text_L17 ty tp 12 0 (0 : Int32) 0 rk ry rn).2.2.2.1) ((s_X7_text_L17 ty tp 12 0 (0 : Int32) 0 rk ry rn).2.2.2.2.1) ((s_X7_text_L17 ty tp 12 0 (0 : Int32) 0 rk ry rn).2.2.2.2.2) ((s_X7_text_L17 ty tp 12 0 (0 : Int32) 0 rk ry rn).2.2.1) 0 0 kd dy nd co od wo).1), (0 : Int32), (0 : Int32), (11 : Int32), 0, (s_X7_here ty ((s_X7_text_L17 ty tp 12 0 (0 : Int32) 0 rk ry rn).1) tp).2, (0 : Int32), ((s_X7_text_L17 ty tp 12 0 (0 : Int32) 0 rk ry rn).2.2.1), ((s_X7_text_L127 ((s_X7_text_L17 ty tp 12 0 (0 : Int32) 0 rk ry rn).2.2.2.1) ((s_X7_text_L17 ty tp 12 0 (0 : Int32) 0 rk ry rn).2.2.2.2.1) ((s_X7_text_L17 ty tp 12 0 (0 : Int32) 0 rk ry rn).2.2.2.2.2) ((s_X7_text_L17 ty tp 12 0 (0 : Int32) 0 rk ry rn).2.2.1) 0 0 kd dy nd co od wo).2.1), ((s_X7_text_L127 ((s_X7_text_L17 ty tp 12 0 (0 : Int32) 0 rk ry rn).2.2.2.1) ((s_X7_text_L17 ty tp 12 0 (0 : Int32) 0 rk ry rn).2.2.2.2.1) ((s_X7_text_L17 ty tp 12 0 (0 : Int32) 0 rk ry rn).2.2.2.2.2) ((s_X7_text_L17 ty tp 12 0 (0 : Int32) 0 rk ry rn).2.2.1) 0 0 kd dy nd co od wo).2.2.1), ((s_X7_text_L127 ((s_X7_text_L17 ty tp 12 0 (0 : Int32) 0 rk ry rn).2.2.2.1) ((s_X7_text_L17 ty tp 12 0 (0 : Int32) 0 rk ry rn).2.2.2.2.1) ((s_X7_text_L17 ty tp 12 0 (0 : Int32) 0 rk ry rn).2.2.2.2.2) ((s_X7_text_L17 ty tp 12 0 (0 : Int32) 0 rk ry rn).2.2.1) 0 0 kd dy nd co od wo).2.2.2.1), ((s_X7_text_L127 ((s_X7_text_L17 ty tp 12 0 (0 : Int32) 0 rk ry rn).2.2.2.1) ((s_X7_text_L17 ty tp 12 0 (0 : Int32) 0 rk ry rn).2.2.2.2.1) ((s_X7_text_L17 ty tp 12 0 (0 : Int32) 0 rk ry rn).2.2.2.2.2) ((s_X7_text_L17 ty tp 12 0 (0 : Int32) 0 rk ry rn).2.2.1) 0 0 kd dy nd co od wo).2.2.2.2.1), ((s_X7_text_L127 ((s_X7_text_L17 ty tp 12 0 (0 : Int32) 0 rk ry rn).2.2.2.1) ((s_X7_text_L17 ty tp 12 0 (0 : Int32) 0 rk ry rn).2.2.2.2.1) ((s_X7_text_L17 ty tp 12 0 (0 : Int32) 0 rk ry rn).2.2.2.2.2) ((s_X7_text_L17 ty tp 12 0 (0 : Int32) 0 rk ry rn).2.2.1) 0 0 kd dy nd co od wo).2.2.2.2.2.1), ((s_X7_text_L127 ((s_X7_text_L17 ty tp 12 0 (0 : Int32) 0 rk ry rn).2.2.2.1) ((s_X7_text_L17 ty tp 12 0 (0 : Int32) 0 rk ry rn).2.2.2.2.1) ((s_X7_text_L17 ty tp 12 0 (0 : Int32) 0 rk ry rn).2.2.2.2.2) ((s_X7_text_L17 ty tp 12 0 (0 : Int32) 0 rk ry rn).2.2.1) 0 0 kd dy nd co od wo).2.2.2.2.2.2), ((s_X7_text_L17 ty tp 12 0 (0 : Int32) 0 rk ry rn).2.2.2.1), ((s_X7_text_L17 ty tp 12 0 (0 : Int32) 0 rk ry rn).2.2.2.2.1), ((s_X7_text_L17 ty tp 12 0 (0 : Int32) 0 rk ry rn).2.2.2.2.2)) else ((-20 : Int32) - (nI ((s_X7_here ty ((s_X7_text_L17 ty tp 12 0 (0 : Int32) 0 rk ry rn).1) tp).2)), n, la, ri, td, 0, (s_X7_here ty ((s_X7_text_L17 ty tp 12 0 (0 : Int32) 0 rk ry rn).1) tp).2, (1 : Int32), ((s_X7_text_L17 ty tp 12 0 (0 : Int32) 0 rk ry rn).2.2.1), kd, dy, nd, co, od, wo, ((s_X7_text_L17 ty tp 12 0 (0 : Int32) 0 rk ry rn).2.2.2.1), ((s_X7_text_L17 ty tp 12 0 (0 : Int32) 0 rk ry rn).2.2.2.2.1), ((s_X7_text_L17 ty tp 12 0 (0 : Int32) 0 rk ry rn).2.2.2.2.2))) else ((-20 : Int32) - (nI ((s_X7_text_L17 ty tp 12 0 (0 : Int32) 0 rk ry rn).1)), n, la, ri, td, 0, ((s_X7_text_L17 ty tp 12 0 (0 : Int32) 0 rk ry rn).1), (1 : Int32), ((s_X7_text_L17 ty tp 12 0 (0 : Int32) 0 rk ry rn).2.2.1), kd, dy, nd, co, od, wo, ((s_X7_text_L17 ty tp 12 0 (0 : Int32) 0 rk ry rn).2.2.2.1), ((s_X7_text_L17 ty tp 12 0 (0 : Int32) 0 rk ry rn).2.2.2.2.1), ((s_X7_text_L17 ty tp 12 0 (0 : Int32) 0 rk ry rn).2.2.2.2.2))) = V := hv
  refine r_aln C dX7_text_0 rfl 0 rfl ?_
  refine r_ic C (v := (0 : Int32)) dX7_text_1 (by decide) ?_
  refine r_top rfl ?_
  refine pf_X7_141 C (ws2 := wM D o q1 q2 q3 q4 q5 q6 q7 q8 q9 q10 q11 q12 q13 q14 q15 q16 q17 q18 q19 q20 q21 q22 pe n la ri td ys ty 0 wg rd sm bt up lw ii kd dy nd co od wo tp rk ry rn vs bs ch tr en du ol ig ln sz it mo) h0 rfl 0 rfl (Nat.le_of_ble_eq_true rfl) dX7_text_2 rfl rfl ?_
  refine r_aln C dX7_text_5 rfl 0 rfl ?_
  refine r_ic C (v := (0 : Int32)) dX7_text_6 (by decide) ?_
  refine pf_X7_148 C (ws2 := wM D o q1 q2 q3 q4 q5 q6 q7 q8 q9 q10 q11 q12 q13 q14 q15 q16 q17 q18 q19 q20 q21 q22 pe n la ri td ys ty 0 (0 : Int32) rd sm bt up lw ii kd dy nd co od wo tp rk ry rn vs bs ch tr en du ol ig ln sz it mo) h0 rfl 0 rfl (Nat.le_of_ble_eq_true rfl) rfl rfl dX7_text_7 rfl rfl ?_
  refine r_aln C dX7_text_10 rfl 0 rfl ?_
  refine r_ic C (v := (0 : Int32)) dX7_text_11 (by decide) ?_
  refine r_top rfl ?_
  refine pf_X7_156 C (ws2 := wM D o q1 q2 q3 q4 q5 q6 q7 q8 q9 q10 q11 q12 q13 q14 q15 q16 q17 q18 q19 q20 q21 q22 pe n la ri td ys ty 0 (0 : Int32) 0 sm bt up lw ii kd dy nd co od wo tp rk ry rn vs bs ch tr en du ol ig ln sz it mo) h0 rfl 0 rfl (Nat.le_of_ble_eq_true rfl) dX7_text_12 rfl rfl ?_
  refine r_ic C (v := (1 : Int32)) dX7_text_15 (by decide) ?_
  refine r_isn C (lv' := [(1, .int (1 : Int32)), (0, .ref o)]) dX7_text_16 rfl (by decide) rfl ?_
  obtain ⟨Z9, hZ9⟩ : ∃ Z, (s_X7_text_L17 ty tp 12 0 (0 : Int32) 0 rk ry rn) = Z := ⟨_, rfl⟩
  have hFZ9 : (if Z9.2.1 = (0 : Int32) then (if (s_X7_here ty Z9.1 tp).1 = (0 : Int32) then (nI ((s_X7_text_L127 Z9.2.2.2.1 Z9.2.2.2.2.1 Z9.2.2.2.2.2 Z9.2.2.1 0 0 kd dy nd co od wo).1), ((s_X7_text_L127 Z9.2.2.2.1 Z9.2.2.2.2.1 Z9.2.2.2.2.2 Z9.2.2.1 0 0 kd dy nd co od wo).1), (0 : Int32), (0 : Int32), (11 : Int32), 0, (s_X7_here ty Z9.1 tp).2, (0 : Int32), Z9.2.2.1, ((s_X7_text_L127 Z9.2.2.2.1 Z9.2.2.2.2.1 Z9.2.2.2.2.2 Z9.2.2.1 0 0 kd dy nd co od wo).2.1), ((s_X7_text_L127 Z9.2.2.2.1 Z9.2.2.2.2.1 Z9.2.2.2.2.2 Z9.2.2.1 0 0 kd dy nd co od wo).2.2.1), ((s_X7_text_L127 Z9.2.2.2.1 Z9.2.2.2.2.1 Z9.2.2.2.2.2 Z9.2.2.1 0 0 kd dy nd co od wo).2.2.2.1), ((s_X7_text_L127 Z9.2.2.2.1 Z9.2.2.2.2.1 Z9.2.2.2.2.2 Z9.2.2.1 0 0 kd dy nd co od wo).2.2.2.2.1), ((s_X7_text_L127 Z9.2.2.2.1 Z9.2.2.2.2.1 Z9.2.2.2.2.2 Z9.2.2.1 0 0 kd dy nd co od wo).2.2.2.2.2.1), ((s_X7_text_L127 Z9.2.2.2.1 Z9.2.2.2.2.1 Z9.2.2.2.2.2 Z9.2.2.1 0 0 kd dy nd co od wo).2.2.2.2.2.2), Z9.2.2.2.1, Z9.2.2.2.2.1, Z9.2.2.2.2.2) else ((-20 : Int32) - (nI ((s_X7_here ty Z9.1 tp).2)), n, la, ri, td, 0, (s_X7_here ty Z9.1 tp).2, (1 : Int32), Z9.2.2.1, kd, dy, nd, co, od, wo, Z9.2.2.2.1, Z9.2.2.2.2.1, Z9.2.2.2.2.2)) else ((-20 : Int32) - (nI Z9.1), n, la, ri, td, 0, Z9.1, (1 : Int32), Z9.2.2.1, kd, dy, nd, co, od, wo, Z9.2.2.2.1, Z9.2.2.2.2.1, Z9.2.2.2.2.2)) = V := (by subst hZ9; exact hv)
  have X10 : ∀ (ap_3 : Nat) (wg_4 : Int32) (rd_5 : Nat) (rk_6 : Nat → Int32) (ry_7 : Nat → Int32) (rn_8 : Nat → Int32), (ap_3 ≤ ty) → (rd_5 ≤ 12) → (ap_3, wg_4, rd_5, rk_6, ry_7, rn_8) = Z9 → GM p_ l e_ s_ m_ below_ meth_ c_ D 2 51 3 [.ref o] (wM D o q1 q2 q3 q4 q5 q6 q7 q8 q9 q10 q11 q12 q13 q14 q15 q16 q17 q18 q19 q20 q21 q22 pe V.2.1 V.2.2.1 V.2.2.2.1 V.2.2.2.2.1 ys V.2.2.2.2.2.1 V.2.2.2.2.2.2.1 V.2.2.2.2.2.2.2.1 V.2.2.2.2.2.2.2.2.1 sm bt up lw ii V.2.2.2.2.2.2.2.2.2.1 V.2.2.2.2.2.2.2.2.2.2.1 V.2.2.2.2.2.2.2.2.2.2.2.1 V.2.2.2.2.2.2.2.2.2.2.2.2.1 V.2.2.2.2.2.2.2.2.2.2.2.2.2.1 V.2.2.2.2.2.2.2.2.2.2.2.2.2.2.1 tp V.2.2.2.2.2.2.2.2.2.2.2.2.2.2.2.1 V.2.2.2.2.2.2.2.2.2.2.2.2.2.2.2.2.1 V.2.2.2.2.2.2.2.2.2.2.2.2.2.2.2.2.2 vs bs ch tr en du ol ig ln sz it mo) (Ad (wM D o q1 q2 q3 q4 q5 q6 q7 q8 q9 q10 q11 q12 q13 q14 q15 q16 q17 q18 q19 q20 q21 q22 pe n la ri td ys ty ap wg rd sm bt up lw ii kd dy nd co od wo tp rk ry rn vs bs ch tr en du ol ig ln sz it mo)) (some (Value.int V.1)) (wM D o q1 q2 q3 q4 q5 q6 q7 q8 q9 q10 q11 q12 q13 q14 q15 q16 q17 q18 q19 q20 q21 q22 pe n la ri td ys ty ap_3 wg_4 rd_5 sm bt up lw ii kd dy nd co od wo tp rk_6 ry_7 rn_8 vs bs ch tr en du ol ig ln sz it mo) 77 [(0, .ref o)] [] := by
    intro ap_3 wg_4 rd_5 rk_6 ry_7 rn_8 hxa hxr hv
    have hv : (if wg_4 = (0 : Int32) then (if (s_X7_here ty ap_3 tp).1 = (0 : Int32) then (nI ((s_X7_text_L127 rk_6 ry_7 rn_8 rd_5 0 0 kd dy nd co od wo).1), ((s_X7_text_L127 rk_6 ry_7 rn_8 rd_5 0 0 kd dy nd co od wo).1), (0 : Int32), (0 : Int32), (11 : Int32), 0, (s_X7_here ty ap_3 tp).2, (0 : Int32), rd_5, ((s_X7_text_L127 rk_6 ry_7 rn_8 rd_5 0 0 kd dy nd co od wo).2.1), ((s_X7_text_L127 rk_6 ry_7 rn_8 rd_5 0 0 kd dy nd co od wo).2.2.1), ((s_X7_text_L127 rk_6 ry_7 rn_8 rd_5 0 0 kd dy nd co od wo).2.2.2.1), ((s_X7_text_L127 rk_6 ry_7 rn_8 rd_5 0 0 kd dy nd co od wo).2.2.2.2.1), ((s_X7_text_L127 rk_6 ry_7 rn_8 rd_5 0 0 kd dy nd co od wo).2.2.2.2.2.1), ((s_X7_text_L127 rk_6 ry_7 rn_8 rd_5 0 0 kd dy nd co od wo).2.2.2.2.2.2), rk_6, ry_7, rn_8) else ((-20 : Int32) - (nI ((s_X7_here ty ap_3 tp).2)), n, la, ri, td, 0, (s_X7_here ty ap_3 tp).2, (1 : Int32), rd_5, kd, dy, nd, co, od, wo, rk_6, ry_7, rn_8)) else ((-20 : Int32) - (nI ap_3), n, la, ri, td, 0, ap_3, (1 : Int32), rd_5, kd, dy, nd, co, od, wo, rk_6, ry_7, rn_8)) = V := (by subst hv; exact hFZ9)
    refine r_aln C dX7_text_77 rfl 0 rfl ?_
    refine r_aln C dX7_text_78 rfl 0 rfl ?_
    refine gf_X7_148 C 0 rfl rfl dX7_text_79 ?_
    refine r_ifne C (tgt := 92) dX7_text_82 (by decide) (fun c11 => ?_) (fun c11 => ?_)
    · rw [if_neg c11] at hv
      refine r_ic C (v := (1 : Int32)) dX7_text_92 (by decide) ?_
      refine r_goto C (tgt := 97) dX7_text_93 (by decide) ?_
      refine pf_X7_148 C (ws2 := wM D o q1 q2 q3 q4 q5 q6 q7 q8 q9 q10 q11 q12 q13 q14 q15 q16 q17 q18 q19 q20 q21 q22 pe n la ri td ys ty ap_3 (1 : Int32) rd_5 sm bt up lw ii kd dy nd co od wo tp rk_6 ry_7 rn_8 vs bs ch tr en du ol ig ln sz it mo) h0 rfl 0 rfl (Nat.le_of_ble_eq_true rfl) rfl rfl dX7_text_97 rfl rfl ?_
      refine r_aln C dX7_text_100 rfl 0 rfl ?_
      refine r_ic C (v := (0 : Int32)) dX7_text_101 (by decide) ?_
      refine r_top rfl ?_
      refine pf_X7_138 C (ws2 := wM D o q1 q2 q3 q4 q5 q6 q7 q8 q9 q10 q11 q12 q13 q14 q15 q16 q17 q18 q19 q20 q21 q22 pe n la ri td ys 0 ap_3 (1 : Int32) rd_5 sm bt up lw ii kd dy nd co od wo tp rk_6 ry_7 rn_8 vs bs ch tr en du ol ig ln sz it mo) h0 rfl 0 rfl (Nat.le_of_ble_eq_true rfl) dX7_text_102 rfl rfl ?_
      refine r_aln C dX7_text_105 rfl 0 rfl ?_
      refine gf_X7_148 C 0 rfl rfl dX7_text_106 ?_
      refine r_ifeq C (tgt := 120) dX7_text_109 (by decide) (fun c12 => ?_) (fun c12 => ?_)
      · exact absurd c12 (by decide)
      · skip
        refine r_bp C (v := (-20 : Int32)) dX7_text_112 (by decide) ?_
        refine r_aln C dX7_text_114 rfl 0 rfl ?_
        refine gf_X7_141 C 0 rfl rfl dX7_text_115 ?_
        refine r_isub C dX7_text_118 ?_
        exact r_iret rfl C (by rw [← hv]) (by rw [← hv]) dX7_text_119
    · rw [if_pos c11] at hv
      refine r_aln C dX7_text_85 rfl 0 rfl ?_
      refine aft_wa (ws2 := wM D o q1 q2 q3 q4 q5 q6 q7 q8 q9 q10 q11 q12 q13 q14 q15 q16 q17 q18 q19 q20 q21 q22 pe n la ri td ys ty ((s_X7_here ty ap_3 tp).2) wg_4 rd_5 sm bt up lw ii kd dy nd co od wo tp rk_6 ry_7 rn_8 vs bs ch tr en du ol ig ln sz it mo) (st' := [.int ((s_X7_here ty ap_3 tp).1), .ref o]) h0 rfl rfl (run_V (rest := [.ref o]) C (c_X7_here l D o q1 q2 q3 q4 q5 q6 q7 q8 q9 q10 q11 q12 q13 q14 q15 q16 q17 q18 q19 q20 q21 q22 pe n la ri td ys ty ap_3 wg_4 rd_5 sm bt up lw ii kd dy nd co od wo tp rk_6 ry_7 rn_8 vs bs ch tr en du ol ig ln sz it mo (by omega) (by omega) (dis_all h0 rfl)) ok_X7_here wn_X7_here wl_X7_here wm_X7_144 _ 0 rfl rfl rfl ⟨Nat.le_of_ble_eq_true rfl, Nat.le_of_ble_eq_true rfl⟩ fm_all rfl (Nat.le_of_ble_eq_true rfl) dX7_text_86) rfl rfl ?_
      refine r_ifeq C (tgt := 96) dX7_text_89 (by decide) (fun c13 => ?_) (fun c13 => ?_)
      · rw [if_pos c13] at hv
        refine r_ic C (v := (0 : Int32)) dX7_text_96 (by decide) ?_
        refine pf_X7_148 C (ws2 := wM D o q1 q2 q3 q4 q5 q6 q7 q8 q9 q10 q11 q12 q13 q14 q15 q16 q17 q18 q19 q20 q21 q22 pe n la ri td ys ty ((s_X7_here ty ap_3 tp).2) (0 : Int32) rd_5 sm bt up lw ii kd dy nd co od wo tp rk_6 ry_7 rn_8 vs bs ch tr en du ol ig ln sz it mo) h0 rfl 0 rfl (Nat.le_of_ble_eq_true rfl) rfl rfl dX7_text_97 rfl rfl ?_
        refine r_aln C dX7_text_100 rfl 0 rfl ?_
        refine r_ic C (v := (0 : Int32)) dX7_text_101 (by decide) ?_
        refine r_top rfl ?_
        refine pf_X7_138 C (ws2 := wM D o q1 q2 q3 q4 q5 q6 q7 q8 q9 q10 q11 q12 q13 q14 q15 q16 q17 q18 q19 q20 q21 q22 pe n la ri td ys 0 ((s_X7_here ty ap_3 tp).2) (0 : Int32) rd_5 sm bt up lw ii kd dy nd co od wo tp rk_6 ry_7 rn_8 vs bs ch tr en du ol ig ln sz it mo) h0 rfl 0 rfl (Nat.le_of_ble_eq_true rfl) dX7_text_102 rfl rfl ?_
        refine r_aln C dX7_text_105 rfl 0 rfl ?_
        refine gf_X7_148 C 0 rfl rfl dX7_text_106 ?_
        refine r_ifeq C (tgt := 120) dX7_text_109 (by decide) (fun c14 => ?_) (fun c14 => ?_)
        · skip
          refine r_aln C dX7_text_120 rfl 0 rfl ?_
          refine r_ic C (v := (0 : Int32)) dX7_text_121 (by decide) ?_
          refine r_top rfl ?_
          refine pf_X7_84 C (ws2 := wM D o q1 q2 q3 q4 q5 q6 q7 q8 q9 q10 q11 q12 q13 q14 q15 q16 q17 q18 q19 q20 q21 q22 pe 0 la ri td ys 0 ((s_X7_here ty ap_3 tp).2) (0 : Int32) rd_5 sm bt up lw ii kd dy nd co od wo tp rk_6 ry_7 rn_8 vs bs ch tr en du ol ig ln sz it mo) h0 rfl 0 rfl (Nat.le_of_ble_eq_true rfl) dX7_text_122 rfl rfl ?_
          refine r_ic C (v := (0 : Int32)) dX7_text_125 (by decide) ?_
          refine r_isn C (lv' := [(2, .int (0 : Int32)), (0, .ref o)]) dX7_text_126 rfl (by decide) rfl ?_
          obtain ⟨Z24, hZ24⟩ : ∃ Z, (s_X7_text_L127 rk_6 ry_7 rn_8 rd_5 0 0 kd dy nd co od wo) = Z := ⟨_, rfl⟩
          have hFZ24 : (nI Z24.1, Z24.1, (0 : Int32), (0 : Int32), (11 : Int32), 0, (s_X7_here ty ap_3 tp).2, (0 : Int32), rd_5, Z24.2.1, Z24.2.2.1, Z24.2.2.2.1, Z24.2.2.2.2.1, Z24.2.2.2.2.2.1, Z24.2.2.2.2.2.2, rk_6, ry_7, rn_8) = V := (by subst hZ24; exact hv)
          have L28 : ∀ (k15 : Nat) (d16 : Nat) (n_17 : Nat) (kd_18 : Nat → Int32) (dy_19 : Nat → Int32) (nd_20 : Nat → Int32) (co_21 : Nat → Int32) (od_22 : Nat → Int32) (wo_23 : Nat → Int32), (d16 + k15 = rd_5 ∧ n_17 = d16) → (s_X7_text_L127 rk_6 ry_7 rn_8 k15 d16 n_17 kd_18 dy_19 nd_20 co_21 od_22 wo_23) = Z24 → GM p_ l e_ s_ m_ below_ meth_ c_ D 2 51 3 [.ref o] (wM D o q1 q2 q3 q4 q5 q6 q7 q8 q9 q10 q11 q12 q13 q14 q15 q16 q17 q18 q19 q20 q21 q22 pe V.2.1 V.2.2.1 V.2.2.2.1 V.2.2.2.2.1 ys V.2.2.2.2.2.1 V.2.2.2.2.2.2.1 V.2.2.2.2.2.2.2.1 V.2.2.2.2.2.2.2.2.1 sm bt up lw ii V.2.2.2.2.2.2.2.2.2.1 V.2.2.2.2.2.2.2.2.2.2.1 V.2.2.2.2.2.2.2.2.2.2.2.1 V.2.2.2.2.2.2.2.2.2.2.2.2.1 V.2.2.2.2.2.2.2.2.2.2.2.2.2.1 V.2.2.2.2.2.2.2.2.2.2.2.2.2.2.1 tp V.2.2.2.2.2.2.2.2.2.2.2.2.2.2.2.1 V.2.2.2.2.2.2.2.2.2.2.2.2.2.2.2.2.1 V.2.2.2.2.2.2.2.2.2.2.2.2.2.2.2.2.2 vs bs ch tr en du ol ig ln sz it mo) (Ad (wM D o q1 q2 q3 q4 q5 q6 q7 q8 q9 q10 q11 q12 q13 q14 q15 q16 q17 q18 q19 q20 q21 q22 pe n la ri td ys ty ap wg rd sm bt up lw ii kd dy nd co od wo tp rk ry rn vs bs ch tr en du ol ig ln sz it mo)) (some (Value.int V.1)) (wM D o q1 q2 q3 q4 q5 q6 q7 q8 q9 q10 q11 q12 q13 q14 q15 q16 q17 q18 q19 q20 q21 q22 pe n_17 la ri td ys 0 ((s_X7_here ty ap_3 tp).2) (0 : Int32) rd_5 sm bt up lw ii kd_18 dy_19 nd_20 co_21 od_22 wo_23 tp rk_6 ry_7 rn_8 vs bs ch tr en du ol ig ln sz it mo) 127 [(2, .int (nI d16)), (0, .ref o)] [] := by
            intro k15
            induction k15 with
            | zero =>
              intro d16 n_17 kd_18 dy_19 nd_20 co_21 od_22 wo_23 hk hv
              have hv : (n_17, kd_18, dy_19, nd_20, co_21, od_22, wo_23) = Z24 := hv
              have hv : (nI n_17, n_17, (0 : Int32), (0 : Int32), (11 : Int32), 0, (s_X7_here ty ap_3 tp).2, (0 : Int32), rd_5, kd_18, dy_19, nd_20, co_21, od_22, wo_23, rk_6, ry_7, rn_8) = V := (by subst hv; exact hFZ24)
              refine r_iln C dX7_text_127 rfl 0 rfl ?_
              refine r_aln C dX7_text_128 rfl 1 rfl ?_
              refine gf_X7_156 C 0 rfl rfl dX7_text_129 ?_
              refine r_icge C (tgt := 163) dX7_text_132 (by decide) (fun c25 => ?_) (fun c25 => ?_)
              · skip
                refine r_aln C dX7_text_163 rfl 1 rfl ?_
                refine r_ic C (v := (0 : Int32)) dX7_text_164 (by decide) ?_
                refine pf_X7_116 C (ws2 := wM D o q1 q2 q3 q4 q5 q6 q7 q8 q9 q10 q11 q12 q13 q14 q15 q16 q17 q18 q19 q20 q21 q22 pe n_17 (0 : Int32) ri td ys 0 ((s_X7_here ty ap_3 tp).2) (0 : Int32) rd_5 sm bt up lw ii kd_18 dy_19 nd_20 co_21 od_22 wo_23 tp rk_6 ry_7 rn_8 vs bs ch tr en du ol ig ln sz it mo) h0 rfl 0 rfl (Nat.le_of_ble_eq_true rfl) dX7_text_165 rfl rfl ?_
                refine r_aln C dX7_text_168 rfl 1 rfl ?_
                refine r_ic C (v := (0 : Int32)) dX7_text_169 (by decide) ?_
                refine pf_X7_113 C (ws2 := wM D o q1 q2 q3 q4 q5 q6 q7 q8 q9 q10 q11 q12 q13 q14 q15 q16 q17 q18 q19 q20 q21 q22 pe n_17 (0 : Int32) (0 : Int32) td ys 0 ((s_X7_here ty ap_3 tp).2) (0 : Int32) rd_5 sm bt up lw ii kd_18 dy_19 nd_20 co_21 od_22 wo_23 tp rk_6 ry_7 rn_8 vs bs ch tr en du ol ig ln sz it mo) h0 rfl 0 rfl (Nat.le_of_ble_eq_true rfl) dX7_text_170 rfl rfl ?_
                refine r_aln C dX7_text_173 rfl 1 rfl ?_
                refine r_bp C (v := (11 : Int32)) dX7_text_174 (by decide) ?_
                refine pf_X7_81 C (ws2 := wM D o q1 q2 q3 q4 q5 q6 q7 q8 q9 q10 q11 q12 q13 q14 q15 q16 q17 q18 q19 q20 q21 q22 pe n_17 (0 : Int32) (0 : Int32) (11 : Int32) ys 0 ((s_X7_here ty ap_3 tp).2) (0 : Int32) rd_5 sm bt up lw ii kd_18 dy_19 nd_20 co_21 od_22 wo_23 tp rk_6 ry_7 rn_8 vs bs ch tr en du ol ig ln sz it mo) h0 rfl 0 rfl (Nat.le_of_ble_eq_true rfl) dX7_text_176 rfl rfl ?_
                refine r_aln C dX7_text_179 rfl 1 rfl ?_
                refine gf_X7_84 C 0 rfl rfl dX7_text_180 ?_
                exact r_iret rfl C (by rw [← hv]) (by rw [← hv]) dX7_text_183
              · exact absurd c25 (fun z => absurd ((nv_lt (a := d16) (b := rd_5) rfl rfl (by omega) (by omega)).mp z) (by omega))
            | succ k15 ih26 =>
              intro d16 n_17 kd_18 dy_19 nd_20 co_21 od_22 wo_23 hk hv
              have hv : (s_X7_text_L127 rk_6 ry_7 rn_8 k15 (d16 + 1) ((s_X7_adds n_17 kd_18 dy_19 nd_20 co_21 od_22 wo_23 (rk_6 d16) (ry_7 d16) (rn_8 d16)).1) ((s_X7_adds n_17 kd_18 dy_19 nd_20 co_21 od_22 wo_23 (rk_6 d16) (ry_7 d16) (rn_8 d16)).2.1) ((s_X7_adds n_17 kd_18 dy_19 nd_20 co_21 od_22 wo_23 (rk_6 d16) (ry_7 d16) (rn_8 d16)).2.2.1) ((s_X7_adds n_17 kd_18 dy_19 nd_20 co_21 od_22 wo_23 (rk_6 d16) (ry_7 d16) (rn_8 d16)).2.2.2.1) ((s_X7_adds n_17 kd_18 dy_19 nd_20 co_21 od_22 wo_23 (rk_6 d16) (ry_7 d16) (rn_8 d16)).2.2.2.2.1) ((s_X7_adds n_17 kd_18 dy_19 nd_20 co_21 od_22 wo_23 (rk_6 d16) (ry_7 d16) (rn_8 d16)).2.2.2.2.2.1) ((s_X7_adds n_17 kd_18 dy_19 nd_20 co_21 od_22 wo_23 (rk_6 d16) (ry_7 d16) (rn_8 d16)).2.2.2.2.2.2)) = Z24 := hv
              refine r_iln C dX7_text_127 rfl 0 rfl ?_
              refine r_aln C dX7_text_128 rfl 1 rfl ?_
              refine gf_X7_156 C 0 rfl rfl dX7_text_129 ?_
              refine r_icge C (tgt := 163) dX7_text_132 (by decide) (fun c27 => ?_) (fun c27 => ?_)
              · exact absurd ((nv_lt (a := d16) (b := rd_5) rfl rfl (by omega) (by omega)).mpr (by omega)) c27
              · skip
                refine r_aln C dX7_text_135 rfl 1 rfl ?_
                refine r_aln C dX7_text_136 rfl 1 rfl ?_
                refine gf_X7_31 C 0 rfl rfl dX7_text_137 ?_
                refine r_iln C dX7_text_140 rfl 0 rfl ?_
                refine r_iald C 8 d16 rfl rfl (by omega) (by decide) rfl dX7_text_141 ?_
                refine r_aln C dX7_text_142 rfl 1 rfl ?_
                refine gf_X7_34 C 0 rfl rfl dX7_text_143 ?_
                refine r_iln C dX7_text_146 rfl 0 rfl ?_
                refine r_iald C 9 d16 rfl rfl (by omega) (by decide) rfl dX7_text_147 ?_
                refine r_aln C dX7_text_148 rfl 1 rfl ?_
                refine gf_X7_37 C 0 rfl rfl dX7_text_149 ?_
                refine r_iln C dX7_text_152 rfl 0 rfl ?_
                refine r_iald C 10 d16 rfl rfl (by omega) (by decide) rfl dX7_text_153 ?_
                refine aft_wa (ws2 := wM D o q1 q2 q3 q4 q5 q6 q7 q8 q9 q10 q11 q12 q13 q14 q15 q16 q17 q18 q19 q20 q21 q22 pe ((s_X7_adds n_17 kd_18 dy_19 nd_20 co_21 od_22 wo_23 (rk_6 d16) (ry_7 d16) (rn_8 d16)).1) la ri td ys 0 ((s_X7_here ty ap_3 tp).2) (0 : Int32) rd_5 sm bt up lw ii ((s_X7_adds n_17 kd_18 dy_19 nd_20 co_21 od_22 wo_23 (rk_6 d16) (ry_7 d16) (rn_8 d16)).2.1) ((s_X7_adds n_17 kd_18 dy_19 nd_20 co_21 od_22 wo_23 (rk_6 d16) (ry_7 d16) (rn_8 d16)).2.2.1) ((s_X7_adds n_17 kd_18 dy_19 nd_20 co_21 od_22 wo_23 (rk_6 d16) (ry_7 d16) (rn_8 d16)).2.2.2.1) ((s_X7_adds n_17 kd_18 dy_19 nd_20 co_21 od_22 wo_23 (rk_6 d16) (ry_7 d16) (rn_8 d16)).2.2.2.2.1) ((s_X7_adds n_17 kd_18 dy_19 nd_20 co_21 od_22 wo_23 (rk_6 d16) (ry_7 d16) (rn_8 d16)).2.2.2.2.2.1) ((s_X7_adds n_17 kd_18 dy_19 nd_20 co_21 od_22 wo_23 (rk_6 d16) (ry_7 d16) (rn_8 d16)).2.2.2.2.2.2) tp rk_6 ry_7 rn_8 vs bs ch tr en du ol ig ln sz it mo) (st' := []) h0 rfl rfl (run_V (rest := []) C (c_X7_adds l D o q1 q2 q3 q4 q5 q6 q7 q8 q9 q10 q11 q12 q13 q14 q15 q16 q17 q18 q19 q20 q21 q22 pe n_17 la ri td ys 0 ((s_X7_here ty ap_3 tp).2) (0 : Int32) rd_5 sm bt up lw ii kd_18 dy_19 nd_20 co_21 od_22 wo_23 tp rk_6 ry_7 rn_8 vs bs ch tr en du ol ig ln sz it mo (rk_6 d16) (ry_7 d16) (rn_8 d16) (by omega) (dis_all h0 rfl)) ok_X7_adds wn_X7_adds wl_X7_adds wm_X7_101 _ 0 rfl rfl rfl ⟨Nat.le_of_ble_eq_true rfl, Nat.le_of_ble_eq_true rfl⟩ fm_all rfl (Nat.le_of_ble_eq_true rfl) dX7_text_154) rfl rfl ?_
                have hn1 : ((s_X7_adds n_17 kd_18 dy_19 nd_20 co_21 od_22 wo_23 (rk_6 d16) (ry_7 d16) (rn_8 d16)).1) = _ + 1 := adds_1
                refine r_inc C (v := nI (d16 + 1)) (lv' := [(2, .int (nI (d16 + 1))), (0, .ref o)]) dX7_text_157 0 rfl (inc_nI d16) (by decide) rfl ?_
                refine r_goto C (tgt := 127) dX7_text_160 (by decide) ?_
                exact ih26 (d16 + 1) ((s_X7_adds n_17 kd_18 dy_19 nd_20 co_21 od_22 wo_23 (rk_6 d16) (ry_7 d16) (rn_8 d16)).1) ((s_X7_adds n_17 kd_18 dy_19 nd_20 co_21 od_22 wo_23 (rk_6 d16) (ry_7 d16) (rn_8 d16)).2.1) ((s_X7_adds n_17 kd_18 dy_19 nd_20 co_21 od_22 wo_23 (rk_6 d16) (ry_7 d16) (rn_8 d16)).2.2.1) ((s_X7_adds n_17 kd_18 dy_19 nd_20 co_21 od_22 wo_23 (rk_6 d16) (ry_7 d16) (rn_8 d16)).2.2.2.1) ((s_X7_adds n_17 kd_18 dy_19 nd_20 co_21 od_22 wo_23 (rk_6 d16) (ry_7 d16) (rn_8 d16)).2.2.2.2.1) ((s_X7_adds n_17 kd_18 dy_19 nd_20 co_21 od_22 wo_23 (rk_6 d16) (ry_7 d16) (rn_8 d16)).2.2.2.2.2.1) ((s_X7_adds n_17 kd_18 dy_19 nd_20 co_21 od_22 wo_23 (rk_6 d16) (ry_7 d16) (rn_8 d16)).2.2.2.2.2.2) (by omega) hv
          refine r_lve (lv2 := [(2, .int (nI 0)), (0, .ref o)]) (congrArg (fun (z : Int32) => ([(2, .int z), (0, .ref o)] : List (Nat × Value))) rfl) ?_
          exact L28 rd_5 0 0 kd dy nd co od wo (by omega) hZ24
        · exact absurd (by decide) c14
      · rw [if_neg c13] at hv
        refine r_ic C (v := (1 : Int32)) dX7_text_92 (by decide) ?_
        refine r_goto C (tgt := 97) dX7_text_93 (by decide) ?_
        refine pf_X7_148 C (ws2 := wM D o q1 q2 q3 q4 q5 q6 q7 q8 q9 q10 q11 q12 q13 q14 q15 q16 q17 q18 q19 q20 q21 q22 pe n la ri td ys ty ((s_X7_here ty ap_3 tp).2) (1 : Int32) rd_5 sm bt up lw ii kd dy nd co od wo tp rk_6 ry_7 rn_8 vs bs ch tr en du ol ig ln sz it mo) h0 rfl 0 rfl (Nat.le_of_ble_eq_true rfl) rfl rfl dX7_text_97 rfl rfl ?_
        refine r_aln C dX7_text_100 rfl 0 rfl ?_
        refine r_ic C (v := (0 : Int32)) dX7_text_101 (by decide) ?_
        refine r_top rfl ?_
        refine pf_X7_138 C (ws2 := wM D o q1 q2 q3 q4 q5 q6 q7 q8 q9 q10 q11 q12 q13 q14 q15 q16 q17 q18 q19 q20 q21 q22 pe n la ri td ys 0 ((s_X7_here ty ap_3 tp).2) (1 : Int32) rd_5 sm bt up lw ii kd dy nd co od wo tp rk_6 ry_7 rn_8 vs bs ch tr en du ol ig ln sz it mo) h0 rfl 0 rfl (Nat.le_of_ble_eq_true rfl) dX7_text_102 rfl rfl ?_
        refine r_aln C dX7_text_105 rfl 0 rfl ?_
        refine gf_X7_148 C 0 rfl rfl dX7_text_106 ?_
        refine r_ifeq C (tgt := 120) dX7_text_109 (by decide) (fun c29 => ?_) (fun c29 => ?_)
        · exact absurd c29 (by decide)
        · skip
          refine r_bp C (v := (-20 : Int32)) dX7_text_112 (by decide) ?_
          refine r_aln C dX7_text_114 rfl 0 rfl ?_
          refine gf_X7_141 C 0 rfl rfl dX7_text_115 ?_
          refine r_isub C dX7_text_118 ?_
          exact r_iret rfl C (by rw [← hv]) (by rw [← hv]) dX7_text_119
  have L42 : ∀ (k1 : Nat) (ap_3 : Nat) (wg_4 : Int32) (rd_5 : Nat) (rk_6 : Nat → Int32) (ry_7 : Nat → Int32) (rn_8 : Nat → Int32), (ap_3 ≤ ty ∧ rd_5 < 12 ∧ 12 ≤ rd_5 + k1) → (s_X7_text_L17 ty tp k1 ap_3 wg_4 rd_5 rk_6 ry_7 rn_8) = Z9 → GM p_ l e_ s_ m_ below_ meth_ c_ D 2 51 3 [.ref o] (wM D o q1 q2 q3 q4 q5 q6 q7 q8 q9 q10 q11 q12 q13 q14 q15 q16 q17 q18 q19 q20 q21 q22 pe V.2.1 V.2.2.1 V.2.2.2.1 V.2.2.2.2.1 ys V.2.2.2.2.2.1 V.2.2.2.2.2.2.1 V.2.2.2.2.2.2.2.1 V.2.2.2.2.2.2.2.2.1 sm bt up lw ii V.2.2.2.2.2.2.2.2.2.1 V.2.2.2.2.2.2.2.2.2.2.1 V.2.2.2.2.2.2.2.2.2.2.2.1 V.2.2.2.2.2.2.2.2.2.2.2.2.1 V.2.2.2.2.2.2.2.2.2.2.2.2.2.1 V.2.2.2.2.2.2.2.2.2.2.2.2.2.2.1 tp V.2.2.2.2.2.2.2.2.2.2.2.2.2.2.2.1 V.2.2.2.2.2.2.2.2.2.2.2.2.2.2.2.2.1 V.2.2.2.2.2.2.2.2.2.2.2.2.2.2.2.2.2 vs bs ch tr en du ol ig ln sz it mo) (Ad (wM D o q1 q2 q3 q4 q5 q6 q7 q8 q9 q10 q11 q12 q13 q14 q15 q16 q17 q18 q19 q20 q21 q22 pe n la ri td ys ty ap wg rd sm bt up lw ii kd dy nd co od wo tp rk ry rn vs bs ch tr en du ol ig ln sz it mo)) (some (Value.int V.1)) (wM D o q1 q2 q3 q4 q5 q6 q7 q8 q9 q10 q11 q12 q13 q14 q15 q16 q17 q18 q19 q20 q21 q22 pe n la ri td ys ty ap_3 wg_4 rd_5 sm bt up lw ii kd dy nd co od wo tp rk_6 ry_7 rn_8 vs bs ch tr en du ol ig ln sz it mo) 17 [(1, .int (1 : Int32)), (0, .ref o)] [] := by
    intro k1
    induction k1 with
    | zero =>
      intro ap_3 wg_4 rd_5 rk_6 ry_7 rn_8 hk hv
      exact absurd hk (by omega)
    | succ k1 ih30 =>
      intro ap_3 wg_4 rd_5 rk_6 ry_7 rn_8 hk hv
      have hv : (if (s_X7_readDeed ty ap_3 rd_5 tp rk_6 ry_7 rn_8).2.1 = (0 : Int32) then (if nI ((s_X7_readDeed ty ap_3 rd_5 tp rk_6 ry_7 rn_8).2.2.1) < (12 : Int32) then (if (s_X7_here ty ((s_X7_readDeed ty ap_3 rd_5 tp rk_6 ry_7 rn_8).1) tp).1 = (44 : Int32) then (s_X7_text_L17 ty tp k1 (((s_X7_here ty ((s_X7_readDeed ty ap_3 rd_5 tp rk_6 ry_7 rn_8).1) tp).2) + 1) ((s_X7_readDeed ty ap_3 rd_5 tp rk_6 ry_7 rn_8).2.1) ((s_X7_readDeed ty ap_3 rd_5 tp rk_6 ry_7 rn_8).2.2.1) ((s_X7_readDeed ty ap_3 rd_5 tp rk_6 ry_7 rn_8).2.2.2.1) ((s_X7_readDeed ty ap_3 rd_5 tp rk_6 ry_7 rn_8).2.2.2.2.1) ((s_X7_readDeed ty ap_3 rd_5 tp rk_6 ry_7 rn_8).2.2.2.2.2)) else (((s_X7_here ty ((s_X7_readDeed ty ap_3 rd_5 tp rk_6 ry_7 rn_8).1) tp).2) + 0, (s_X7_readDeed ty ap_3 rd_5 tp rk_6 ry_7 rn_8).2.1, (s_X7_readDeed ty ap_3 rd_5 tp rk_6 ry_7 rn_8).2.2.1, (s_X7_readDeed ty ap_3 rd_5 tp rk_6 ry_7 rn_8).2.2.2.1, (s_X7_readDeed ty ap_3 rd_5 tp rk_6 ry_7 rn_8).2.2.2.2.1, (s_X7_readDeed ty ap_3 rd_5 tp rk_6 ry_7 rn_8).2.2.2.2.2)) else (((s_X7_readDeed ty ap_3 rd_5 tp rk_6 ry_7 rn_8).1) + 0, (s_X7_readDeed ty ap_3 rd_5 tp rk_6 ry_7 rn_8).2.1, (s_X7_readDeed ty ap_3 rd_5 tp rk_6 ry_7 rn_8).2.2.1, (s_X7_readDeed ty ap_3 rd_5 tp rk_6 ry_7 rn_8).2.2.2.1, (s_X7_readDeed ty ap_3 rd_5 tp rk_6 ry_7 rn_8).2.2.2.2.1, (s_X7_readDeed ty ap_3 rd_5 tp rk_6 ry_7 rn_8).2.2.2.2.2)) else (((s_X7_readDeed ty ap_3 rd_5 tp rk_6 ry_7 rn_8).1) + 0, (s_X7_readDeed ty ap_3 rd_5 tp rk_6 ry_7 rn_8).2.1, (s_X7_readDeed ty ap_3 rd_5 tp rk_6 ry_7 rn_8).2.2.1, (s_X7_readDeed ty ap_3 rd_5 tp rk_6 ry_7 rn_8).2.2.2.1, (s_X7_readDeed ty ap_3 rd_5 tp rk_6 ry_7 rn_8).2.2.2.2.1, (s_X7_readDeed ty ap_3 rd_5 tp rk_6 ry_7 rn_8).2.2.2.2.2)) = Z9 := hv
      refine r_iln C dX7_text_17 rfl 0 rfl ?_
      refine r_ifeq C (tgt := 77) dX7_text_18 (by decide) (fun c31 => ?_) (fun c31 => ?_)
      · exact absurd c31 (by decide)
      · skip
        refine r_aln C dX7_text_21 rfl 1 rfl ?_
        refine aft_wa (ws2 := wM D o q1 q2 q3 q4 q5 q6 q7 q8 q9 q10 q11 q12 q13 q14 q15 q16 q17 q18 q19 q20 q21 q22 pe n la ri td ys ty ((s_X7_readDeed ty ap_3 rd_5 tp rk_6 ry_7 rn_8).1) ((s_X7_readDeed ty ap_3 rd_5 tp rk_6 ry_7 rn_8).2.1) ((s_X7_readDeed ty ap_3 rd_5 tp rk_6 ry_7 rn_8).2.2.1) sm bt up lw ii kd dy nd co od wo tp ((s_X7_readDeed ty ap_3 rd_5 tp rk_6 ry_7 rn_8).2.2.2.1) ((s_X7_readDeed ty ap_3 rd_5 tp rk_6 ry_7 rn_8).2.2.2.2.1) ((s_X7_readDeed ty ap_3 rd_5 tp rk_6 ry_7 rn_8).2.2.2.2.2) vs bs ch tr en du ol ig ln sz it mo) (st' := []) h0 rfl rfl (run_V (rest := []) C (c_X7_readDeed l D o q1 q2 q3 q4 q5 q6 q7 q8 q9 q10 q11 q12 q13 q14 q15 q16 q17 q18 q19 q20 q21 q22 pe n la ri td ys ty ap_3 wg_4 rd_5 sm bt up lw ii kd dy nd co od wo tp rk_6 ry_7 rn_8 vs bs ch tr en du ol ig ln sz it mo (by omega) (by omega) (by omega) (dis_all h0 rfl)) ok_X7_readDeed wn_X7_readDeed wl_X7_readDeed wm_X7_159 _ 0 rfl rfl rfl ⟨Nat.le_of_ble_eq_true rfl, Nat.le_of_ble_eq_true rfl⟩ fm_all rfl (Nat.le_of_ble_eq_true rfl) dX7_text_22) rfl rfl ?_
        have hrd2 : ((s_X7_readDeed ty ap_3 rd_5 tp rk_6 ry_7 rn_8).2.2.1) = _ + 1 := readDeed_rd
        have hap2 : ((s_X7_readDeed ty ap_3 rd_5 tp rk_6 ry_7 rn_8).1) ≤ ty := readDeed_ap hty (by omega)
        refine r_aln C dX7_text_25 rfl 1 rfl ?_
        refine gf_X7_148 C 0 rfl rfl dX7_text_26 ?_
        refine r_ifne C (tgt := 54) dX7_text_29 (by decide) (fun c32 => ?_) (fun c32 => ?_)
        · rw [if_neg c32] at hv
          refine r_ic C (v := (0 : Int32)) dX7_text_54 (by decide) ?_
          refine r_isn C (lv' := [(1, .int (0 : Int32)), (0, .ref o)]) dX7_text_55 rfl (by decide) rfl ?_
          refine r_aln C dX7_text_56 rfl 1 rfl ?_
          refine r_dup C dX7_text_57 rfl ?_
          refine gf_X7_141 C 0 rfl rfl dX7_text_58 ?_
          refine r_iln C dX7_text_61 rfl 0 rfl ?_
          refine r_ifeq C (tgt := 69) dX7_text_62 (by decide) (fun c33 => ?_) (fun c33 => ?_)
          · skip
            refine r_ic C (v := (0 : Int32)) dX7_text_69 (by decide) ?_
            refine r_iadd C dX7_text_70 ?_
            refine r_top (nv_add rfl rfl) ?_
            refine pf_X7_141 C (ws2 := wM D o q1 q2 q3 q4 q5 q6 q7 q8 q9 q10 q11 q12 q13 q14 q15 q16 q17 q18 q19 q20 q21 q22 pe n la ri td ys ty (((s_X7_readDeed ty ap_3 rd_5 tp rk_6 ry_7 rn_8).1) + 0) ((s_X7_readDeed ty ap_3 rd_5 tp rk_6 ry_7 rn_8).2.1) ((s_X7_readDeed ty ap_3 rd_5 tp rk_6 ry_7 rn_8).2.2.1) sm bt up lw ii kd dy nd co od wo tp ((s_X7_readDeed ty ap_3 rd_5 tp rk_6 ry_7 rn_8).2.2.2.1) ((s_X7_readDeed ty ap_3 rd_5 tp rk_6 ry_7 rn_8).2.2.2.2.1) ((s_X7_readDeed ty ap_3 rd_5 tp rk_6 ry_7 rn_8).2.2.2.2.2) vs bs ch tr en du ol ig ln sz it mo) h0 rfl 0 rfl (Nat.le_of_ble_eq_true rfl) dX7_text_71 rfl rfl ?_
            refine r_goto C (tgt := 17) dX7_text_74 (by decide) ?_
            refine r_iln C dX7_text_17 rfl 0 rfl ?_
            refine r_ifeq C (tgt := 77) dX7_text_18 (by decide) (fun c34 => ?_) (fun c34 => ?_)
            · skip
              refine r_lv [1] rfl ?_
              exact X10 (((s_X7_readDeed ty ap_3 rd_5 tp rk_6 ry_7 rn_8).1) + 0) ((s_X7_readDeed ty ap_3 rd_5 tp rk_6 ry_7 rn_8).2.1) ((s_X7_readDeed ty ap_3 rd_5 tp rk_6 ry_7 rn_8).2.2.1) ((s_X7_readDeed ty ap_3 rd_5 tp rk_6 ry_7 rn_8).2.2.2.1) ((s_X7_readDeed ty ap_3 rd_5 tp rk_6 ry_7 rn_8).2.2.2.2.1) ((s_X7_readDeed ty ap_3 rd_5 tp rk_6 ry_7 rn_8).2.2.2.2.2) (by omega) (by omega) hv
            · exact absurd (by decide) c34
          · exact absurd (by decide) c33
        · rw [if_pos c32] at hv
          refine r_aln C dX7_text_32 rfl 1 rfl ?_
          refine gf_X7_156 C 0 rfl rfl dX7_text_33 ?_
          refine r_bp C (v := (12 : Int32)) dX7_text_36 (by decide) ?_
          refine r_icge C (tgt := 54) dX7_text_38 (by decide) (fun c35 => ?_) (fun c35 => ?_)
          · rw [if_neg c35] at hv
            have fc35 : ¬ ((s_X7_readDeed ty ap_3 rd_5 tp rk_6 ry_7 rn_8).2.2.1 < 12) := fun z => c35 ((nv_lt (a := (s_X7_readDeed ty ap_3 rd_5 tp rk_6 ry_7 rn_8).2.2.1) (b := 12) rfl rfl (by omega) (by omega)).mpr z)
            refine r_ic C (v := (0 : Int32)) dX7_text_54 (by decide) ?_
            refine r_isn C (lv' := [(1, .int (0 : Int32)), (0, .ref o)]) dX7_text_55 rfl (by decide) rfl ?_
            refine r_aln C dX7_text_56 rfl 1 rfl ?_
            refine r_dup C dX7_text_57 rfl ?_
            refine gf_X7_141 C 0 rfl rfl dX7_text_58 ?_
            refine r_iln C dX7_text_61 rfl 0 rfl ?_
            refine r_ifeq C (tgt := 69) dX7_text_62 (by decide) (fun c36 => ?_) (fun c36 => ?_)
            · skip
              refine r_ic C (v := (0 : Int32)) dX7_text_69 (by decide) ?_
              refine r_iadd C dX7_text_70 ?_
              refine r_top (nv_add rfl rfl) ?_
              refine pf_X7_141 C (ws2 := wM D o q1 q2 q3 q4 q5 q6 q7 q8 q9 q10 q11 q12 q13 q14 q15 q16 q17 q18 q19 q20 q21 q22 pe n la ri td ys ty (((s_X7_readDeed ty ap_3 rd_5 tp rk_6 ry_7 rn_8).1) + 0) ((s_X7_readDeed ty ap_3 rd_5 tp rk_6 ry_7 rn_8).2.1) ((s_X7_readDeed ty ap_3 rd_5 tp rk_6 ry_7 rn_8).2.2.1) sm bt up lw ii kd dy nd co od wo tp ((s_X7_readDeed ty ap_3 rd_5 tp rk_6 ry_7 rn_8).2.2.2.1) ((s_X7_readDeed ty ap_3 rd_5 tp rk_6 ry_7 rn_8).2.2.2.2.1) ((s_X7_readDeed ty ap_3 rd_5 tp rk_6 ry_7 rn_8).2.2.2.2.2) vs bs ch tr en du ol ig ln sz it mo) h0 rfl 0 rfl (Nat.le_of_ble_eq_true rfl) dX7_text_71 rfl rfl ?_
              refine r_goto C (tgt := 17) dX7_text_74 (by decide) ?_
              refine r_iln C dX7_text_17 rfl 0 rfl ?_
              refine r_ifeq C (tgt := 77) dX7_text_18 (by decide) (fun c37 => ?_) (fun c37 => ?_)
              · skip
                refine r_lv [1] rfl ?_
                exact X10 (((s_X7_readDeed ty ap_3 rd_5 tp rk_6 ry_7 rn_8).1) + 0) ((s_X7_readDeed ty ap_3 rd_5 tp rk_6 ry_7 rn_8).2.1) ((s_X7_readDeed ty ap_3 rd_5 tp rk_6 ry_7 rn_8).2.2.1) ((s_X7_readDeed ty ap_3 rd_5 tp rk_6 ry_7 rn_8).2.2.2.1) ((s_X7_readDeed ty ap_3 rd_5 tp rk_6 ry_7 rn_8).2.2.2.2.1) ((s_X7_readDeed ty ap_3 rd_5 tp rk_6 ry_7 rn_8).2.2.2.2.2) (by omega) (by omega) hv
              · exact absurd (by decide) c37
            · exact absurd (by decide) c36
          · rw [if_pos c35] at hv
            have fc35 : (s_X7_readDeed ty ap_3 rd_5 tp rk_6 ry_7 rn_8).2.2.1 < 12 := (nv_lt (a := (s_X7_readDeed ty ap_3 rd_5 tp rk_6 ry_7 rn_8).2.2.1) (b := 12) rfl rfl (by omega) (by omega)).mp c35
            refine r_aln C dX7_text_41 rfl 1 rfl ?_
            refine aft_wa (ws2 := wM D o q1 q2 q3 q4 q5 q6 q7 q8 q9 q10 q11 q12 q13 q14 q15 q16 q17 q18 q19 q20 q21 q22 pe n la ri td ys ty ((s_X7_here ty ((s_X7_readDeed ty ap_3 rd_5 tp rk_6 ry_7 rn_8).1) tp).2) ((s_X7_readDeed ty ap_3 rd_5 tp rk_6 ry_7 rn_8).2.1) ((s_X7_readDeed ty ap_3 rd_5 tp rk_6 ry_7 rn_8).2.2.1) sm bt up lw ii kd dy nd co od wo tp ((s_X7_readDeed ty ap_3 rd_5 tp rk_6 ry_7 rn_8).2.2.2.1) ((s_X7_readDeed ty ap_3 rd_5 tp rk_6 ry_7 rn_8).2.2.2.2.1) ((s_X7_readDeed ty ap_3 rd_5 tp rk_6 ry_7 rn_8).2.2.2.2.2) vs bs ch tr en du ol ig ln sz it mo) (st' := [.int ((s_X7_here ty ((s_X7_readDeed ty ap_3 rd_5 tp rk_6 ry_7 rn_8).1) tp).1)]) h0 rfl rfl (run_V (rest := []) C (c_X7_here l D o q1 q2 q3 q4 q5 q6 q7 q8 q9 q10 q11 q12 q13 q14 q15 q16 q17 q18 q19 q20 q21 q22 pe n la ri td ys ty ((s_X7_readDeed ty ap_3 rd_5 tp rk_6 ry_7 rn_8).1) ((s_X7_readDeed ty ap_3 rd_5 tp rk_6 ry_7 rn_8).2.1) ((s_X7_readDeed ty ap_3 rd_5 tp rk_6 ry_7 rn_8).2.2.1) sm bt up lw ii kd dy nd co od wo tp ((s_X7_readDeed ty ap_3 rd_5 tp rk_6 ry_7 rn_8).2.2.2.1) ((s_X7_readDeed ty ap_3 rd_5 tp rk_6 ry_7 rn_8).2.2.2.2.1) ((s_X7_readDeed ty ap_3 rd_5 tp rk_6 ry_7 rn_8).2.2.2.2.2) vs bs ch tr en du ol ig ln sz it mo (by omega) (by omega) (dis_all h0 rfl)) ok_X7_here wn_X7_here wl_X7_here wm_X7_144 _ 0 rfl rfl rfl ⟨Nat.le_of_ble_eq_true rfl, Nat.le_of_ble_eq_true rfl⟩ fm_all rfl (Nat.le_of_ble_eq_true rfl) dX7_text_42) rfl rfl ?_
            have hap3 : ((s_X7_here ty ((s_X7_readDeed ty ap_3 rd_5 tp rk_6 ry_7 rn_8).1) tp).2) ≤ ty := here_le (by omega)
            refine r_bp C (v := (44 : Int32)) dX7_text_45 (by decide) ?_
            refine r_icne C (tgt := 54) dX7_text_47 (by decide) (fun c38 => ?_) (fun c38 => ?_)
            · rw [if_neg c38] at hv
              refine r_ic C (v := (0 : Int32)) dX7_text_54 (by decide) ?_
              refine r_isn C (lv' := [(1, .int (0 : Int32)), (0, .ref o)]) dX7_text_55 rfl (by decide) rfl ?_
              refine r_aln C dX7_text_56 rfl 1 rfl ?_
              refine r_dup C dX7_text_57 rfl ?_
              refine gf_X7_141 C 0 rfl rfl dX7_text_58 ?_
              refine r_iln C dX7_text_61 rfl 0 rfl ?_
              refine r_ifeq C (tgt := 69) dX7_text_62 (by decide) (fun c39 => ?_) (fun c39 => ?_)
              · skip
                refine r_ic C (v := (0 : Int32)) dX7_text_69 (by decide) ?_
                refine r_iadd C dX7_text_70 ?_
                refine r_top (nv_add rfl rfl) ?_
                refine pf_X7_141 C (ws2 := wM D o q1 q2 q3 q4 q5 q6 q7 q8 q9 q10 q11 q12 q13 q14 q15 q16 q17 q18 q19 q20 q21 q22 pe n la ri td ys ty (((s_X7_here ty ((s_X7_readDeed ty ap_3 rd_5 tp rk_6 ry_7 rn_8).1) tp).2) + 0) ((s_X7_readDeed ty ap_3 rd_5 tp rk_6 ry_7 rn_8).2.1) ((s_X7_readDeed ty ap_3 rd_5 tp rk_6 ry_7 rn_8).2.2.1) sm bt up lw ii kd dy nd co od wo tp ((s_X7_readDeed ty ap_3 rd_5 tp rk_6 ry_7 rn_8).2.2.2.1) ((s_X7_readDeed ty ap_3 rd_5 tp rk_6 ry_7 rn_8).2.2.2.2.1) ((s_X7_readDeed ty ap_3 rd_5 tp rk_6 ry_7 rn_8).2.2.2.2.2) vs bs ch tr en du ol ig ln sz it mo) h0 rfl 0 rfl (Nat.le_of_ble_eq_true rfl) dX7_text_71 rfl rfl ?_
                refine r_goto C (tgt := 17) dX7_text_74 (by decide) ?_
                refine r_iln C dX7_text_17 rfl 0 rfl ?_
                refine r_ifeq C (tgt := 77) dX7_text_18 (by decide) (fun c40 => ?_) (fun c40 => ?_)
                · skip
                  refine r_lv [1] rfl ?_
                  exact X10 (((s_X7_here ty ((s_X7_readDeed ty ap_3 rd_5 tp rk_6 ry_7 rn_8).1) tp).2) + 0) ((s_X7_readDeed ty ap_3 rd_5 tp rk_6 ry_7 rn_8).2.1) ((s_X7_readDeed ty ap_3 rd_5 tp rk_6 ry_7 rn_8).2.2.1) ((s_X7_readDeed ty ap_3 rd_5 tp rk_6 ry_7 rn_8).2.2.2.1) ((s_X7_readDeed ty ap_3 rd_5 tp rk_6 ry_7 rn_8).2.2.2.2.1) ((s_X7_readDeed ty ap_3 rd_5 tp rk_6 ry_7 rn_8).2.2.2.2.2) (by omega) (by omega) hv
                · exact absurd (by decide) c40
              · exact absurd (by decide) c39
            · rw [if_pos c38] at hv
              have hap4 : ((s_X7_here ty ((s_X7_readDeed ty ap_3 rd_5 tp rk_6 ry_7 rn_8).1) tp).2) < ty := here_lt hty (by omega) (comma_c (by assumption))
              refine r_ic C (v := (1 : Int32)) dX7_text_50 (by decide) ?_
              refine r_goto C (tgt := 55) dX7_text_51 (by decide) ?_
              refine r_isn C (lv' := [(1, .int (1 : Int32)), (0, .ref o)]) dX7_text_55 rfl (by decide) rfl ?_
              refine r_aln C dX7_text_56 rfl 1 rfl ?_
              refine r_dup C dX7_text_57 rfl ?_
              refine gf_X7_141 C 0 rfl rfl dX7_text_58 ?_
              refine r_iln C dX7_text_61 rfl 0 rfl ?_
              refine r_ifeq C (tgt := 69) dX7_text_62 (by decide) (fun c41 => ?_) (fun c41 => ?_)
              · exact absurd c41 (by decide)
              · skip
                refine r_ic C (v := (1 : Int32)) dX7_text_65 (by decide) ?_
                refine r_goto C (tgt := 70) dX7_text_66 (by decide) ?_
                refine r_iadd C dX7_text_70 ?_
                refine r_top (nv_add rfl rfl) ?_
                refine pf_X7_141 C (ws2 := wM D o q1 q2 q3 q4 q5 q6 q7 q8 q9 q10 q11 q12 q13 q14 q15 q16 q17 q18 q19 q20 q21 q22 pe n la ri td ys ty (((s_X7_here ty ((s_X7_readDeed ty ap_3 rd_5 tp rk_6 ry_7 rn_8).1) tp).2) + 1) ((s_X7_readDeed ty ap_3 rd_5 tp rk_6 ry_7 rn_8).2.1) ((s_X7_readDeed ty ap_3 rd_5 tp rk_6 ry_7 rn_8).2.2.1) sm bt up lw ii kd dy nd co od wo tp ((s_X7_readDeed ty ap_3 rd_5 tp rk_6 ry_7 rn_8).2.2.2.1) ((s_X7_readDeed ty ap_3 rd_5 tp rk_6 ry_7 rn_8).2.2.2.2.1) ((s_X7_readDeed ty ap_3 rd_5 tp rk_6 ry_7 rn_8).2.2.2.2.2) vs bs ch tr en du ol ig ln sz it mo) h0 rfl 0 rfl (Nat.le_of_ble_eq_true rfl) dX7_text_71 rfl rfl ?_
                refine r_goto C (tgt := 17) dX7_text_74 (by decide) ?_
                exact ih30 (((s_X7_here ty ((s_X7_readDeed ty ap_3 rd_5 tp rk_6 ry_7 rn_8).1) tp).2) + 1) ((s_X7_readDeed ty ap_3 rd_5 tp rk_6 ry_7 rn_8).2.1) ((s_X7_readDeed ty ap_3 rd_5 tp rk_6 ry_7 rn_8).2.2.1) ((s_X7_readDeed ty ap_3 rd_5 tp rk_6 ry_7 rn_8).2.2.2.1) ((s_X7_readDeed ty ap_3 rd_5 tp rk_6 ry_7 rn_8).2.2.2.2.1) ((s_X7_readDeed ty ap_3 rd_5 tp rk_6 ry_7 rn_8).2.2.2.2.2) (by omega) hv
  exact L42 12 0 (0 : Int32) 0 rk ry rn (by omega) hZ9

