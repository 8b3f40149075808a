section EQX
variable {n pe : Nat} {td ys la ri : Int32} {kd dy nd co od wo kd' dy' nd' co' od' wo' : Nat → Int32}
theorem rn_self (h : RN pe n td ys la ri kd dy nd co od wo kd' dy' nd' co' od' wo') (sm : Int32) (vs ch tr en : Nat → Int32) : ∃ fuel : Nat, s_X6_self pe n la kd dy nd co wo = (s_X7_self pe n la sm kd' dy' nd' co' wo' vs ch tr en fuel).1 ∧ (s_X7_playsF pe n la sm kd' dy' nd' co' wo' vs ch tr en (-1) fuel).2.2.2.2.2.2 = 1 := by
  obtain ⟨m, e1, e2⟩ := pl_all h.ag h.hn h.hp (la := la) (-1) sm vs ch tr en
  exact ⟨m, e1.symm, e2⟩
theorem rn_turn (h : RN pe n td ys la ri kd dy nd co od wo kd' dy' nd' co' od' wo') (sm : Int32) (vs ch tr en : Nat → Int32) (person : Int32) : ∃ fuel fuel2 : Nat, s_X6_turn pe n la kd dy nd co wo person = (s_X7_turn pe n la sm kd' dy' nd' co' wo' vs ch tr en person fuel fuel2).1 ∧ (s_X7_playsF pe n la sm kd' dy' nd' co' wo' vs ch tr en (-1) fuel).2.2.2.2.2.2 = 1 ∧
    (s_X7_playsF pe n la ((s_X7_counts pe n kd' nd' co' wo' ((s_X7_playsF pe n la sm kd' dy' nd' co' wo' vs ch tr en (-1 : Int32) fuel).2.2.1) ((s_X7_playsF pe n la sm kd' dy' nd' co' wo' vs ch tr en (-1 : Int32) fuel).1) la).1) kd' dy' nd' co' wo' ((s_X7_counts pe n kd' nd' co' wo' ((s_X7_playsF pe n la sm kd' dy' nd' co' wo' vs ch tr en (-1 : Int32) fuel).2.2.1) ((s_X7_playsF pe n la sm kd' dy' nd' co' wo' vs ch tr en (-1 : Int32) fuel).1) la).2) ((s_X7_playsF pe n la sm kd' dy' nd' co' wo' vs ch tr en (-1 : Int32) fuel).2.2.2.1) ((s_X7_playsF pe n la sm kd' dy' nd' co' wo' vs ch tr en (-1 : Int32) fuel).2.2.2.2.1) ((s_X7_playsF pe n la sm kd' dy' nd' co' wo' vs ch tr en (-1 : Int32) fuel).2.2.2.2.2.1) person fuel2).2.2.2.2.2.2 = 1 := by
  obtain ⟨m, e1, e2⟩ := pl_all h.ag h.hn h.hp (la := la) (-1) sm vs ch tr en
  obtain ⟨m2, e3, e4⟩ := pl_all h.ag h.hn h.hp (la := la) person ((s_X7_counts pe n kd' nd' co' wo' ((s_X7_playsF pe n la sm kd' dy' nd' co' wo' vs ch tr en (-1 : Int32) m).2.2.1) ((s_X7_playsF pe n la sm kd' dy' nd' co' wo' vs ch tr en (-1 : Int32) m).1) la).1) ((s_X7_counts pe n kd' nd' co' wo' ((s_X7_playsF pe n la sm kd' dy' nd' co' wo' vs ch tr en (-1 : Int32) m).2.2.1) ((s_X7_playsF pe n la sm kd' dy' nd' co' wo' vs ch tr en (-1 : Int32) m).1) la).2) ((s_X7_playsF pe n la sm kd' dy' nd' co' wo' vs ch tr en (-1 : Int32) m).2.2.2.1) ((s_X7_playsF pe n la sm kd' dy' nd' co' wo' vs ch tr en (-1 : Int32) m).2.2.2.2.1) ((s_X7_playsF pe n la sm kd' dy' nd' co' wo' vs ch tr en (-1 : Int32) m).2.2.2.2.2.1)
  refine ⟨m, m2, ?_, e2, e4⟩
  have hp := h.hp
  unfold s_X6_turn s_X7_turn
  rw [eq_isOne (by omega)]
  by_cases c : s_X5_isPerson pe person = 0
  · rw [if_pos c, if_pos c]
  · rw [if_neg c, if_neg c]
    have hq := (isPerson_nat hp c).2
    dsimp only
    rw [eq_cnt2 h.ag hp _ _ _ hq, eq_cnt2 h.ag hp _ _ _ hq, e3, e1]
end EQX
