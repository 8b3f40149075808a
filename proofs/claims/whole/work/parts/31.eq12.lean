section EQU
variable {n pe : Nat} {td ys la ri : Int32} {kd dy nd co od wo kd' dy' nd' co' od' wo' : Nat → Int32} {ln sz ln' sz' : Nat → Int32} {it it' : Nat → Int64}
theorem n180_0 (kd : Nat → Int32) (it : Nat → Int64) (deed sheet i : Int32) (x : Nat) (f : Nat → Int32) : ∀ k e, s_X7_net_L180 kd it deed sheet i x f k e 0 = 0 := by
  intro k e
  cases k with
  | zero => rfl
  | succ k => unfold s_X7_net_L180; rw [if_pos rfl]
theorem rs_net (h : RN pe n td ys la ri kd dy nd co od wo kd' dy' nd' co' od' wo') (hs : RS ln sz it ln' sz' it') (tl : Nat → Int32) (deed sheet lane i m what : Int32) :
    (s_X6_net n kd dy ln sz it tl deed sheet lane i m what).1 = (s_X7_net n kd' dy' nd' ln' sz' it' deed sheet lane i m what).1 ∧ (s_X7_net n kd' dy' nd' ln' sz' it' deed sheet lane i m what).2 = nd' := by
  have hn := h.hn
  unfold s_X6_net s_X7_net
  rw [eq_has (by omega), in32c m 1 8 (by decide) (by decide), eq_isChoice]
  by_cases c1 : s_X5_has n deed = 0
  · rw [if_pos c1, if_pos c1]; exact ⟨rfl, rfl⟩
  rw [if_neg c1, if_neg c1]
  by_cases c2 : m < 1
  · rw [if_pos c2, if_pos c2, if_pos (show (0 : Int32) = 0 from rfl)]
    split
    · exact ⟨rfl, rfl⟩
    · split <;> exact ⟨rfl, rfl⟩
  rw [if_neg c2, if_neg c2]
  by_cases c3 : 8 < m
  · rw [if_pos c3, if_pos c3, if_pos (show (0 : Int32) = 0 from rfl)]
    split
    · exact ⟨rfl, rfl⟩
    · split <;> exact ⟨rfl, rfl⟩
  rw [if_neg c3, if_neg c3, if_neg (show ¬ ((1 : Int32) = 0) from by decide)]
  by_cases c4 : s_X6_isChoice what = 0
  · rw [if_pos c4, if_pos c4]
    split
    · exact ⟨rfl, rfl⟩
    · split <;> exact ⟨rfl, rfl⟩
  rw [if_neg c4, if_neg c4]
  have hm := m8_nat c2 c3
  have hD := has_lt h c1
  have osh := on_sheet hs (mn := m.toNatClampNeg) (by omega) sheet lane i
  rw [← hm.1] at osh
  rcases osh with ⟨a, b⟩ | ⟨a, a2, b⟩ | ⟨a, a2, a3, b, b2⟩ | ⟨a, a2, a3, b, h4, hl⟩
  · rw [if_pos a, b, if_neg (by decide)]; exact ⟨rfl, rfl⟩
  · rw [if_neg a, if_pos a2, b, if_neg (by decide)]; exact ⟨rfl, rfl⟩
  · rw [if_neg a, if_neg a2, if_pos a3, if_neg b2, b]; exact ⟨rfl, rfl⟩
  · rw [if_neg a, if_neg a2, if_neg a3, if_pos b]
    have hi := fault_i (mn := m.toNatClampNeg) hm.1 (by omega) hs.hz b
    have hit : ∀ e, e < m.toNatClampNeg → it (sheet.toNatClampNeg * 16 + (i.toNatClampNeg + e)) = it' ((16 * sheet.toNatClampNeg + i.toNatClampNeg) + e) := by
      intro e he
      rw [Nat.mul_comm _ 16, Nat.add_assoc]
      exact ((hs _ h4).2.2.2.2 hl).2 _ (by omega)
    have t3 := tt3 (it := it) hn sheet.toNatClampNeg i.toNatClampNeg m.toNatClampNeg 0 tl
    by_cases cd : ∀ e, 0 ≤ e → e < 0 + m.toNatClampNeg → ¬ s_X7_areDeeds n (it' ((16 * sheet.toNatClampNeg + i.toNatClampNeg) + e)) = 0
    · have t3 := t3.1 (fun e h1 h2 => by rw [hit e (by omega)]; exact cd e h1 h2)
      rw [(n72 nd' sheet i _ m.toNatClampNeg 0).1 cd]
      have ht1 : (s_X6_takeToldYears n it tl sheet.toNatClampNeg i.toNatClampNeg m.toNatClampNeg).1 = 1 := t3.1
      rw [if_neg (by rw [ht1]; decide)]
      obtain ⟨F, hF, hF2⟩ := isSet_needable (n := deed.toNatClampNeg) (number := deed.toNatClampNeg) (by omega) (Nat.le_refl _) dy (dy deed.toNatClampNeg)
      have hp := pw_le (n := deed.toNatClampNeg) (by omega)
      have hdy := h.ag.edy _ hD.2
      have hkd := h.ag.ekd _ hD.2
      have hah : s_X7_ahead dy' deed.toNatClampNeg (dy' deed.toNatClampNeg) = nI F := by
        rw [eq_needable h.ag _ (by omega), ← hdy, hF]
      have hG : ∃ G : Nat → Bool, ∀ x, G x = true ↔ ¬ s_X6_isWithin (nI x) (nI (s_X5_needable dy deed.toNatClampNeg (dy deed.toNatClampNeg)).toNatClampNeg) = 0 ∧ ¬ s_X1_fits (s_X6_takeToldYears n it tl sheet.toNatClampNeg i.toNatClampNeg m.toNatClampNeg).2 (kd deed.toNatClampNeg) (nI x) ((1 : Int32) <<< (deed &&& 31)) m.toNatClampNeg = 0 := ⟨fun x => decide (¬ s_X6_isWithin (nI x) (nI (s_X5_needable dy deed.toNatClampNeg (dy deed.toNatClampNeg)).toNatClampNeg) = 0 ∧ ¬ s_X1_fits (s_X6_takeToldYears n it tl sheet.toNatClampNeg i.toNatClampNeg m.toNatClampNeg).2 (kd deed.toNatClampNeg) (nI x) ((1 : Int32) <<< (deed &&& 31)) m.toNatClampNeg = 0), fun x => decide_eq_true_iff⟩
      obtain ⟨G, hG⟩ := hG
      have e6 := n102 (n := n) (kd := kd) (dy := dy) (it := it) G hG ((s_X5_needable dy deed.toNatClampNeg (dy deed.toNatClampNeg)).toNatClampNeg + 1) 0 (-4)
      have hyr : ∀ e, e < m.toNatClampNeg → ∃ t : Nat, t < 4096 ∧ (s_X6_takeToldYears n it tl sheet.toNatClampNeg i.toNatClampNeg m.toNatClampNeg).2 e = nI t ∧ (it' ((16 * sheet.toNatClampNeg + i.toNatClampNeg) + e)).toInt32 = nI t := by
        intro e he
        obtain ⟨t, ht, ht2⟩ := (areDeeds64 hn _).mp (cd e (Nat.zero_le _) (by omega))
        have hp2 := pw_le hn
        refine ⟨t, by omega, ?_, by rw [ht2, lN_i]⟩
        have q : (s_X6_takeToldYears n it tl sheet.toNatClampNeg i.toNatClampNeg m.toNatClampNeg).2 e = _ := t3.2 e
        rw [q, if_pos (by omega), hit e he, ht2, lN_i]
      have hG7 : ∀ (x : Nat) (f : Nat → Int32), s_X7_net_L180 kd' it' deed sheet i x f m.toNatClampNeg 0 (nI (s_X7_net_m167_0 dy' deed x)) = 0 ↔ G x = false := by
        intro x f
        have g := hG x
        rw [hF, nI_clamp (by omega), ← hkd.symm] at g
        unfold s_X7_net_m167_0
        rw [hah]
        by_cases w : nI x &&& (nI F ^^^ (-1 : Int32)) = 0
        · rw [if_pos w]
          have r := n180 (kd' := kd') (it' := it') (deed := deed) (sheet := sheet) (i := i) (x := x) (D := deed.toNatClampNeg) hD.1 (by omega) (by rw [← hkd]; exact h.ag.k4 _ hD.2) f hyr m.toNatClampNeg 0 (by omega)
          refine r.trans ?_
          unfold s_X1_fits at g
          constructor
          · intro z
            cases q : G x with
            | false => rfl
            | true => exact absurd z (g.mp q).2
          · intro z
            refine Decidable.byContradiction fun y => ?_
            have := g.mpr ⟨fun u => (within_0 _ _).mp u w, y⟩
            rw [this] at z
            exact absurd z (by decide)
        · rw [if_neg w]
          refine ⟨fun _ => ?_, fun _ => n180_0 _ _ _ _ _ _ _ _ _⟩
          cases q : G x with
          | false => rfl
          | true => exact absurd ((within_0 _ _).mpr w) (g.mp q).1
      have e7 := n144 (kd' := kd') (dy' := dy') (it' := it') (deed := deed) (sheet := sheet) (i := i) (m := m) G hG7 (2 ^ deed.toNatClampNeg) 0 0 (-4) nd'
      have ea : gdsc G (F + 1) 0 (-4) = gasc G (2 ^ deed.toNatClampNeg) 0 0 (-4) := by
        refine dsc_asc (fun x h1 h2 => ?_) (by omega) (by omega) (-4)
        cases q : G x with
        | false => rfl
        | true =>
          have g := (hG x).mp q
          rw [hF, nI_clamp (by omega)] at g
          have w : nI x &&& (nI F ^^^ (-1 : Int32)) = 0 := Decidable.byContradiction fun y => g.1 ((within_0 _ _).mpr y)
          have := within_le (by omega) (by omega) w
          omega
      have en : upd (s_X7_net_L144 kd' dy' it' deed sheet i m (2 ^ deed.toNatClampNeg) 0 0 (-4) nd').2.2 deed.toNatClampNeg (nd' deed.toNatClampNeg) = nd' := by
        funext p
        by_cases q : p = deed.toNatClampNeg
        · rw [q, upd_at]
        · rw [upd_ne _ _ q, n144_nd _ _ _ _ _ _ _ _ _ _ _ _ _ q]
      rw [en, e6]
      rw [hF, nI_clamp (by omega), ea, ← e7.1, ← e7.2]
      split <;> exact ⟨rfl, rfl⟩
    · have t3 := t3.2 (fun z => cd (fun e h1 h2 => by rw [← hit e (by omega)]; exact z e h1 h2))
      rw [(n72 nd' sheet i _ m.toNatClampNeg 0).2 cd]
      have ht1 : (s_X6_takeToldYears n it tl sheet.toNatClampNeg i.toNatClampNeg m.toNatClampNeg).1 = 0 := t3
      rw [if_pos ht1]
      exact ⟨rfl, rfl⟩
end EQU
