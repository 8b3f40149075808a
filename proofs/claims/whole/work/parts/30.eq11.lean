section EQT
variable {n pe : Nat} {td ys la ri : Int32} {kd dy nd co od wo kd' dy' nd' co' od' wo' : Nat → Int32} {ln sz ln' sz' : Nat → Int32} {it it' : Nat → Int64}
/-- how many below, and the first of them -/
def gcnt (G : Nat → Bool) : Nat → Nat
  | 0 => 0
  | k + 1 => gcnt G k + (if G k then 1 else 0)
def gfst (G : Nat → Bool) : Nat → Nat
  | 0 => 0
  | k + 1 => if gcnt G k = 0 then k else gfst G k
def gdsc (G : Nat → Bool) : Nat → Int32 → Int32 → Int32 × Int32
  | 0, c, l => (c, l)
  | k + 1, c, l => if G k then gdsc G k (c + 1) (nI k) else gdsc G k c l
def gasc (G : Nat → Bool) : Nat → Nat → Int32 → Int32 → Int32 × Int32
  | 0, _, c, l => (c, l)
  | k + 1, x, c, l => if G x then (if c = 0 then gasc G k (x + 1) (c + 1) (nI x) else gasc G k (x + 1) (c + 1) l) else gasc G k (x + 1) c l
theorem gcnt_le (G : Nat → Bool) : ∀ k, gcnt G k ≤ k := by
  intro k
  induction k with
  | zero => exact Nat.le_refl _
  | succ k ih => unfold gcnt; split <;> omega
theorem gdsc_eq (G : Nat → Bool) : ∀ (k : Nat) (c l : Int32), gdsc G k c l = (c + nI (gcnt G k), if gcnt G k = 0 then l else nI (gfst G k)) := by
  intro k
  induction k with
  | zero =>
    intro c l
    rw [if_pos (show gcnt G 0 = 0 from rfl)]
    show (c, l) = (c + 0, l)
    rw [Int32.add_zero]
  | succ k ih =>
    intro c l
    unfold gdsc gcnt gfst
    by_cases h : G k = true
    · rw [if_pos h, if_pos h, ih, if_neg (show ¬ (gcnt G k + 1 = 0) from by omega)]
      have e : c + 1 + nI (gcnt G k) = c + nI (gcnt G k + 1) := by
        rw [← nI_1, Int32.add_assoc, Int32.add_comm 1]
      rw [e]
      by_cases h2 : gcnt G k = 0
      · rw [if_pos h2, if_pos h2]
      · rw [if_neg h2, if_neg h2]
    · rw [if_neg h, if_neg h, ih, Nat.add_zero]
      by_cases h2 : gcnt G k = 0
      · rw [if_pos h2, if_pos h2]
      · rw [if_neg h2, if_neg h2, if_neg h2]
theorem gasc_s (G : Nat → Bool) (k x : Nat) (c l : Int32) : gasc G (k + 1) x c l = if G x then (if c = 0 then gasc G k (x + 1) (c + 1) (nI x) else gasc G k (x + 1) (c + 1) l) else gasc G k (x + 1) c l := rfl
theorem gasc_eq (G : Nat → Bool) (l0 : Int32) : ∀ (k x : Nat), x + k < 2 ^ 30 → gasc G k x (nI (gcnt G x)) (if gcnt G x = 0 then l0 else nI (gfst G x)) = (nI (gcnt G (x + k)), if gcnt G (x + k) = 0 then l0 else nI (gfst G (x + k))) := by
  intro k
  induction k with
  | zero => intro x _; rfl
  | succ k ih =>
    intro x hx
    have r := ih (x + 1) (by omega)
    have hc := gcnt_le G x
    rw [show x + (k + 1) = x + 1 + k from by omega, ← r, gasc_s]
    by_cases h : G x = true
    · have e1 : gcnt G (x + 1) = gcnt G x + 1 := by show gcnt G x + (if G x then 1 else 0) = _; rw [if_pos h]
      have e2 : gfst G (x + 1) = if gcnt G x = 0 then x else gfst G x := rfl
      rw [if_pos h, e1, e2, nI_1, if_neg (show ¬ (gcnt G x + 1 = 0) from by omega)]
      by_cases h2 : gcnt G x = 0
      · rw [if_pos h2, if_pos h2, if_pos (by rw [h2]; rfl)]
      · rw [if_neg h2, if_neg h2, if_neg (show ¬ (nI (gcnt G x) = (0 : Int32)) from fun z => h2 ((nI_eq (b := 0) (by omega) (by omega)).mp z))]
    · have e1 : gcnt G (x + 1) = gcnt G x := by show gcnt G x + (if G x then 1 else 0) = _; rw [if_neg h]; rfl
      have e2 : gfst G (x + 1) = if gcnt G x = 0 then x else gfst G x := rfl
      rw [if_neg h, e1, e2]
      by_cases h2 : gcnt G x = 0
      · rw [if_pos h2, if_pos h2]
      · rw [if_neg h2, if_neg h2, if_neg h2]
theorem gext {G : Nat → Bool} {K : Nat} : ∀ j, (∀ x, K ≤ x → x < K + j → G x = false) → gcnt G (K + j) = gcnt G K ∧ (¬ gcnt G K = 0 → gfst G (K + j) = gfst G K) := by
  intro j
  induction j with
  | zero => exact fun _ => ⟨rfl, fun _ => rfl⟩
  | succ j ih =>
    intro h
    have ih := ih (fun x h1 h2 => h x h1 (by omega))
    have e : gcnt G (K + (j + 1)) = gcnt G (K + j) := by
      show gcnt G (K + j) + (if G (K + j) then 1 else 0) = _
      rw [h (K + j) (by omega) (by omega)]
      rfl
    refine ⟨e.trans ih.1, fun z => ?_⟩
    show (if gcnt G (K + j) = 0 then K + j else gfst G (K + j)) = _
    rw [ih.1, if_neg z]
    exact ih.2 z
theorem dsc_asc {G : Nat → Bool} {K M : Nat} (h : ∀ x, K ≤ x → x < M → G x = false) (hK : K ≤ M) (hM : M < 2 ^ 30) (l0 : Int32) : gdsc G K 0 l0 = gasc G M 0 0 l0 := by
  have r := gasc_eq G l0 M 0 (by omega)
  obtain ⟨j, rfl⟩ : ∃ j, M = K + j := ⟨M - K, by omega⟩
  have e := gext j h
  have r2 : gasc G (K + j) 0 0 l0 = (nI (gcnt G (0 + (K + j))), if gcnt G (0 + (K + j)) = 0 then l0 else nI (gfst G (0 + (K + j)))) := r
  rw [r2, gdsc_eq, Nat.zero_add, Int32.zero_add, e.1]
  by_cases c : gcnt G K = 0
  · rw [if_pos c, if_pos c]
  · rw [if_neg c, if_neg c, e.2 c]
theorem is_met {kd nd : Nat → Int32} {d : Nat} (v : Int32) (hk : kd d = 0 ∨ kd d = 1 ∨ kd d = 2 ∨ kd d = 3) : s_X7_is kd nd d v 0 = s_X5_isMet (kd d) (nd d) v := by
  rw [← eq_is (n := d) (kd := kd) (nd := nd) (la := 0) (stand := v) rfl rfl hk]
  unfold s_X5_wouldStand
  have e0 : s_X6_isIn 0 (nI d) = 0 := by
    rw [isIn_0, show (0 : Int32) >>> (nI d &&& 31) = 0 from Int32.zero_shiftRight]
    decide
  have e1 : (if s_X5_isMet (kd d) (nd d) v = 0 then (0 : Int32) else 1) = s_X5_isMet (kd d) (nd d) v := by
    unfold s_X5_isMet
    (repeat' split) <;> first | rfl | contradiction
  rw [e0, if_pos rfl, e1]
  split <;> rfl
theorem met_01 (k d v : Int32) : s_X5_isMet k d v = 0 ∨ s_X5_isMet k d v = 1 := by
  unfold s_X5_isMet
  (repeat' split) <;> first | exact Or.inl rfl | exact Or.inr rfl
theorem n180 {deed sheet i : Int32} {x D : Nat} (hD : deed = nI D) (hD2 : D < 12) (hk : kd' D = 0 ∨ kd' D = 1 ∨ kd' D = 2 ∨ kd' D = 3) (nd2 : Nat → Int32) {tl : Nat → Int32} {m : Nat}
    (ht : ∀ e, e < m → ∃ t : Nat, t < 4096 ∧ tl e = nI t ∧ (it' ((16 * sheet.toNatClampNeg + i.toNatClampNeg) + e)).toInt32 = nI t) : ∀ (k e : Nat), e + k = m →
    (s_X7_net_L180 kd' it' deed sheet i x nd2 k e 1 = 0 ↔ s_X1_fits_L3 tl (kd' D) (nI x) ((1 : Int32) <<< (deed &&& 31)) 1 k e = 0) := by
  intro k
  induction k with
  | zero => intro e _; exact Iff.rfl
  | succ k ih =>
    intro e he
    have r := ih (e + 1) (by omega)
    obtain ⟨t, ht1, ht2, ht3⟩ := ht e (by omega)
    have hc : deed.toNatClampNeg = D := by rw [hD, nI_clamp (by omega)]
    have z0 : s_X7_net_L180 kd' it' deed sheet i x nd2 k (e + 1) 0 = 0 := by
      cases k with
      | zero => rfl
      | succ k => unfold s_X7_net_L180; rw [if_pos rfl]
    unfold s_X7_net_L180 s_X1_fits_L3
    rw [if_neg (show ¬ ((1 : Int32) = 0) from by decide), ht2, ht3, hc]
    rw [is_met (kd := kd') (nd := upd nd2 D (nI x)) (d := D) (nI t) hk, upd_at]
    have hb : (nI t &&& ((1 : Int32) <<< (deed &&& 31)) = 0) ↔ ((nI t >>> (deed &&& 31)) &&& (1 : Int32) = 0) := by
      rw [hD, and_bit (by omega) (by omega), bit_0 (by omega) (by omega)]
    have hm := met_01 (kd' D) (nI x) (nI t)
    by_cases c1 : (nI t >>> (deed &&& 31)) &&& (1 : Int32) = 0
    · rw [if_neg (fun z => (b01' _).mp z c1), if_pos (hb.mpr c1)]
      by_cases c2 : s_X5_isMet (kd' D) (nI x) (nI t) = 0
      · rw [if_pos c2, if_pos c2]; exact r
      · rw [if_neg c2, if_neg c2]; exact ⟨fun _ => rfl, fun _ => z0⟩
    · rw [if_pos ((b01' _).mpr c1), if_neg (fun z => c1 (hb.mp z))]
      by_cases c2 : s_X5_isMet (kd' D) (nI x) (nI t) = 1
      · rw [if_pos c2, if_pos c2]; exact r
      · rw [if_neg c2, if_neg c2]; exact ⟨fun _ => rfl, fun _ => z0⟩
theorem n144_nd (kd dy : Nat → Int32) (it : Nat → Int64) (deed sheet i m : Int32) : ∀ (k x : Nat) (c l : Int32) (f : Nat → Int32) (p : Nat), ¬ p = deed.toNatClampNeg → (s_X7_net_L144 kd dy it deed sheet i m k x c l f).2.2 p = f p := by
  intro k
  induction k with
  | zero => intro x c l f p _; rfl
  | succ k ih =>
    intro x c l f p hp
    unfold s_X7_net_L144
    (repeat' split) <;> rw [ih _ _ _ _ _ hp, upd_ne _ _ hp]
theorem n144 {deed sheet i m : Int32} (G : Nat → Bool) (hG : ∀ (x : Nat) (f : Nat → Int32), s_X7_net_L180 kd' it' deed sheet i x f m.toNatClampNeg 0 (nI (s_X7_net_m167_0 dy' deed x)) = 0 ↔ G x = false) : ∀ (k x : Nat) (c l : Int32) (f : Nat → Int32),
    (s_X7_net_L144 kd' dy' it' deed sheet i m k x c l f).1 = (gasc G k x c l).1 ∧ (s_X7_net_L144 kd' dy' it' deed sheet i m k x c l f).2.1 = (gasc G k x c l).2 := by
  intro k
  induction k with
  | zero => intro x c l f; exact ⟨rfl, rfl⟩
  | succ k ih =>
    intro x c l f
    unfold s_X7_net_L144 gasc
    rw [Int32.add_zero]
    have h := hG x f
    cases g : G x with
    | false =>
      rw [if_pos (h.mpr g), if_neg (by decide)]
      exact ih _ _ _ _
    | true =>
      rw [if_neg (fun z => absurd (h.mp z) (by rw [g]; decide)), if_pos rfl]
      split <;> exact ih _ _ _ _
theorem n102 {deed sheet i m : Int32} {tl : Nat → Int32} (G : Nat → Bool) (hG : ∀ x, G x = true ↔ ¬ s_X6_isWithin (nI x) (nI (s_X5_needable dy deed.toNatClampNeg (dy deed.toNatClampNeg)).toNatClampNeg) = 0 ∧ ¬ s_X1_fits (s_X6_takeToldYears n it tl sheet.toNatClampNeg i.toNatClampNeg m.toNatClampNeg).2 (kd deed.toNatClampNeg) (nI x) ((1 : Int32) <<< (deed &&& 31)) m.toNatClampNeg = 0) : ∀ (k : Nat) (c l : Int32), s_X6_net_L102 n kd dy it tl deed sheet i m k c l = gdsc G k c l := by
  intro k
  induction k with
  | zero => intro c l; rfl
  | succ k ih =>
    intro c l
    unfold s_X6_net_L102 gdsc
    have h := hG k
    by_cases c1 : s_X6_isWithin (nI k) (nI (s_X5_needable dy deed.toNatClampNeg (dy deed.toNatClampNeg)).toNatClampNeg) = 0
    · rw [if_pos c1, if_neg (fun z => (h.mp z).1 c1)]; exact ih _ _
    · rw [if_neg c1]
      split
      · rename_i c2
        rw [if_neg (fun z => (h.mp z).2 c2)]; exact ih _ _
      · rename_i c2
        rw [if_pos (h.mpr ⟨c1, c2⟩)]; exact ih _ _
theorem tt3 (hn : n ≤ 12) (s i : Nat) : ∀ (k d : Nat) (tl : Nat → Int32),
    ((∀ e, d ≤ e → e < d + k → ¬ s_X7_areDeeds n (it (s * 16 + (i + e))) = 0) → (s_X6_takeToldYears_L3 n it s i (fun q => (1, q)) k d tl).1 = 1 ∧ ∀ e, (s_X6_takeToldYears_L3 n it s i (fun q => (1, q)) k d tl).2 e = if d ≤ e ∧ e < d + k then (it (s * 16 + (i + e))).toInt32 else tl e) ∧
    (¬ (∀ e, d ≤ e → e < d + k → ¬ s_X7_areDeeds n (it (s * 16 + (i + e))) = 0) → (s_X6_takeToldYears_L3 n it s i (fun q => (1, q)) k d tl).1 = 0) := by
  intro k
  induction k with
  | zero =>
    intro d tl
    exact ⟨fun _ => ⟨rfl, fun e => by rw [if_neg (by omega)]; rfl⟩, fun z => absurd (fun e h1 h2 => by omega) z⟩
  | succ k ih =>
    intro d tl
    unfold s_X6_takeToldYears_L3 s_X2_at
    have w : lg_cmp (it (s * 16 + (i + d)) &&& ((s_X5_all n).toInt64 ^^^ (-1 : Int64))) 0 = 0 ↔ ¬ s_X7_areDeeds n (it (s * 16 + (i + d))) = 0 := by
      rw [lcmp_eq, within64 hn, areDeeds64 hn]
    have r := ih (d + 1) (upd tl d (it (s * 16 + (i + d))).toInt32)
    by_cases c : s_X7_areDeeds n (it (s * 16 + (i + d))) = 0
    · rw [if_neg (fun z => (w.mp z) c)]
      exact ⟨fun z => absurd c (z d (Nat.le_refl _) (by omega)), fun _ => rfl⟩
    · rw [if_pos (w.mpr c)]
      refine ⟨fun z => ?_, fun z => r.2 (fun y => z (fun e h1 h2 => ?_))⟩
      · have r2 := r.1 (fun e h1 h2 => z e (by omega) (by omega))
        refine ⟨r2.1, fun e => ?_⟩
        rw [r2.2 e]
        by_cases q : e = d
        · subst q; rw [if_neg (by omega), if_pos (by omega), upd_at]
        · rw [upd_ne _ _ q]
          by_cases q2 : d + 1 ≤ e ∧ e < d + 1 + k
          · rw [if_pos q2, if_pos (by omega)]
          · rw [if_neg q2, if_neg (by omega)]
      · by_cases q : e = d
        · rw [q]; exact c
        · exact y e (by omega) (by omega)
theorem n72 (nd2 : Nat → Int32) (sheet i : Int32) (K : Int32 × (Nat → Int32)) : ∀ (k d : Nat),
    ((∀ e, d ≤ e → e < d + k → ¬ s_X7_areDeeds n (it' ((16 * sheet.toNatClampNeg + i.toNatClampNeg) + e)) = 0) → s_X7_net_L72 n nd2 it' sheet i K k d = K) ∧
    (¬ (∀ e, d ≤ e → e < d + k → ¬ s_X7_areDeeds n (it' ((16 * sheet.toNatClampNeg + i.toNatClampNeg) + e)) = 0) → s_X7_net_L72 n nd2 it' sheet i K k d = (-2, nd2)) := by
  intro k
  induction k with
  | zero => intro d; exact ⟨fun _ => rfl, fun z => absurd (fun e h1 h2 => by omega) z⟩
  | succ k ih =>
    intro d
    unfold s_X7_net_L72
    have r := ih (d + 1)
    by_cases c : s_X7_areDeeds n (it' ((16 * sheet.toNatClampNeg + i.toNatClampNeg) + d)) = 0
    · rw [if_pos c]
      exact ⟨fun z => absurd c (z d (Nat.le_refl _) (by omega)), fun _ => rfl⟩
    · rw [if_neg c]
      refine ⟨fun z => r.1 (fun e h1 h2 => z e (by omega) (by omega)), fun z => r.2 (fun y => z (fun e h1 h2 => ?_))⟩
      by_cases q : e = d
      · rw [q]; exact c
      · exact y e (by omega) (by omega)
end EQT
