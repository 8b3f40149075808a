section EQMEAN
variable {n pe : Nat} {la : Int32} {kd dy nd co od wo kd' dy' nd' co' od' wo' : Nat → Int32}
/-- sums over sets: in a row, and bit by bit -/
def lsum (g : Nat → Int64) : Nat → Int64
  | 0 => 0
  | k + 1 => lsum g k + g k
def tsum (g : Nat → Int64) : Nat → Nat → Nat → Int64
  | 0, _, t => g t
  | k + 1, d, t => tsum g k (d + 1) t + tsum g k (d + 1) (t + 2 ^ d)
theorem i64_alc (a b c : Int64) : a + (b + c) = b + (a + c) := by rw [← Int64.add_assoc, Int64.add_comm a b, Int64.add_assoc]
theorem lsum_2 (f : Nat → Int64) : ∀ m, lsum f (2 * m) = lsum (fun h => f (2 * h)) m + lsum (fun h => f (2 * h + 1)) m := by
  intro m
  induction m with
  | zero =>
    show (0 : Int64) = 0 + 0
    decide
  | succ m ih =>
    have e : 2 * (m + 1) = 2 * m + 1 + 1 := by omega
    rw [e]
    show lsum f (2 * m) + f (2 * m) + f (2 * m + 1) = (lsum (fun h => f (2 * h)) m + f (2 * m)) + (lsum (fun h => f (2 * h + 1)) m + f (2 * m + 1))
    rw [ih]
    simp only [Int64.add_assoc, Int64.add_comm, i64_alc]
theorem lsum_t (g : Nat → Int64) : ∀ (k d t : Nat), lsum (fun h => g (t + 2 ^ d * h)) (2 ^ k) = tsum g k d t := by
  intro k
  induction k with
  | zero =>
    intro d t
    show 0 + g (t + 2 ^ d * 0) = g t
    rw [Nat.mul_zero, Nat.add_zero, Int64.zero_add]
  | succ k ih =>
    intro d t
    have e : 2 ^ (k + 1) = 2 * 2 ^ k := by rw [Nat.pow_succ, Nat.mul_comm]
    rw [e, lsum_2]
    show _ = tsum g k (d + 1) t + tsum g k (d + 1) (t + 2 ^ d)
    rw [← ih (d + 1) t, ← ih (d + 1) (t + 2 ^ d)]
    have e1 : (fun h => g (t + 2 ^ d * (2 * h))) = (fun h => g (t + 2 ^ (d + 1) * h)) := by
      funext h
      rw [Nat.pow_succ, Nat.mul_assoc]
    have e2 : (fun h => g (t + 2 ^ d * (2 * h + 1))) = (fun h => g (t + 2 ^ d + 2 ^ (d + 1) * h)) := by
      funext h
      have e3 : t + 2 ^ d * (2 * h + 1) = t + 2 ^ d + 2 ^ (d + 1) * h := by
        rw [Nat.mul_add, Nat.mul_one, Nat.pow_succ, Nat.mul_assoc]
        omega
      rw [e3]
    rw [e1, e2]
theorem tsum_congr {g f : Nat → Int64} : ∀ (k d t : Nat), (∀ h, h < 2 ^ k → g (t + 2 ^ d * h) = f (t + 2 ^ d * h)) → tsum g k d t = tsum f k d t := by
  intro k
  induction k with
  | zero =>
    intro d t h
    have := h 0 (by decide)
    rw [Nat.mul_zero, Nat.add_zero] at this
    exact this
  | succ k ih =>
    intro d t h
    have e : 2 ^ (k + 1) = 2 * 2 ^ k := by rw [Nat.pow_succ, Nat.mul_comm]
    show tsum g k (d + 1) t + tsum g k (d + 1) (t + 2 ^ d) = tsum f k (d + 1) t + tsum f k (d + 1) (t + 2 ^ d)
    rw [ih (d + 1) t (fun x hx => by
      have := h (2 * x) (by omega)
      rw [Nat.pow_succ, Nat.mul_assoc]; exact this), ih (d + 1) (t + 2 ^ d) (fun x hx => by
      have := h (2 * x + 1) (by omega)
      have e3 : t + 2 ^ d * (2 * x + 1) = t + 2 ^ d + 2 ^ (d + 1) * x := by
        rw [Nat.mul_add, Nat.mul_one, Nat.pow_succ, Nat.mul_assoc]
        omega
      rw [e3] at this; exact this)]
theorem ex31 (kd nd od wo : Nat → Int32) : ∀ (K d : Nat) (all : Int64), s_X7_expects_L31 pe n la kd nd od wo K d all = all + lsum (fun h => (s_X7_expects_L51 pe la kd nd od wo (d + h) n 0 1 0).1 * (s_X7_expects_L51 pe la kd nd od wo (d + h) n 0 1 0).2.toInt64) K := by
  intro K
  induction K with
  | zero => intro d all; exact (Int64.add_zero all).symm
  | succ K ih =>
    intro d all
    have key : ∀ (g : Nat → Int64) (k : Nat), g 0 + lsum (fun h => g (h + 1)) k = lsum g (k + 1) := by
      intro g k
      induction k with
      | zero =>
        show g 0 + 0 = 0 + g 0
        rw [Int64.add_zero, Int64.zero_add]
      | succ k ih2 =>
        show g 0 + (lsum (fun h => g (h + 1)) k + g (k + 1)) = lsum g (k + 1) + g (k + 1)
        rw [← Int64.add_assoc, ih2]
    rw [s_X7_expects_L31, ih (d + 1), Int64.add_assoc]
    congr 1
    rw [← key]
    have e : (fun h => (s_X7_expects_L51 pe la kd nd od wo (d + 1 + h) n 0 1 0).1 * (s_X7_expects_L51 pe la kd nd od wo (d + 1 + h) n 0 1 0).2.toInt64) = (fun h => (s_X7_expects_L51 pe la kd nd od wo (d + (h + 1)) n 0 1 0).1 * (s_X7_expects_L51 pe la kd nd od wo (d + (h + 1)) n 0 1 0).2.toInt64) := by
      funext h
      rw [show d + 1 + h = d + (h + 1) from by omega]
    rw [e]
    rfl
/-- the bits of a set, told by its lower part -/
theorem low_bits {t d h : Nat} (ht : t < 2 ^ d) (b : Nat) : (t + 2 ^ d * (2 * h + b)) / 2 ^ d % 2 = b % 2 ∧ (t + 2 ^ d * (2 * h + b)) % 2 ^ d = t := by
  have hp := Nat.two_pow_pos d
  rw [Nat.add_mul_div_left _ _ hp, Nat.div_eq_of_lt ht, Nat.add_mul_mod_self_left, Nat.mod_eq_of_lt ht]
  exact ⟨by omega, rfl⟩
theorem ex149 (wo : Nat → Int32) (s d : Nat) (hb : s_X7_expects_m76_0 s d = 1) : ∀ (k e : Nat) (has a : Int32), s_X7_expects_L149 wo s d k e (has + a) = has + s_X5_worthToAll_L4 (fun i => wo i) d k e a := by
  intro k
  induction k with
  | zero => intro e has a; rfl
  | succ k ih =>
    intro e has a
    rw [s_X7_expects_L149, hb, if_neg (by decide), s_X5_worthToAll_L4, ← ih, Int32.add_assoc]
    unfold s_X5_worthTo
    rw [Nat.mul_comm d 4]
theorem wta_congr {f g : Nat → Int32} (d : Nat) : ∀ (k e : Nat) (a : Int32), (∀ i, i < 4 * d + e + k → f i = g i) → s_X5_worthToAll_L4 f d k e a = s_X5_worthToAll_L4 g d k e a := by
  intro k
  induction k with
  | zero => intro e a _; rfl
  | succ k ih =>
    intro e a h
    rw [s_X5_worthToAll_L4, s_X5_worthToAll_L4]
    have e1 : s_X5_worthTo f d e = s_X5_worthTo g d e := by
      unfold s_X5_worthTo
      exact h _ (by omega)
    rw [e1]
    exact ih (e + 1) _ (fun i hi => h i (by omega))
theorem ex_mean (A : Ag n kd dy nd co od wo kd' dy' nd' co' od' wo') (hn : n ≤ 12) (hp : 1 ≤ pe ∧ pe ≤ 4) : ∀ (k d t : Nat) (part : Int64) (has : Int32), d + k = n → t < 2 ^ d →
    tsum (fun s => (s_X7_expects_L51 pe la kd' nd' od' wo' s k d part has).1 * (s_X7_expects_L51 pe la kd' nd' od' wo' s k d part has).2.toInt64) k d t = part * s_X1_mean pe la kd nd od wo k d (nI t) has := by
  intro k
  induction k with
  | zero => intro d t part has _ _; rfl
  | succ k ih =>
    intro d t part has h ht
    have hpd := pw_le (n := d) (by omega)
    have hpn := pw_le hn
    have e2n : 2 ^ (d + 1) * 2 ^ k = 2 ^ n := by rw [← Nat.pow_add]; congr 1; omega
    have e2 : 2 ^ (d + 1) = 2 * 2 ^ d := by rw [Nat.pow_succ, Nat.mul_comm]
    have hall : ((1 : Int32) <<< (nI d &&& 31)) - 1 = nI (2 ^ d - 1) := all_nI (n := d) (by omega)
    have hstand := fun s : Nat => eq_is (n := n) (la := la) (stand := nI s) (A.ekd d (by omega)) (A.end' d (by omega)) (A.k4 d (by omega))
    have hodd := A.eod d (by omega)
    -- left and right
    have L : ∀ b, b < 2 → ∀ x, x < 2 ^ k → s_X7_expects_m76_0 (t + 2 ^ d * b + 2 ^ (d + 1) * x) d = b ∧ nI (t + 2 ^ d * b + 2 ^ (d + 1) * x) &&& (((1 : Int32) <<< (nI d &&& 31)) - 1) = nI t := by
      intro b hb x hx
      have e3 : t + 2 ^ d * b + 2 ^ (d + 1) * x = t + 2 ^ d * (2 * x + b) := by
        rw [Nat.mul_add, e2, ← Nat.mul_assoc, Nat.mul_comm 2 (2 ^ d)]
        omega
      have hlt : t + 2 ^ d * b + 2 ^ (d + 1) * x < 2 ^ n := by
        have h4 : 2 ^ (d + 1) * (x + 1) ≤ 2 ^ (d + 1) * 2 ^ k := Nat.mul_le_mul_left _ hx
        rw [e2n, Nat.mul_add, Nat.mul_one] at h4
        have h5 : 2 ^ d * b ≤ 2 ^ d * 1 := Nat.mul_le_mul_left _ (by omega)
        omega
      have lb := low_bits (h := x) ht b
      rw [← e3] at lb
      unfold s_X7_expects_m76_0
      rw [bit_nI (by omega) (by omega), lb.1, hall, pk_andN (by omega) d (all_tn (n := d) (by omega)), lb.2]
      have hb2 : b = 0 ∨ b = 1 := by omega
      rcases hb2 with rfl | rfl
      · exact ⟨rfl, rfl⟩
      · exact ⟨rfl, rfl⟩
    have hwt : s_X5_worthToAll_L4 (fun i => wo' i) d pe 0 0 = s_X5_worthToAll pe wo d := by
      unfold s_X5_worthToAll
      exact wta_congr d pe 0 0 (fun i hi => (A.ewo i (by omega)).symm)
    have l0 : tsum (fun s => (s_X7_expects_L51 pe la kd' nd' od' wo' s (k + 1) d part has).1 * (s_X7_expects_L51 pe la kd' nd' od' wo' s (k + 1) d part has).2.toInt64) k (d + 1) t = (part * (if s_X5_wouldStand la kd nd d (nI t) = 0 then 4 else (4 - od d).toInt64)) * s_X1_mean pe la kd nd od wo k (d + 1) (nI t) has := by
      rw [← ih (d + 1) t _ has (by omega) (by rw [e2]; omega)]
      refine tsum_congr k (d + 1) t (fun x hx => ?_)
      have q := L 0 (by omega) x hx
      rw [Nat.mul_zero, Nat.add_zero] at q
      have e4 : s_X7_expects_L149 wo' (t + 2 ^ (d + 1) * x) d pe 0 has = has := by
        obtain ⟨p2, rfl⟩ : ∃ p2, pe = p2 + 1 := ⟨pe - 1, by omega⟩
        rw [s_X7_expects_L149, q.1, if_pos (by rfl)]
      rw [s_X7_expects_L51, e4]
      unfold s_X7_expects_m143_0
      rw [q.1, q.2, ← hstand t, ← hodd, if_pos (show nI 0 = (0 : Int32) from rfl), if_pos (show nI 0 = (0 : Int32) from rfl)]
    have l1 : tsum (fun s => (s_X7_expects_L51 pe la kd' nd' od' wo' s (k + 1) d part has).1 * (s_X7_expects_L51 pe la kd' nd' od' wo' s (k + 1) d part has).2.toInt64) k (d + 1) (t + 2 ^ d) = (part * (if s_X5_wouldStand la kd nd d (nI t) = 0 then 0 else (od d).toInt64)) * s_X1_mean pe la kd nd od wo k (d + 1) (nI (t + 2 ^ d)) (has + s_X5_worthToAll pe wo d) := by
      rw [← ih (d + 1) (t + 2 ^ d) _ (has + s_X5_worthToAll pe wo d) (by omega) (by rw [e2]; omega)]
      refine tsum_congr k (d + 1) (t + 2 ^ d) (fun x hx => ?_)
      have q := L 1 (by omega) x hx
      rw [Nat.mul_one] at q
      have e4 : s_X7_expects_L149 wo' (t + 2 ^ d + 2 ^ (d + 1) * x) d pe 0 has = has + s_X5_worthToAll pe wo d := by
        have z := ex149 wo' (t + 2 ^ d + 2 ^ (d + 1) * x) d q.1 pe 0 has 0
        rw [Int32.add_zero, hwt] at z
        exact z
      rw [s_X7_expects_L51, e4]
      unfold s_X7_expects_m143_0
      rw [q.1, q.2, ← hstand t, ← hodd, if_neg (show ¬ (nI 1 = (0 : Int32)) from by decide), if_neg (show ¬ (nI 1 = (0 : Int32)) from by decide)]
    show tsum _ k (d + 1) t + tsum _ k (d + 1) (t + 2 ^ d) = _
    rw [l0, l1]
    have eor : nI t ||| ((1 : Int32) <<< (nI d &&& 31)) = nI (t + 2 ^ d) := by
      rw [sh1 d (by omega), or_nI]
      have e5 := Nat.two_pow_add_eq_or_of_lt ht 1
      rw [Nat.mul_one] at e5
      rw [Nat.or_comm, ← e5, Nat.add_comm]
    show _ = part * s_X1_mean_step pe la kd nd od wo d (nI t) has (fun a b => s_X1_mean pe la kd nd od wo k (d + 1) a b)
    unfold s_X1_mean_step
    dsimp only
    rw [eor]
    generalize s_X1_mean pe la kd nd od wo k (d + 1) (nI t) has = X
    generalize s_X1_mean pe la kd nd od wo k (d + 1) (nI (t + 2 ^ d)) (has + s_X5_worthToAll pe wo d) = Y
    have e44 : ((4 : Int32) - 0).toInt64 = 4 := by decide
    have e00 : (0 : Int32).toInt64 = 0 := by decide
    by_cases c : s_X5_wouldStand la kd nd d (nI t) = 0
    · rw [if_pos c, if_pos c, if_pos c, e44, e00, Int64.mul_zero, Int64.zero_mul, Int64.mul_zero, Int64.zero_add, Int64.add_zero, Int64.mul_assoc]
    · rw [if_neg c, if_neg c, if_neg c]
      obtain ⟨o, ho, eo⟩ := A.o4 d (by omega)
      have fin : ∀ W Z : Int64, (part * Z * X) + (part * W * Y) = part * (W * Y + Z * X) := by
        intro W Z
        rw [Int64.mul_add, Int64.mul_assoc, Int64.mul_assoc, Int64.add_comm]
      rw [fin, eo]
      by_cases c1 : o = 0
      · subst c1
        rw [if_neg (show ¬ ((0 : Int32) < nI 0) from by decide), if_pos (show nI 0 < (4 : Int32) from by decide), show (nI 0).toInt64 = 0 from by decide, Int64.zero_mul, Int64.zero_mul]
      · rw [if_pos (show (0 : Int32) < nI o from (nI_ltI (a := 0) (by omega) (by omega)).mpr (by omega))]
        by_cases c2 : o = 4
        · subst c2
          rw [if_neg (show ¬ (nI 4 < (4 : Int32)) from by decide), show ((4 : Int32) - nI 4).toInt64 = 0 from by decide, Int64.zero_mul, Int64.zero_mul]
        · rw [if_pos (show nI o < (4 : Int32) from (nI_ltI (b := 4) (by omega) (by omega)).mpr (by omega))]
theorem eq_mean (A : Ag n kd dy nd co od wo kd' dy' nd' co' od' wo') (hn : n ≤ 12) (hp : 1 ≤ pe ∧ pe ≤ 4) : s_X7_expects_L31 pe n la kd' nd' od' wo' (2 ^ n) 0 0 = s_X1_mean pe la kd nd od wo n 0 0 0 := by
  have e := ex_mean (la := la) A hn hp n 0 0 1 0 (by omega) (by decide)
  rw [Int64.one_mul] at e
  have l := lsum_t (fun s => (s_X7_expects_L51 pe la kd' nd' od' wo' s n 0 1 0).1 * (s_X7_expects_L51 pe la kd' nd' od' wo' s n 0 1 0).2.toInt64) n 0 0
  rw [ex31, Int64.zero_add]
  have e0 : (fun h => (s_X7_expects_L51 pe la kd' nd' od' wo' (0 + h) n 0 1 0).1 * (s_X7_expects_L51 pe la kd' nd' od' wo' (0 + h) n 0 1 0).2.toInt64) = (fun h => (s_X7_expects_L51 pe la kd' nd' od' wo' (0 + 2 ^ 0 * h) n 0 1 0).1 * (s_X7_expects_L51 pe la kd' nd' od' wo' (0 + 2 ^ 0 * h) n 0 1 0).2.toInt64) := by
    funext h
    rw [Nat.pow_zero, Nat.one_mul]
  rw [e0]
  exact l.trans e
end EQMEAN
