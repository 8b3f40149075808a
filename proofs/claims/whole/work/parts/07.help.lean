abbrev GM (p : Program) (l : Launch) (e : Env) (s : State) (m : MethodId) (below : List Frame) (meth : Method) (c : Code) (D : va_G) (fr lo nL : Nat) (av : List Value) (ws1 : va_W) (A : Nat → Prop) (rv : Option Value) (ws : va_W) (pc : Nat) (lv : List (Nat × Value)) (st : List Value) : Prop :=
  G p l e { frames := fr, cells := 0, slots := 0, locals := lo } s m av.toArray below meth c D s.heap A nL (MQ below (fun _ st o t => o = .returned rv ∧ va_P D classes ws1 t.heap ∧ va_F A st t) av.toArray s 0 0 A) ws pc lv st
theorem nv_add {x y : Int32} {a b : Nat} (h1 : x = nI a) (h2 : y = nI b) : x + y = nI (a + b) := by rw [h1, h2, nI_add]
theorem nv_mul {x y : Int32} {a b : Nat} (h1 : x = nI a) (h2 : y = nI b) : x * y = nI (a * b) := by rw [h1, h2, pk_mul]
theorem nv_sub {x y : Int32} {a b : Nat} (h : b ≤ a) (h1 : x = nI a) (h2 : y = nI b) : x - y = nI (a - b) := by rw [h1, h2, pk_sub h]
theorem nv_lt {x y : Int32} {a b : Nat} (h1 : x = nI a) (h2 : y = nI b) (ha : a < 2 ^ 31) (hb : b < 2 ^ 31) : x < y ↔ a < b := by rw [h1, h2]; exact nI_ltI ha hb
theorem nv_eq {x y : Int32} {a b : Nat} (h1 : x = nI a) (h2 : y = nI b) (ha : a < 2 ^ 31) (hb : b < 2 ^ 31) : x = y ↔ a = b := by rw [h1, h2]; exact nI_eq ha hb
theorem inc_nI (d : Nat) : nI d + Int32.ofInt 1 = nI (d + 1) := nI_1 d
theorem i32_eq (x y : Int32) (v : Int) (hy : y.toInt = v) (h : x.toInt = v) : x = y := Int32.toInt_inj.mp (h.trans hy.symm)
/-- an int that isn't below 0, as a number -/
theorem nn_nI {x : Int32} (h : ¬ x < 0) : x = nI x.toNatClampNeg := by
  obtain ⟨j, hj, rfl⟩ := nI_of h
  rw [nI_clamp hj]
theorem nn_lt {x : Int32} {n : Nat} (hn : n < 2 ^ 31) (h : ¬ x < 0) (h2 : x < nI n) : x.toNatClampNeg < n := by
  obtain ⟨j, hj, rfl⟩ := nI_of h
  rw [nI_clamp hj]
  exact (nI_ltI hj hn).mp h2
theorem nn_le {x : Int32} {n : Nat} (hn : n < 2 ^ 31) (h : ¬ x < 0) (h2 : ¬ nI n < x) : x.toNatClampNeg ≤ n := by
  obtain ⟨j, hj, rfl⟩ := nI_of h
  rw [nI_clamp hj]
  exact Nat.not_lt.mp (fun z => h2 ((nI_ltI hn hj).mpr z))
section HR
variable {p : Program} {l : Launch} {e : Env} {R : Room} {s : State} {m : MethodId} {args : Array Value} {below : List Frame} {meth : Method} {c : Code} {D : va_G} {H0 : Heap} {A : Nat → Prop} {nL : Nat} {Q : State → Prop} {ws : va_W} {pc : Nat} {lv : List (Nat × Value)} {st : List Value} {cc : ByteArray} {own : String} {ret : Option FieldType}
theorem r_top {x y : Int32} (h : x = y) (k : G p l e R s m args below meth c D H0 A nL Q ws pc lv (.int y :: st)) : G p l e R s m args below meth c D H0 A nL Q ws pc lv (.int x :: st) := by rw [h]; exact k
theorem r_stk {st2 : List Value} (h : st = st2) (k : G p l e R s m args below meth c D H0 A nL Q ws pc lv st2) : G p l e R s m args below meth c D H0 A nL Q ws pc lv st := by rw [h]; exact k
theorem r_lve {lv2 : List (Nat × Value)} (h : lv = lv2) (k : G p l e R s m args below meth c D H0 A nL Q ws pc lv2 st) : G p l e R s m args below meth c D H0 A nL Q ws pc lv st := by rw [h]; exact k
theorem r_mmax (C : Cx p s m args meth c cc own nL ret D) {index : Nat} {x y : Int32} (hlk : Cond.methodLink own index yJ9_max_7cf53 ∈ TBL) (hf : 1 ≤ R.frames) (hlo : (st.map fun v => v.category).sum + 13 ≤ R.locals) (hdg : decode cc pc = .ok (.invokestatic index, 3)) (k : G p l e R s m args below meth c D H0 A nL Q ws (pc + 3) lv (.int (if x < y then y else x) :: st)) : G p l e R s m args below meth c D H0 A nL Q ws pc lv (.int y :: .int x :: st) :=
  fun H locs ls hP hS hl => va_mmax C.1 C.2.1 (by rw [C.2.2.2.2.1, hl.1]) C.2.2.2.1 (C.2.2.1 _ hlk) (C.2.2.1 _ ws_J9_max_7cf53) (C.2.2.1 _ wi_J9) (C.2.2.1 _ ok_J9_max_7cf53.1) hf hlo (Nat.zero_le _) (Nat.zero_le _) hdg (k H locs ls hP hS hl)
theorem dis_sub {w0 wsC : va_W} {B : Nat → Prop} (h0 : va_D B w0) (is : List Nat) (hn : va_nd is = true) (h : is.map (fun i => (w0[i]?).map (·.1)) = wsC.map (fun q => some q.1)) : va_D (fun _ => True) wsC := by
  have at' : ∀ (k : Nat) (q : Nat × va_E), wsC[k]? = some q → ∃ (i : Nat) (e : va_E), is[k]? = some i ∧ w0[i]? = some (q.1, e) := by
    intro k q hq
    have h1 : (is.map (fun i => (w0[i]?).map (·.1)))[k]? = some (some q.1) := by rw [h, List.getElem?_map, hq]; rfl
    rw [List.getElem?_map] at h1
    cases hi : is[k]? with
    | none => rw [hi] at h1; cases h1
    | some i =>
      rw [hi] at h1
      have h2 := Option.some.inj h1
      cases hw : w0[i]? with
      | none => simp only [hw] at h2; cases h2
      | some z => simp only [hw] at h2; exact ⟨i, z.2, rfl, by rw [hw, ← Option.some.inj h2]⟩
  refine ⟨fun i j p q hi hj hpq => ?_, fun _ _ _ => trivial⟩
  obtain ⟨i1, e1, a1, b1⟩ := at' i p hi
  obtain ⟨j1, e2, a2, b2⟩ := at' j q hj
  have e := h0.1 i1 j1 _ _ b1 b2 hpq
  subst e
  exact va_nd_inj is hn i j i1 a1 a2
end HR
