theorem arr_ex {args : Array Value} {s : State} {ty : FieldType} (h : (Cond.arrayClass ty).before args s = true) : ∃ cA : ClassId, ArrOfT s cA ty ∧ s.vm.findClass ("[" ++ ty.toString) = some cA := by
  obtain ⟨cA, kA, comp, h1, h2, h3⟩ := Cond.arrayClass_spec h
  exact ⟨cA, fun n z => ⟨fun k h => (by cases h), kA, h2, comp, h3⟩, h1⟩
/-- the classes as the tables have them -/
theorem law_D {args : Array Value} {s : State} (hts : ∀ w ∈ TBL, w.before args s = true) : ∃ D : va_G, va_K D classes (tysD D) s := by
  obtain ⟨c0, i0, k0⟩ := u_known (C := RX5) (T := TX5) (N := 12) (n := 12) hts iX5 (hts _ wt_X5)
  obtain ⟨c1, i1, k1⟩ := u_known (C := RX3) (T := TX3) (N := 4) (n := 4) hts iX3 (hts _ wt_X3)
  obtain ⟨c2, i2, k2⟩ := u_known (C := RX2) (T := TX2) (N := 3) (n := 3) hts iX2 (hts _ wt_X2)
  obtain ⟨c3, i3, k3⟩ := u_known (C := RX6) (T := TX6) (N := 9) (n := 9) hts iX6 (hts _ wt_X6)
  obtain ⟨c4, i4, k4⟩ := u_known (C := RX7) (T := TX7) (N := 37) (n := 37) hts iX7 (hts _ wt_X7)
  obtain ⟨a0, ha0, hb0⟩ := arr_ex (hts _ wa_int)
  obtain ⟨a1, ha1, hb1⟩ := arr_ex (hts _ wa_long)
  obtain ⟨a2, ha2, hb2⟩ := arr_ex (hts _ wa_char)
  refine ⟨(fun k => if k = 0 then c0 else if k = 1 then c1 else if k = 2 then c2 else if k = 3 then c3 else if k = 4 then c4 else if k = 10 then a0 else if k = 11 then a1 else a2, fun k => if k = 0 then i0 else if k = 1 then i1 else if k = 2 then i2 else if k = 3 then i3 else i4), ?_, ?_⟩
  · intro k q hq
    match k, hq with
    | 0, hq => cases hq; exact k0
    | 1, hq => cases hq; exact k1
    | 2, hq => cases hq; exact k2
    | 3, hq => cases hq; exact k3
    | 4, hq => cases hq; exact k4
    | k + 5, hq => simp [classes] at hq
  · intro k q hq
    match k, hq with
    | 0, hq => cases hq; exact ⟨ha0, hb0⟩
    | 1, hq => cases hq; exact ⟨ha1, hb1⟩
    | 2, hq => cases hq; exact ⟨ha2, hb2⟩
    | k + 3, hq => simp [tysD] at hq
section ICALL
variable {p : Program} {l : Launch} {e : Env} {R : Room} {s : State} {m : MethodId} {args : Array Value} {below : List Frame} {meth : Method} {c : Code} {D : va_G} {H0 : Heap} {A : Nat → Prop} {nL : Nat} {Q : State → Prop} {ws : va_W} {pc : Nat} {lv : List (Nat × Value)} {st : List Value} {cc : ByteArray} {own : String} {ret : Option FieldType} {nc ns : Nat}
variable {y : MethodName} {b : ByteArray} {nl : Nat} {rt : Option FieldType} {fr lo n idx : Nat} {As rest st' : List Value} {wsC ws1 ws2 : va_W} {rv : Option Value} {bb ci : Nat} {fs : List Value} {K : String} {T : u_T} {N : Nat}
theorem i_callR (C : Cx p s m args meth c cc own nL ret D) (hM : ct l y b nl rt fr lo D (.ref bb :: As) wsC wsC (fun _ => False) rv) (ok : okM y b nl rt n) (hi : Cond.instanceMethod y ∈ TBL) (hse : Cond.selects K y y ∈ TBL) (hlk : Cond.methodLink own idx y ∈ TBL) (is : List Nat) (q0 : Nat) (he : wsC[q0]? = some (bb, .inr (ci, fs))) (hc : classes[ci]? = some (K, T, N)) (hn : As.length = n) (hR : fr + 1 ≤ R.frames ∧ 8 + (nl + 11) + lo ≤ R.locals) (hcs : nc ≤ R.cells ∧ ns ≤ R.slots) (hsub : is.filterMap (fun i => ws[i]?) = wsC) (hstk : st = As.reverse ++ .ref bb :: rest) (hrest : (rest.map fun v => v.category).sum ≤ 8) (hdg : decode cc pc = .ok (.invokevirtual idx, 3)) (hst : rv.toList ++ rest = st') (k : GI p l e R s m args below meth c D H0 A nL Q nc ns ws (pc + 3) lv st') : GI p l e R s m args below meth c D H0 A nL Q nc ns ws pc lv st := by
  intro H locs ls hP hD hS hl T1 hT X
  have hPC := hP.sub is hsub
  have hr := va_runV (Ts := TBL) (C := K) (e := e) (below := below) (meth := meth) (cells := nc) (slots := ns) (locs := locs) (g := F0 m pc ls st) (rest := rest) ⟨C.1, C.2.1, C.2.2.2.2.1, C.2.2.2.1, C.2.2.1⟩ hM ⟨⟨rfl, rfl, hR.1, hR.2, ct_ws C ok, List.mem_cons_self, C.2.2.1 _ ok.1, C.2.2.1 _ ok.2.1, ok.2.2.1, ct_len ok.2.2.2, C.2.2.1 _ hlk⟩, C.2.2.1 _ hi, C.2.2.1 _ hse⟩ ⟨ct_blind, va_recv C.2.2.2.2.2.1 hPC hc he, ct_pre C hPC⟩ rfl hn hl.1 hstk (lv_room hrest) hdg hcs
  obtain ⟨v, st₀, t, T', L, h0, X', hL, e1, e2, ⟨hv, -, hz, hk⟩, stp⟩ := hr T1 hT X
  cases hv
  subst hst
  rw [h0] at hz hk
  have hP2 : va_P D classes ws T'.heap := by rw [e1]; exact hP.kept (fun k q hq => hk q.1 ((hP k q hq).lt) (fun z => z))
  obtain ⟨t2, a1, b1⟩ := k T'.heap (locs ++ L) ls hP2 hD ⟨Nat.le_trans hS.1 (by rw [e1]; exact hz), fun q h1 h2 => by rw [e1, hk q (Nat.lt_of_lt_of_le h1 hS.1) (fun z => z)]; exact hS.2.1 q h1 h2, fun q hq => (List.mem_append.mp hq).elim (hS.2.2 q) (fun h => (hL q h).elim)⟩ hl T' rfl X'
  exact ⟨t2, stp t2 a1, b1⟩
theorem i_callW (C : Cx p s m args meth c cc own nL ret D) (hM : va_D (fun _ => True) wsC → ct l y b nl rt fr lo D (.ref bb :: As) wsC ws1 (Ad wsC) rv) (ok : okM y b nl rt n) (hi : Cond.instanceMethod y ∈ TBL) (hse : Cond.selects K y y ∈ TBL) (hlk : Cond.methodLink own idx y ∈ TBL) (is : List Nat) (q0 : Nat) (he : wsC[q0]? = some (bb, .inr (ci, fs))) (hc : classes[ci]? = some (K, T, N)) (hn : As.length = n) (hR : fr + 1 ≤ R.frames ∧ 8 + (nl + 11) + lo ≤ R.locals) (hcs : nc ≤ R.cells ∧ ns ≤ R.slots) (hsub : is.filterMap (fun i => ws[i]?) = wsC) (hC : is.map (fun i => ws[i]?) = wsC.map some) (hnd : va_nd is = true) (hlen : is.length = ws1.length) (h2 : wput ws is ws1 = ws2) (hw : ws2.map (·.1) = ws.map (·.1)) (hstk : st = As.reverse ++ .ref bb :: rest) (hrest : (rest.map fun v => v.category).sum ≤ 8) (hdg : decode cc pc = .ok (.invokevirtual idx, 3)) (hst : rv.toList ++ rest = st') (k : GI p l e R s m args below meth c D H0 A nL Q nc ns ws2 (pc + 3) lv st') : GI p l e R s m args below meth c D H0 A nL Q nc ns ws pc lv st := by
  intro H locs ls hP hD hS hl T1 hT X
  have hPC := hP.sub is hsub
  have hDC := (hD.sub (ws' := wsC) is hnd hC).weaken (B := fun _ => True) (fun _ _ _ _ => trivial)
  have hr := va_runV (Ts := TBL) (C := K) (e := e) (below := below) (meth := meth) (cells := nc) (slots := ns) (locs := locs) (g := F0 m pc ls st) (rest := rest) ⟨C.1, C.2.1, C.2.2.2.2.1, C.2.2.2.1, C.2.2.1⟩ (hM hDC) ⟨⟨rfl, rfl, hR.1, hR.2, ct_ws C ok, List.mem_cons_self, C.2.2.1 _ ok.1, C.2.2.1 _ ok.2.1, ok.2.2.1, ct_len ok.2.2.2, C.2.2.1 _ hlk⟩, C.2.2.1 _ hi, C.2.2.1 _ hse⟩ ⟨ct_blind, va_recv C.2.2.2.2.2.1 hPC hc he, ct_pre C hPC⟩ rfl hn hl.1 hstk (lv_room hrest) hdg hcs
  obtain ⟨v, st₀, t, T', L, hh, X', hL, e1, e2, ⟨hv, hP1, hz, hk⟩, stp⟩ := hr T1 hT X
  cases hv
  subst hst; subst h2
  rw [hh] at hz hk
  have hAd : ∀ q : Nat, Ad wsC q → ∃ (i : Nat) (e : va_E), i ∈ is ∧ ws[i]? = some (q, e) := by
    intro q hq
    obtain ⟨k2, e2, hk2⟩ := hq
    have h3 : (is.map (fun i => ws[i]?))[k2]? = some (some (q, e2)) := by rw [hC, List.getElem?_map, hk2]; rfl
    rw [List.getElem?_map] at h3
    cases hi : is[k2]? with
    | none => rw [hi] at h3; cases h3
    | some i => rw [hi] at h3; exact ⟨i, e2, List.mem_of_getElem? hi, Option.some.inj h3⟩
  have hsubA : ∀ q : Nat, Ad wsC q → A q := fun q hq => by
    obtain ⟨i, e, -, hi⟩ := hAd q hq
    exact hD.2 i _ hi
  have hP2 : va_P D classes (wput ws is ws1) T'.heap := by
    refine wput_P is ws ws1 hlen (fun i q hi hm => ?_) (by rw [e1]; exact hP1)
    rw [e1]
    refine (hP i q hi).kept (hk q.1 ((hP i q hi).lt) (fun z => ?_))
    obtain ⟨j, e, hj, hj2⟩ := hAd q.1 z
    exact hm (hD.1 i j q _ hi hj2 rfl ▸ hj)
  have hD2 : va_D A (wput ws is ws1) := by
    have at' : ∀ (i : Nat) (q : Nat × va_E), (wput ws is ws1)[i]? = some q → ∃ e : va_E, ws[i]? = some (q.1, e) := by
      intro i q hq
      have h4 : ((wput ws is ws1).map (·.1))[i]? = some q.1 := by rw [List.getElem?_map, hq]; rfl
      rw [hw, List.getElem?_map] at h4
      cases h5 : ws[i]? with
      | none => rw [h5] at h4; cases h4
      | some z => rw [h5] at h4; exact ⟨z.2, by rw [← Option.some.inj h4]⟩
    refine ⟨fun i j p q hi hj hpq => ?_, fun i q hi => ?_⟩
    · obtain ⟨e1, f1⟩ := at' i p hi
      obtain ⟨e2, f2⟩ := at' j q hj
      exact hD.1 i j _ _ f1 f2 hpq
    · obtain ⟨e1, f1⟩ := at' i q hi
      exact hD.2 i (q.1, e1) f1
  obtain ⟨t2, a1, b1⟩ := k T'.heap (locs ++ L) ls hP2 hD2 ⟨Nat.le_trans hS.1 (by rw [e1]; exact hz), fun q h1 h2 => by rw [e1, hk q (Nat.lt_of_lt_of_le h1 hS.1) (fun z => h2 (hsubA q z))]; exact hS.2.1 q h1 h2, fun q hq => (List.mem_append.mp hq).elim (hS.2.2 q) (fun h => hsubA _ (hL q h))⟩ hl T' rfl X'
  exact ⟨t2, stp t2 a1, b1⟩
end ICALL
