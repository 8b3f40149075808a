section ILAW
variable {p : Program} {l : Launch} {e : Env} {R : Room} {s : State} {m : MethodId} {args : Array Value} {below : List Frame} {meth : Method} {c : Code} {D : va_G} {A : Nat → Prop} {nL : Nat} {Q : State → Prop} {ws : va_W} {pc : Nat} {lv : List (Nat × Value)} {st : List Value} {cc : ByteArray} {own : String} {ret : Option FieldType} {nc ns : Nat} {b L : Nat} {xs : Nat → Int32}
theorem i_sld (C : Cx p s m args meth c cc own nL ret D) (hX : va_X b L xs s s.heap) (hbl : b < s.heap.size) (hbA : ¬ A b) {i : Int32} (j : Nat) (hi : i = nI j) (hj : j < L) (hL : L ≤ 448) (hdg : decode cc pc = .ok (.iaload, 1)) (k : GI p l e R s m args below meth c D s.heap A nL Q nc ns ws (pc + 1) lv (.int (xs j) :: st)) : GI p l e R s m args below meth c D s.heap A nL Q nc ns ws pc lv (.int i :: .ref b :: st) := by
  intro H locs ls hP hD hS hl
  subst hi
  have e : (nI j).toNatClampNeg = j := nI_clamp (by omega)
  refine va_sld C.1 C.2.1 hX hbl hbA hS (vp_in_nI hj (by omega)) hdg ?_
  rw [e]
  exact k H locs ls hP hD hS hl
theorem i_slen (C : Cx p s m args meth c cc own nL ret D) (hX : va_X b L xs s s.heap) (hbl : b < s.heap.size) (hbA : ¬ A b) (hdg : decode cc pc = .ok (.arraylength, 1)) (k : GI p l e R s m args below meth c D s.heap A nL Q nc ns ws (pc + 1) lv (.int (nI L) :: st)) : GI p l e R s m args below meth c D s.heap A nL Q nc ns ws pc lv (.ref b :: st) :=
  fun H locs ls hP hD hS hl => va_slen C.1 C.2.1 hX hbl hbA hS hdg (k H locs ls hP hD hS hl)
variable {H0 : Heap} {y : MethodName} {bc : ByteArray} {nl : Nat} {rt : Option FieldType} {fr lo n idx : Nat} {As rest st' : List Value} {wA wB ws1 : va_W} {rv : Option Value} {bb ci : Nat} {fs : List Value} {K : String} {T : u_T} {N : Nat}
theorem app_P {H : Heap} (h : va_P D classes (wA ++ wB) H) : va_P D classes wA H ∧ va_P D classes wB H :=
  ⟨fun k q hk => h k q (by rw [List.getElem?_append_left (List.getElem?_eq_some_iff.mp hk).1]; exact hk), fun k q hk => h (wA.length + k) q (by rw [List.getElem?_append_right (by omega), Nat.add_sub_cancel_left]; exact hk)⟩
theorem P_app {H : Heap} (h1 : va_P D classes wA H) (h2 : va_P D classes wB H) : va_P D classes (wA ++ wB) H := by
  intro k q hk
  rcases Nat.lt_or_ge k wA.length with z | z
  · rw [List.getElem?_append_left z] at hk; exact h1 k q hk
  · rw [List.getElem?_append_right z] at hk; exact h2 _ q hk
/-- a writing call whose world is the last part of the caller's -/
theorem i_callB (C : Cx p s m args meth c cc own nL ret D) (hM : va_D (fun _ => True) wB → ct l y bc nl rt fr lo D (.ref bb :: As) wB ws1 (Ad wB) rv) (ok : okM y bc nl rt n) (hi : Cond.instanceMethod y ∈ TBL) (hse : Cond.selects K y y ∈ TBL) (hlk : Cond.methodLink own idx y ∈ TBL) (q0 : Nat) (he : wB[q0]? = some (bb, .inr (ci, fs))) (hc : classes[ci]? = some (K, T, N)) (hn : As.length = n) (hR : fr + 1 ≤ R.frames ∧ 8 + (nl + 11) + lo ≤ R.locals) (hcs : nc ≤ R.cells ∧ ns ≤ R.slots) (hw : ws1.map (·.1) = wB.map (·.1)) (hstk : st = As.reverse ++ .ref bb :: rest) (hrest : (rest.map fun v => v.category).sum ≤ 8) (hdg : decode cc pc = .ok (.invokevirtual idx, 3)) (hst : rv.toList ++ rest = st') (k : GI p l e R s m args below meth c D H0 A nL Q nc ns (wA ++ ws1) (pc + 3) lv st') : GI p l e R s m args below meth c D H0 A nL Q nc ns (wA ++ wB) pc lv st := by
  intro H locs ls hP hD hS hl T1 hT X
  obtain ⟨hPA, hPC⟩ := app_P hP
  have hBi : ∀ (k : Nat) (q : Nat × va_E), wB[k]? = some q → (wA ++ wB)[wA.length + k]? = some q := fun k q hk => by rw [List.getElem?_append_right (by omega), Nat.add_sub_cancel_left]; exact hk
  have hAi : ∀ (k : Nat) (q : Nat × va_E), wA[k]? = some q → (wA ++ wB)[k]? = some q := fun k q hk => by rw [List.getElem?_append_left (List.getElem?_eq_some_iff.mp hk).1]; exact hk
  have hDC : va_D (fun _ => True) wB := ⟨fun i j p q hi hj hpq => by have := hD.1 _ _ _ _ (hBi i p hi) (hBi j q hj) hpq; omega, fun _ _ _ => trivial⟩
  have hr := va_runV (Ts := TBL) (C := K) (e := e) (below := below) (meth := meth) (cells := nc) (slots := ns) (locs := locs) (g := F0 m pc ls st) (rest := rest) ⟨C.1, C.2.1, C.2.2.2.2.1, C.2.2.2.1, C.2.2.1⟩ (hM hDC) ⟨⟨rfl, rfl, hR.1, hR.2, ct_ws C ok, List.mem_cons_self, C.2.2.1 _ ok.1, C.2.2.1 _ ok.2.1, ok.2.2.1, ct_len ok.2.2.2, C.2.2.1 _ hlk⟩, C.2.2.1 _ hi, C.2.2.1 _ hse⟩ ⟨ct_blind, va_recv C.2.2.2.2.2.1 hPC hc he, ct_pre C hPC⟩ rfl hn hl.1 hstk (lv_room hrest) hdg hcs
  obtain ⟨v, st₀, t, T', L, hh, X', hL, e1, e2, ⟨hv, hP1, hz, hk⟩, stp⟩ := hr T1 hT X
  cases hv
  subst hst
  rw [hh] at hz hk
  have hsubA : ∀ q : Nat, Ad wB q → A q := fun q hq => by
    obtain ⟨i, e, hi⟩ := hq
    exact hD.2 _ (q, e) (hBi i _ hi)
  have hP2 : va_P D classes (wA ++ ws1) T'.heap := by
    refine P_app (fun i q hi => ?_) (by rw [e1]; exact hP1)
    rw [e1]
    refine (hPA i q hi).kept (hk q.1 ((hPA i q hi).lt) (fun z => ?_))
    obtain ⟨j, e, hj⟩ := z
    have h1 := hD.1 _ _ _ _ (hAi i q hi) (hBi j _ hj) rfl
    have h2 := (List.getElem?_eq_some_iff.mp hi).1
    omega
  have hD2 : va_D A (wA ++ ws1) := by
    have at' : ∀ (i : Nat) (q : Nat × va_E), (wA ++ ws1)[i]? = some q → ∃ e : va_E, (wA ++ wB)[i]? = some (q.1, e) := by
      intro i q hq
      have h4 : ((wA ++ ws1).map (·.1))[i]? = some q.1 := by rw [List.getElem?_map, hq]; rfl
      rw [List.map_append, hw, ← List.map_append, List.getElem?_map] at h4
      cases h5 : (wA ++ wB)[i]? with
      | none => rw [h5] at h4; cases h4
      | some z => rw [h5] at h4; exact ⟨z.2, by rw [← Option.some.inj h4]⟩
    refine ⟨fun i j p q hi hj hpq => ?_, fun i q hi => ?_⟩
    · obtain ⟨e1, f1⟩ := at' i p hi
      obtain ⟨e2, f2⟩ := at' j q hj
      exact hD.1 i j _ _ f1 f2 hpq
    · obtain ⟨e1, f1⟩ := at' i q hi
      exact hD.2 i (q.1, e1) f1
  obtain ⟨t2, a1, b1⟩ := k T'.heap (locs ++ L) ls hP2 hD2 ⟨Nat.le_trans hS.1 (by rw [e1]; exact hz), fun q h1 h2 => by rw [e1, hk q (Nat.lt_of_lt_of_le h1 hS.1) (fun z => h2 (hsubA q z))]; exact hS.2.1 q h1 h2, fun q hq => (List.mem_append.mp hq).elim (hS.2.2 q) (fun h => hsubA _ (hL q h))⟩ hl T' rfl X'
  exact ⟨t2, stp t2 a1, b1⟩
/-- a call that reads, of an object in the last part -/
theorem i_callBR (C : Cx p s m args meth c cc own nL ret D) (hM : ct l y bc nl rt fr lo D (.ref bb :: As) wB wB (fun _ => False) rv) (ok : okM y bc nl rt n) (hi : Cond.instanceMethod y ∈ TBL) (hse : Cond.selects K y y ∈ TBL) (hlk : Cond.methodLink own idx y ∈ TBL) (q0 : Nat) (he : wB[q0]? = some (bb, .inr (ci, fs))) (hc : classes[ci]? = some (K, T, N)) (hn : As.length = n) (hR : fr + 1 ≤ R.frames ∧ 8 + (nl + 11) + lo ≤ R.locals) (hcs : nc ≤ R.cells ∧ ns ≤ R.slots) (hstk : st = As.reverse ++ .ref bb :: rest) (hrest : (rest.map fun v => v.category).sum ≤ 8) (hdg : decode cc pc = .ok (.invokevirtual idx, 3)) (hst : rv.toList ++ rest = st') (k : GI p l e R s m args below meth c D H0 A nL Q nc ns (wA ++ wB) (pc + 3) lv st') : GI p l e R s m args below meth c D H0 A nL Q nc ns (wA ++ wB) pc lv st := by
  intro H locs ls hP hD hS hl T1 hT X
  obtain ⟨hPA, hPC⟩ := app_P hP
  have hr := va_runV (Ts := TBL) (C := K) (e := e) (below := below) (meth := meth) (cells := nc) (slots := ns) (locs := locs) (g := F0 m pc ls st) (rest := rest) ⟨C.1, C.2.1, C.2.2.2.2.1, C.2.2.2.1, C.2.2.1⟩ hM ⟨⟨rfl, rfl, hR.1, hR.2, ct_ws C ok, List.mem_cons_self, C.2.2.1 _ ok.1, C.2.2.1 _ ok.2.1, ok.2.2.1, ct_len ok.2.2.2, C.2.2.1 _ hlk⟩, C.2.2.1 _ hi, C.2.2.1 _ hse⟩ ⟨ct_blind, va_recv C.2.2.2.2.2.1 hPC hc he, ct_pre C hPC⟩ rfl hn hl.1 hstk (lv_room hrest) hdg hcs
  obtain ⟨v, st₀, t, T', L, h0, X', hL, e1, e2, ⟨hv, -, hz, hk⟩, stp⟩ := hr T1 hT X
  cases hv
  subst hst
  rw [h0] at hz hk
  have hP2 : va_P D classes (wA ++ wB) T'.heap := by rw [e1]; exact hP.kept (fun k q hq => hk q.1 ((hP k q hq).lt) (fun z => z))
  obtain ⟨t2, a1, b1⟩ := k T'.heap (locs ++ L) ls hP2 hD ⟨Nat.le_trans hS.1 (by rw [e1]; exact hz), fun q h1 h2 => by rw [e1, hk q (Nat.lt_of_lt_of_le h1 hS.1) (fun z => z)]; exact hS.2.1 q h1 h2, fun q hq => (List.mem_append.mp hq).elim (hS.2.2 q) (fun h => (hL q h).elim)⟩ hl T' rfl X'
  exact ⟨t2, stp t2 a1, b1⟩
end ILAW
