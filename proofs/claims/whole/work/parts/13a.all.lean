section ALLW
variable {p : Program} {l : Launch} {e : Env} {R : Room} {s : State} {m : MethodId} {args : Array Value} {below : List Frame} {meth : Method} {c : Code} {D : va_G} {H0 : Heap} {A : Nat → Prop} {nL : Nat} {Q : State → Prop} {ws : va_W} {pc : Nat} {lv : List (Nat × Value)} {st : List Value} {cc : ByteArray} {own : String} {ret : Option FieldType}
/-- the places of a whole world -/
theorem fm_range {α : Type} : ∀ (ws pre : List α), (List.range' pre.length ws.length).filterMap (fun i => (pre ++ ws)[i]?) = ws := by
  intro ws
  induction ws with
  | nil => intro pre; rfl
  | cons x xs ih =>
    intro pre
    have h := ih (pre ++ [x])
    rw [List.length_append, List.append_assoc] at h
    show (List.range' pre.length (xs.length + 1)).filterMap _ = _
    rw [List.range'_succ, List.filterMap_cons]
    have e : (pre ++ x :: xs)[pre.length]? = some x := by rw [List.getElem?_append_right (Nat.le_refl _), Nat.sub_self]; rfl
    rw [e]
    exact congrArg (x :: ·) h
theorem fm_all {ws : va_W} : (List.range' 0 ws.length).filterMap (fun i => ws[i]?) = ws := fm_range ws []
theorem dis_all {w0 : va_W} {B : Nat → Prop} (h0 : va_D B w0) (hw : ws.map (·.1) = w0.map (·.1)) : va_D (fun _ => True) ws := ⟨(dis_of h0 hw).1, fun _ _ _ => trivial⟩
/-- a callee that writes, and whose world is the caller's whole world -/
theorem aft_wa {rest st' : List Value} {rv : Option Value} {w0 ws1 ws2 : va_W} {B : Nat → Prop} (h0 : va_D B w0) (hA : Ad w0 = A) (hw : ws.map (·.1) = w0.map (·.1)) (h : ∀ (H : Heap) (locs : List Loc) (ls : Array Slot), va_P D classes ws H → va_S A H0 H locs → lv_has ls nL lv → va_Run p l e R s m args below meth c H locs 0 0 0 0 (F0 m pc ls st) rest (fun st o t => o = .returned rv ∧ va_P D classes ws1 t.heap ∧ va_F (Ad ws) st t) (Ad ws)) (h2 : ws1 = ws2) (hst : rv.toList ++ rest = st') (k : G p l e R s m args below meth c D H0 A nL Q ws2 (pc + 3) lv st') : G p l e R s m args below meth c D H0 A nL Q ws pc lv st := by
  intro H locs ls hP hS hl T hT X
  obtain ⟨v, st₀, t, T', L, hh, X', hL, e1, e2, ⟨hv, hP1, hz, hk⟩, stp⟩ := h H locs ls hP hS hl T hT X
  cases hv
  subst hst; subst hA; subst h2
  rw [hh] at hz hk
  have hD := dis_of h0 hw
  have hsub : ∀ q : Nat, Ad ws q → Ad w0 q := fun q hq => by
    obtain ⟨i, e, hi⟩ := hq
    exact hD.2 i _ hi
  obtain ⟨t2, a1, b1⟩ := k T'.heap (locs ++ L) ls (by rw [e1]; exact hP1) ⟨Nat.le_trans hS.1 (by rw [e1]; exact hz), fun q h1 h2 => by rw [e1, hk q (Nat.lt_of_lt_of_le h1 hS.1) (fun z => h2 (hsub q z))]; exact hS.2.1 q h1 h2, fun q hq => (List.mem_append.mp hq).elim (hS.2.2 q) (fun h => hsub _ (hL q h))⟩ hl T' rfl X'
  exact ⟨t2, stp t2 a1, b1⟩
end ALLW
