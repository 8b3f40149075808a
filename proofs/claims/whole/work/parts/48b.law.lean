section ILAWF
variable {p : Program} {l : Launch} {e : Env} {R : Room} {s : State} {m : MethodId} {args : Array Value} {below : List Frame} {meth : Method} {c : Code} {D : va_G} {A : Nat → Prop} {nL : Nat} {Q : State → Prop} {ws : va_W} {pc : Nat} {lv : List (Nat × Value)} {st : List Value} {cc : ByteArray} {own : String} {ret : Option FieldType} {nc ns : Nat}
variable {H0 : Heap} {y : MethodName} {bc : ByteArray} {nl : Nat} {rt : Option FieldType} {fr lo n idx : Nat} {As rest st' : List Value} {wA wB ws1 : va_W} {rv : Option Value} {bb ci : Nat} {fs : List Value} {K : String} {T : u_T} {N : Nat}
/-- the same cells, in another order -/
theorem i_sub {ws2 : va_W} (is : List Nat) (h1 : is.filterMap (fun i => ws[i]?) = ws2) (h2 : is.map (fun i => ws[i]?) = ws2.map some) (hn : va_nd is = true) (k : GI p l e R s m args below meth c D H0 A nL Q nc ns ws2 pc lv st) : GI p l e R s m args below meth c D H0 A nL Q nc ns ws pc lv st :=
  fun H locs ls hP hD hS hl => k H locs ls (hP.sub is h1) (hD.sub is hn h2) hS hl
theorem D_swap (h : va_D A (wA ++ wB)) : va_D A (wB ++ wA) := by
  have at' : ∀ (i : Nat) (q : Nat × va_E), (wB ++ wA)[i]? = some q → ∃ j : Nat, (wA ++ wB)[j]? = some q ∧ ((i < wB.length ∧ j = wA.length + i) ∨ (wB.length ≤ i ∧ i < wB.length + wA.length ∧ i = wB.length + j)) := by
    intro i q hq
    have hlt := (List.getElem?_eq_some_iff.mp hq).1
    rw [List.length_append] at hlt
    rcases Nat.lt_or_ge i wB.length with z | z
    · rw [List.getElem?_append_left z] at hq
      exact ⟨wA.length + i, by rw [List.getElem?_append_right (by omega), Nat.add_sub_cancel_left]; exact hq, Or.inl ⟨z, rfl⟩⟩
    · rw [List.getElem?_append_right z] at hq
      exact ⟨i - wB.length, by rw [List.getElem?_append_left (by omega)]; exact hq, Or.inr ⟨z, hlt, by omega⟩⟩
  refine ⟨fun i j p q hi hj hpq => ?_, fun i q hi => ?_⟩
  · obtain ⟨a, ha, ha2⟩ := at' i p hi
    obtain ⟨b, hb, hb2⟩ := at' j q hj
    have := h.1 a b p q ha hb hpq
    have la := (List.getElem?_eq_some_iff.mp ha).1
    have lb := (List.getElem?_eq_some_iff.mp hb).1
    omega
  · obtain ⟨a, ha, -⟩ := at' i q hi
    exact h.2 a q ha
theorem i_swap (k : GI p l e R s m args below meth c D H0 A nL Q nc ns (wB ++ wA) pc lv st) : GI p l e R s m args below meth c D H0 A nL Q nc ns (wA ++ wB) pc lv st :=
  fun H locs ls hP hD hS hl => k H locs ls (P_app (app_P hP).2 (app_P hP).1) (D_swap hD) hS hl
theorem i_eq {ws2 : va_W} (h : ws = ws2) (k : GI p l e R s m args below meth c D H0 A nL Q nc ns ws2 pc lv st) : GI p l e R s m args below meth c D H0 A nL Q nc ns ws pc lv st := h ▸ k
end ILAWF
