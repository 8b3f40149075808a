section ILAWF
variable {p : Program} {l : Launch} {e : Env} {R : Room} {s : State} {m : MethodId} {args : Array Value} {below : List Frame} {meth : Method} {c : Code} {D : va_G} {A : Nat → Prop} {nL : Nat} {Q : State → Prop} {ws : va_W} {pc : Nat} {lv : List (Nat × Value)} {st : List Value} {cc : ByteArray} {own : String} {ret : Option FieldType} {nc ns : Nat}
variable {H0 : Heap} {y : MethodName} {bc : ByteArray} {nl : Nat} {rt : Option FieldType} {fr lo n idx : Nat} {As rest st' : List Value} {wA wB ws1 : va_W} {rv : Option Value} {bb ci : Nat} {fs : List Value} {K : String} {T : u_T} {N : Nat}
/-- the same cells, in another order -/
theorem i_sub {ws2 : va_W} (is : List Nat) (h1 : is.filterMap (fun i => ws[i]?) = ws2) (h2 : is.map (fun i => ws[i]?) = ws2.map some) (hn : va_nd is = true) (k : GI p l e R s m args below meth c D H0 A nL Q nc ns ws2 pc lv st) : GI p l e R s m args below meth c D H0 A nL Q nc ns ws pc lv st :=
  fun H locs ls hP hD hS hl => k H locs ls (hP.sub is h1) (hD.sub is hn h2) hS hl
theorem D_swap (h : va_D A (wA ++ wB)) : va_D A (wB ++ wA) := by
  have at' : ∀ (i : Nat) (q : Nat × va_E), (wB ++ wA)[i]? = some q → ∃ j : Nat, (wA ++ wB)[j]? = some q ∧ ((i < wB.length ∧ j = wA.length + i) ∨ (wB.length ≤ i ∧ i < wB.length + wA.length ∧ i = wB.length + j)) := by
    intro i q hq
    have hlt := (List.getElem?_eq_some_iff.mp hq).1
    rw [List.length_append] at hlt
    rcases Nat.lt_or_ge i wB.length with z | z
    · rw [List.getElem?_append_left z] at hq
      exact ⟨wA.length + i, by rw [List.getElem?_append_right (by omega), Nat.add_sub_cancel_left]; exact hq, Or.inl ⟨z, rfl⟩⟩
    · rw [List.getElem?_append_right z] at hq
      exact ⟨i - wB.length, by rw [List.getElem?_append_left (by omega)]; exact hq, Or.inr ⟨z, hlt, by omega⟩⟩
  refine ⟨fun i j p q hi hj hpq => ?_, fun i q hi => ?_⟩
  · obtain ⟨a, ha, ha2⟩ := at' i p hi
    obtain ⟨b, hb, hb2⟩ := at' j q hj
    have := h.1 a b p q ha hb hpq
    have la := (List.getElem?_eq_some_iff.mp ha).1
    have lb := (List.getElem?_eq_some_iff.mp hb).1
    omega
  · obtain ⟨a, ha, -⟩ := at' i q hi
    exact h.2 a q ha
theorem i_swap (k : GI p l e R s m args below meth c D H0 A nL Q nc ns (wB ++ wA) pc lv st) : GI p l e R s m args below meth c D H0 A nL Q nc ns (wA ++ wB) pc lv st :=
  fun H locs ls hP hD hS hl => k H locs ls (P_app (app_P hP).2 (app_P hP).1) (D_swap hD) hS hl
theorem i_eq {ws2 : va_W} (h : ws = ws2) (k : GI p l e R s m args below meth c D H0 A nL Q nc ns ws2 pc lv st) : GI p l e R s m args below meth c D H0 A nL Q nc ns ws pc lv st := h ▸ k
end ILAWF
section IEX
variable {p : Program} {l : Launch} {e : Env} {R : Room} {s : State} {m : MethodId} {args : Array Value} {below : List Frame} {meth : Method} {c : Code} {D : va_G} {A : Nat → Prop} {nL : Nat} {Q : State → Prop} {pc : Nat} {lv : List (Nat × Value)} {st : List Value} {nc ns : Nat} {H0 : Heap} {w1 w2 w3 w4 : va_W}
theorem D_exch (h : va_D A (w1 ++ (w2 ++ (w3 ++ w4)))) : va_D A (w1 ++ (w3 ++ (w2 ++ w4))) := by
  have at' : ∀ (i : Nat) (q : Nat × va_E), (w1 ++ (w3 ++ (w2 ++ w4)))[i]? = some q → ∃ j : Nat, (w1 ++ (w2 ++ (w3 ++ w4)))[j]? = some q ∧ ((i < w1.length ∧ j = i) ∨ (w1.length ≤ i ∧ i < w1.length + w3.length ∧ j = i + w2.length) ∨ (w1.length + w3.length ≤ i ∧ i < w1.length + w3.length + w2.length ∧ j + w3.length = i) ∨ (w1.length + w3.length + w2.length ≤ i ∧ j = i)) := by
    intro i q hq
    rcases Nat.lt_or_ge i w1.length with z1 | z1
    · rw [List.getElem?_append_left z1] at hq
      exact ⟨i, by rw [List.getElem?_append_left z1]; exact hq, Or.inl ⟨z1, rfl⟩⟩
    · rw [List.getElem?_append_right z1] at hq
      rcases Nat.lt_or_ge (i - w1.length) w3.length with z2 | z2
      · rw [List.getElem?_append_left z2] at hq
        refine ⟨i + w2.length, ?_, Or.inr (Or.inl ⟨z1, by omega, rfl⟩)⟩
        rw [List.getElem?_append_right (by omega), List.getElem?_append_right (by omega), List.getElem?_append_left (by omega), show i + w2.length - w1.length - w2.length = i - w1.length from by omega]
        exact hq
      · rw [List.getElem?_append_right z2] at hq
        rcases Nat.lt_or_ge (i - w1.length - w3.length) w2.length with z3 | z3
        · rw [List.getElem?_append_left z3] at hq
          refine ⟨i - w3.length, ?_, Or.inr (Or.inr (Or.inl ⟨by omega, by omega, by omega⟩))⟩
          rw [List.getElem?_append_right (by omega), List.getElem?_append_left (by omega), show i - w3.length - w1.length = i - w1.length - w3.length from by omega]
          exact hq
        · rw [List.getElem?_append_right z3] at hq
          refine ⟨i, ?_, Or.inr (Or.inr (Or.inr ⟨by omega, rfl⟩))⟩
          rw [List.getElem?_append_right (by omega), List.getElem?_append_right (by omega), List.getElem?_append_right (by omega), show i - w1.length - w2.length - w3.length = i - w1.length - w3.length - w2.length from by omega]
          exact hq
  refine ⟨fun i j p q hi hj hpq => ?_, fun i q hi => ?_⟩
  · obtain ⟨a, ha, ha2⟩ := at' i p hi
    obtain ⟨b, hb, hb2⟩ := at' j q hj
    have := h.1 a b p q ha hb hpq
    omega
  · obtain ⟨a, ha, -⟩ := at' i q hi
    exact h.2 a q ha
/-- two blocks change places -/
theorem i_exch (k : GI p l e R s m args below meth c D H0 A nL Q nc ns (w1 ++ (w3 ++ (w2 ++ w4))) pc lv st) : GI p l e R s m args below meth c D H0 A nL Q nc ns (w1 ++ (w2 ++ (w3 ++ w4))) pc lv st :=
  fun H locs ls hP hD hS hl => k H locs ls (P_app (app_P hP).1 (P_app (app_P (app_P (app_P hP).2).2).1 (P_app (app_P (app_P hP).2).1 (app_P (app_P (app_P hP).2).2).2))) (D_exch hD) hS hl
end IEX
