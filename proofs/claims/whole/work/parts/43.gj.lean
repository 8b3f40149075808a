section GIC
variable {p : Program} {l : Launch} {e : Env} {R : Room} {s : State} {m : MethodId} {args : Array Value} {below : List Frame} {meth : Method} {c : Code} {D : va_G} {H0 : Heap} {A : Nat → Prop} {nL : Nat} {Q : State → Prop} {ws : va_W} {pc : Nat} {lv : List (Nat × Value)} {st : List Value} {cc : ByteArray} {own : String} {ret : Option FieldType} {nc ns : Nat}
theorem i_iast (C : Cx p s m args meth c cc own nL ret D) {ws2 : va_W} (q0 : Nat) {a n : Nat} {f : Nat → Int32} {i x : Int32} (j : Nat) (ha : ws[q0]? = some (a, .inl (D.1 10, n, .inl f))) (hi : i = nI j) (hj : j < n) (hn : n ≤ 200) (hdg : decode cc pc = .ok (.iastore, 1)) (h2 : ws.set q0 (a, .inl (D.1 10, n, .inl (upd f j x))) = ws2) (k : GI p l e R s m args below meth c D H0 A nL Q nc ns ws2 (pc + 1) lv st) : GI p l e R s m args below meth c D H0 A nL Q nc ns ws pc lv (.int x :: .int i :: .ref a :: st) := by
  intro H locs ls hP hD hS hl
  subst hi
  have e : (nI j).toNatClampNeg = j := nI_clamp (by omega)
  refine va_iast C.1 C.2.1 C.2.2.2.2.2.1 hP hD hS q0 0 ha rfl (vp_in_nI hj (by omega)) hdg (fun H1 l1 hP1 hD1 hS1 => ?_)
  rw [e, h2] at hP1 hD1
  exact k H1 l1 ls hP1 hD1 hS1 hl
/-- the class of an array is that of its name -/
theorem arr_is {D : va_G} {cA : ClassId} {ty : FieldType} {q : ClassId} {k : Nat} (hk : (tysD D)[k]? = some (q, ty)) (ht : ty = .int ∨ ty = .long ∨ ty = .char) (h : va_K D classes (tysD D ++ [(cA, ty)]) s) : cA = q := by
  have h1 := (h.2 3 (cA, ty) rfl).2
  have h2 : va_RA s q ty := (h.2 k (q, ty) (by
    have hlt : k < (tysD D).length := by
      rcases Nat.lt_or_ge k (tysD D).length with z | z
      · exact z
      · rw [List.getElem?_eq_none z] at hk; cases hk
    rw [List.getElem?_append_left hlt]; exact hk)).2
  rcases ht with rfl | rfl | rfl
  · exact Option.some.inj (Eq.trans (Eq.symm (show s.vm.findClass ("[" ++ FieldType.int.toString) = some cA from h1)) (show s.vm.findClass ("[" ++ FieldType.int.toString) = some q from h2))
  · exact Option.some.inj (Eq.trans (Eq.symm (show s.vm.findClass ("[" ++ FieldType.long.toString) = some cA from h1)) (show s.vm.findClass ("[" ++ FieldType.long.toString) = some q from h2))
  · exact Option.some.inj (Eq.trans (Eq.symm (show s.vm.findClass ("[" ++ FieldType.char.toString) = some cA from h1)) (show s.vm.findClass ("[" ++ FieldType.char.toString) = some q from h2))
theorem wa_int : Cond.arrayClass (newarray.typeOf .int) ∈ TBL := tbl_tab 87 (by decide +kernel) rfl
theorem wa_char : Cond.arrayClass (newarray.typeOf .char) ∈ TBL := tbl_tab 108 (by decide +kernel) rfl
theorem wa_long : Cond.arrayClass (newarray.typeOf .long) ∈ TBL := tbl_tab 127 (by decide +kernel) rfl
theorem i_newI (C : Cx p s m args meth c cc own nL ret D) (hA : ∀ q, H0.size ≤ q → A q) {n : Int32} {N' : Nat} (hn : ¬ n < 0) (hN : n.toNatClampNeg = N') (hbytes : N' ≤ 200) (hcells : nc + 1 ≤ R.cells) (hslots : ns + N' ≤ R.slots) (hdg : decode cc pc = .ok (.newarray .int, 2)) (k : ∀ q : Nat, GI p l e R s m args below meth c D H0 A nL Q (nc + 1) (ns + N') (ws ++ [(q, .inl (D.1 10, N', .inl (fun _ => 0)))]) (pc + 2) lv (.ref q :: st)) : GI p l e R s m args below meth c D H0 A nL Q nc ns ws pc lv (.int n :: st) := by
  intro H locs ls hP hD hS hl
  refine va_newa (atype := .int) (ty := .int) (a0 := (N', .inl (fun _ => 0))) C.1 C.2.1 (C.2.2.1 _ wa_int) rfl C.2.2.2.2.2.1 hP hD hS hA (fun _ => rfl) hn hN (by show N' * 4 ≤ 536870912; omega) hcells hslots hdg (fun q cA H1 hK1 hP1 hD1 hS1 => ?_)
  have e := arr_is (k := 0) rfl (Or.inl rfl) hK1
  subst e
  exact k q H1 locs ls hP1 hD1 hS1 hl
theorem i_newC (C : Cx p s m args meth c cc own nL ret D) (hA : ∀ q, H0.size ≤ q → A q) {n : Int32} {N' : Nat} (hn : ¬ n < 0) (hN : n.toNatClampNeg = N') (hbytes : N' ≤ 200) (hcells : nc + 1 ≤ R.cells) (hslots : ns + N' ≤ R.slots) (hdg : decode cc pc = .ok (.newarray .char, 2)) (k : ∀ q : Nat, GI p l e R s m args below meth c D H0 A nL Q (nc + 1) (ns + N') (ws ++ [(q, .inl (D.1 12, N', .inl (fun _ => 0)))]) (pc + 2) lv (.ref q :: st)) : GI p l e R s m args below meth c D H0 A nL Q nc ns ws pc lv (.int n :: st) := by
  intro H locs ls hP hD hS hl
  refine va_newa (atype := .char) (ty := .char) (a0 := (N', .inl (fun _ => 0))) C.1 C.2.1 (C.2.2.1 _ wa_char) rfl C.2.2.2.2.2.1 hP hD hS hA (fun _ => rfl) hn hN (by show N' * 2 ≤ 536870912; omega) hcells hslots hdg (fun q cA H1 hK1 hP1 hD1 hS1 => ?_)
  have e := arr_is (k := 2) rfl (Or.inr (Or.inr rfl)) hK1
  subst e
  exact k q H1 locs ls hP1 hD1 hS1 hl
theorem i_newJ (C : Cx p s m args meth c cc own nL ret D) (hA : ∀ q, H0.size ≤ q → A q) {n : Int32} {N' : Nat} (hn : ¬ n < 0) (hN : n.toNatClampNeg = N') (hbytes : N' ≤ 200) (hcells : nc + 1 ≤ R.cells) (hslots : ns + N' ≤ R.slots) (hdg : decode cc pc = .ok (.newarray .long, 2)) (k : ∀ q : Nat, GI p l e R s m args below meth c D H0 A nL Q (nc + 1) (ns + N') (ws ++ [(q, .inl (D.1 11, N', .inr (.inl (fun _ => 0))))]) (pc + 2) lv (.ref q :: st)) : GI p l e R s m args below meth c D H0 A nL Q nc ns ws pc lv (.int n :: st) := by
  intro H locs ls hP hD hS hl
  refine va_newa (atype := .long) (ty := .long) (a0 := (N', .inr (.inl (fun _ => 0)))) C.1 C.2.1 (C.2.2.1 _ wa_long) rfl C.2.2.2.2.2.1 hP hD hS hA (fun _ => rfl) hn hN (by show N' * 8 ≤ 536870912; omega) hcells hslots hdg (fun q cA H1 hK1 hP1 hD1 hS1 => ?_)
  have e := arr_is (k := 1) rfl (Or.inr (Or.inl rfl)) hK1
  subst e
  exact k q H1 locs ls hP1 hD1 hS1 hl
theorem wx_obj : Cond.instanceMethod objectInit ∈ TBL := tbl_tab 18 (by decide +kernel) rfl
theorem wc_obj : Cond.code objectInit ⟨#[0xb1]⟩ 1 none ∈ TBL := tbl_tab 19 (by decide +kernel) rfl
theorem i_obj (C : Cx p s m args meth c cc own nL ret D) {idx : Nat} {a : Nat} (hlk : Cond.methodLink own idx objectInit ∈ TBL) (hf : 1 ≤ R.frames) (hlo : (st.map fun v => v.category).sum + 12 ≤ R.locals) (hdg : decode cc pc = .ok (.invokespecial idx, 3)) (k : GI p l e R s m args below meth c D H0 A nL Q nc ns ws (pc + 3) lv st) : GI p l e R s m args below meth c D H0 A nL Q nc ns ws pc lv (.ref a :: st) := by
  intro H locs ls hP hD hS hl
  refine W.objInit C.1 C.2.1 C.2.2.2.1 (C.2.2.1 _ hlk) (C.2.2.1 _ wx_obj) (C.2.2.1 _ wc_obj) rfl (by rw [C.2.2.2.2.1]; exact hl.1) rfl hdg hf (by show 2 * 0 + _ + 12 ≤ _; omega) ?_
  refine W.eq (g2 := F0 m (pc + 3) ls st) rfl ?_
  exact k H locs ls hP hD hS hl
theorem i_vret {w0 : va_W} {W1 : List Nat → va_W} (u : List Nat) (hr : ret = none) {rm : Room} (C : Cx p s m args meth c cc own nL ret D) (hA : A = va_A w0 s.heap.size) (hw : ws = W1 u) (hdg : decode cc pc = .ok (.return_, 1)) : GI p l e rm s m args below meth c D s.heap A nL (MQ below (va_Qv (fun _ : List Nat => True) (fun u t => va_P D classes (W1 u) t.heap ∧ va_D (va_A w0 s.heap.size) (W1 u)) (va_A w0 s.heap.size)) args s nc ns A) nc ns ws pc lv [] := by
  intro H locs ls hP hD hS hl
  subst hr; subst hw; subst hA
  exact W.vret C.1 C.2.1 C.2.2.2.2.2.2.1 (fun t ht _ => ⟨⟨u, rfl, trivial, by rw [ht]; exact hP, hD⟩, hS.F ht⟩) hS.2.2 hdg C.2.2.2.2.2.2.2
end GIC
