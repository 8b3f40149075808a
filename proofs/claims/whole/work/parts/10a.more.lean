theorem wm_X5_49 : Cond.methodLink RX5 49 arraycopyName ∈ TBL := tbl_tab 281 (by decide +kernel) rfl
theorem wm_X2_40 : Cond.methodLink RX2 40 arraycopyName ∈ TBL := tbl_tab 554 (by decide +kernel) rfl
theorem ws_acopy : Cond.static arraycopyName ∈ TBL := tbl_tab 282 (by decide +kernel) rfl
theorem wx_acopy : Cond.native arraycopyName ∈ TBL := tbl_tab 283 (by decide +kernel) rfl
section MR
variable {p : Program} {l : Launch} {e : Env} {R : Room} {s : State} {m : MethodId} {args : Array Value} {below : List Frame} {meth : Method} {c : Code} {D : va_G} {H0 : Heap} {A : Nat → Prop} {nL : Nat} {Q : State → Prop} {ws : va_W} {pc : Nat} {lv : List (Nat × Value)} {st : List Value} {cc : ByteArray} {own : String} {ret : Option FieldType}
theorem r_cpyi (C : Cx p s m args meth c cc own nL ret D) {w0 ws2 : va_W} {B : Nat → Prop} {idx : Nat} (hlk : Cond.methodLink own idx arraycopyName ∈ TBL) (h0 : va_D B w0) (hA : Ad w0 = A) (q0 q1 sp dp n : Nat) {a0 a n0 n1 : Nat} {f g : Nat → Int32} {isp idp inn : Int32} (ha0 : ws[q0]? = some (a0, .inl (D.1 10, n0, .inl f))) (ha1 : ws[q1]? = some (a, .inl (D.1 10, n1, .inl g))) (hsp : isp = nI sp) (hdp : idp = nI dp) (hnn : inn = nI n) (h4 : sp + n ≤ n0) (h5 : dp + n ≤ n1) (b0 : n0 ≤ 200) (b1 : n1 ≤ 200) (hf : 1 ≤ R.frames) (hlo : (st.map fun v => v.category).sum + (nativeFrameWords "java/lang/System" "arraycopy" 5 + 11) ≤ R.locals) (hdg : decode cc pc = .ok (.invokestatic idx, 3)) (hw : ws.map (·.1) = w0.map (·.1)) (h2 : ws.set q1 (a, .inl (D.1 10, n1, .inl (va_cpy f g sp dp n))) = ws2) (k : G p l e R s m args below meth c D H0 A nL Q ws2 (pc + 3) lv st) : G p l e R s m args below meth c D H0 A nL Q ws pc lv (.int inn :: .int idp :: .ref a :: .int isp :: .ref a0 :: st) := by
  intro H locs ls hP hS hl
  subst hsp; subst hdp; subst hnn; subst hA
  have e1 : (nI sp).toNatClampNeg = sp := nI_clamp (by omega)
  have e2 : (nI dp).toNatClampNeg = dp := nI_clamp (by omega)
  have e3 : (nI n).toNatClampNeg = n := nI_clamp (by omega)
  refine va_copyi C.1 C.2.1 (by rw [C.2.2.2.2.1, hl.1]) C.2.2.2.1 (C.2.2.1 _ hlk) (C.2.2.1 _ wx_acopy) (C.2.2.1 _ ws_acopy) (C.2.2.1 _ wi_java_lang_System) C.2.2.2.2.2.1 hP (dis_of h0 hw) hS q0 q1 0 0 (ty := .int) ha0 ha1 rfl rfl rfl (nI_pos (by omega)) (nI_pos (by omega)) (nI_pos (by omega)) (by rw [e1, e3]; exact h4) (by rw [e2, e3]; exact h5) (fun _ _ => rfl) hf hlo hdg (fun H1 l1 hP1 _ hS1 => ?_)
  rw [e1, e2, e3, h2] at hP1
  exact k H1 l1 ls hP1 hS1 hl
theorem r_cpyl (C : Cx p s m args meth c cc own nL ret D) {w0 ws2 : va_W} {B : Nat → Prop} {idx : Nat} (hlk : Cond.methodLink own idx arraycopyName ∈ TBL) (h0 : va_D B w0) (hA : Ad w0 = A) (q0 q1 sp dp n : Nat) {a0 a n0 n1 : Nat} {f g : Nat → Int64} {isp idp inn : Int32} (ha0 : ws[q0]? = some (a0, .inl (D.1 11, n0, .inr (.inl f)))) (ha1 : ws[q1]? = some (a, .inl (D.1 11, n1, .inr (.inl g)))) (hsp : isp = nI sp) (hdp : idp = nI dp) (hnn : inn = nI n) (h4 : sp + n ≤ n0) (h5 : dp + n ≤ n1) (b0 : n0 ≤ 200) (b1 : n1 ≤ 200) (hf : 1 ≤ R.frames) (hlo : (st.map fun v => v.category).sum + (nativeFrameWords "java/lang/System" "arraycopy" 5 + 11) ≤ R.locals) (hdg : decode cc pc = .ok (.invokestatic idx, 3)) (hw : ws.map (·.1) = w0.map (·.1)) (h2 : ws.set q1 (a, .inl (D.1 11, n1, .inr (.inl (va_cpy f g sp dp n)))) = ws2) (k : G p l e R s m args below meth c D H0 A nL Q ws2 (pc + 3) lv st) : G p l e R s m args below meth c D H0 A nL Q ws pc lv (.int inn :: .int idp :: .ref a :: .int isp :: .ref a0 :: st) := by
  intro H locs ls hP hS hl
  subst hsp; subst hdp; subst hnn; subst hA
  have e1 : (nI sp).toNatClampNeg = sp := nI_clamp (by omega)
  have e2 : (nI dp).toNatClampNeg = dp := nI_clamp (by omega)
  have e3 : (nI n).toNatClampNeg = n := nI_clamp (by omega)
  refine va_copyl C.1 C.2.1 (by rw [C.2.2.2.2.1, hl.1]) C.2.2.2.1 (C.2.2.1 _ hlk) (C.2.2.1 _ wx_acopy) (C.2.2.1 _ ws_acopy) (C.2.2.1 _ wi_java_lang_System) C.2.2.2.2.2.1 hP (dis_of h0 hw) hS q0 q1 1 1 (ty := .long) ha0 ha1 rfl rfl rfl (nI_pos (by omega)) (nI_pos (by omega)) (nI_pos (by omega)) (by rw [e1, e3]; exact h4) (by rw [e2, e3]; exact h5) (fun _ _ => rfl) hf hlo hdg (fun H1 l1 hP1 _ hS1 => ?_)
  rw [e1, e2, e3, h2] at hP1
  exact k H1 l1 ls hP1 hS1 hl
end MR
theorem in_nat {x : Int32} {n : Nat} (hn : n < 2 ^ 31) (h : ¬ (if x < (0 : Int32) then (0 : Int32) else (if x < nI n then (1 : Int32) else (0 : Int32))) = 0) : x = nI x.toNatClampNeg ∧ x.toNatClampNeg < n := by
  by_cases h1 : x < (0 : Int32)
  · rw [if_pos h1] at h; exact absurd rfl h
  · rw [if_neg h1] at h
    by_cases h2 : x < nI n
    · exact ⟨nn_nI h1, nn_lt hn h1 h2⟩
    · rw [if_neg h2] at h; exact absurd rfl h
theorem has_nat {n : Nat} {x : Int32} (hn : n ≤ 12) (h : ¬ s_X5_has n x = 0) : x = nI x.toNatClampNeg ∧ x.toNatClampNeg < n := in_nat (by omega) h
theorem isPerson_nat {pe : Nat} {x : Int32} (hp : 1 ≤ pe ∧ pe ≤ 4) (h : ¬ s_X5_isPerson pe x = 0) : x = nI x.toNatClampNeg ∧ x.toNatClampNeg < pe := in_nat (by omega) h
theorem isEver_nat {x : Int32} (h : ¬ s_X6_isEverPerson x = 0) : x = nI x.toNatClampNeg ∧ x.toNatClampNeg < 4 := in_nat (n := 4) (by omega) h
theorem isSheet_nat {x : Int32} (h : ¬ s_X6_isSheet x = 0) : x = nI x.toNatClampNeg ∧ x.toNatClampNeg < 4 := in_nat (n := 4) (by omega) h
theorem isLane_nat {x : Int32} (h : ¬ s_X6_isLane x = 0) : x = nI x.toNatClampNeg ∧ x.toNatClampNeg < 4 := in_nat (n := 4) (by omega) h
theorem nm1_nat {n : Nat} (hn : n ≤ 12) (h : ¬ s_X5_has n (nI n - (1 : Int32)) = 0) : nI n - (1 : Int32) = nI (n - 1) ∧ 1 ≤ n := by
  cases n with
  | zero => exact absurd (by decide) h
  | succ k => exact ⟨dm_pred k, by omega⟩
theorem dm_dec (k : Nat) : nI k + (-1 : Int32) = dm k := by
  cases k with
  | zero => rfl
  | succ k => exact pk_m1 k
theorem m8_nat {m : Int32} (h1 : ¬ m < (1 : Int32)) (h2 : ¬ (8 : Int32) < m) : m = nI m.toNatClampNeg ∧ m.toNatClampNeg ≤ 8 := by
  have h0 : ¬ m < 0 := fun z => h1 (Int32.lt_trans z (by decide))
  exact ⟨nn_nI h0, nn_le (n := 8) (by omega) h0 h2⟩
theorem p4_nat {m : Int32} (h1 : ¬ m < (1 : Int32)) (h2 : ¬ (4 : Int32) < m) : m = nI m.toNatClampNeg ∧ 1 ≤ m.toNatClampNeg ∧ m.toNatClampNeg ≤ 4 := by
  have h0 : ¬ m < 0 := fun z => h1 (Int32.lt_trans z (by decide))
  refine ⟨nn_nI h0, ?_, nn_le (n := 4) (by omega) h0 h2⟩
  obtain ⟨j, hj, rfl⟩ := nI_of h0
  rw [nI_clamp hj]
  exact Nat.not_lt.mp (fun z => h1 ((nI_ltI (b := 1) hj (by omega)).mpr z))
