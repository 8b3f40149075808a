/-- a constructor's contract: from the world w0, its own new cells behind, the world W1 of their addresses -/
def cti (l : Launch) (y : MethodName) (b : ByteArray) (nL fr lo mc ms : Nat) (D : va_G) (h : Nat) (w0 : va_W) (W1 : List Nat → va_W) : Prop := ∀ sz : Nat,
  Met l y (Cond.code y b nL none :: TBL) { frames := fr, cells := mc, slots := ms, locals := lo } (va_Pc [.ref h] (fun U => U.heap.size = sz ∧ va_P D classes w0 U.heap ∧ va_K D classes (tysD D) U ∧ va_D (fun _ => True) w0)) (va_Qv (fun _ : List Nat => True) (fun u t => va_P D classes (W1 u) t.heap ∧ va_D (va_A w0 sz) (W1 u)) (va_A w0 sz)) mc ms (va_A w0 sz)
theorem cti_intro {l : Launch} {y : MethodName} {b : ByteArray} {nL fr lo mc ms : Nat} {D : va_G} {h : Nat} {w0 : va_W} {W1 : List Nat → va_W} {own : String} {lv : List (Nat × Value)}
    (hplain : plainName y.cls = true) (hown : y.cls = own) (hn : (lg_sl [.ref h]).length ≤ nL) (hlv : lv_args 0 [.ref h] = lv) (hin : y.name = "<init>")
    (body : ∀ (p : Program) (e : Env) (s : State) (m : MethodId) (below : List Frame) (meth : Method) (c : Code), Cx p s m ([.ref h] : List Value).toArray meth c b own nL none D → meth.name = "<init>" →
      GI p l e { frames := fr, cells := mc, slots := ms, locals := lo } s m ([.ref h] : List Value).toArray below meth c D s.heap (va_A w0 s.heap.size) nL (MQ below (va_Qv (fun _ : List Nat => True) (fun u t => va_P D classes (W1 u) t.heap ∧ va_D (va_A w0 s.heap.size) (W1 u)) (va_A w0 s.heap.size)) ([.ref h] : List Value).toArray s mc ms (va_A w0 s.heap.size)) 0 0 w0 0 lv []) :
    cti l y b nL fr lo mc ms D h w0 W1 := by
  intro sz
  refine Met.ofW (cc := b) (maxL := nL) (ret := none) hplain rfl ?_
  intro p e s m args below meth c s₁ B hml hv
  obtain ⟨rfl, hsz, hP, hK, hD0⟩ := hv
  subst hsz
  have hts := atoms_spec (ws := Cond.code y b nL none :: TBL) B.pre
  have hown2 : s.vm.findClass own = some m.cls := by rw [← hown]; exact findClass_of_methodNamed B.named
  have hl := lv_entry ([.ref h] : List Value) (n := nL) hn
  rw [hlv] at hl
  rw [lg_entry_eq]
  exact body p e s m below meth c ⟨B.exec, B.bytes, fun w hw => hts w (List.mem_cons_of_mem _ hw), hown2, hml, hK, B.returns, B.notSynchronized⟩ ((name_of_methodNamed B.named B.method).1.trans hin) s.heap [] _ hP hD0.self va_S.rf hl
section GIK
variable {p : Program} {l : Launch} {e : Env} {R : Room} {s : State} {m : MethodId} {args : Array Value} {below : List Frame} {meth : Method} {c : Code} {D : va_G} {H0 : Heap} {A : Nat → Prop} {nL : Nat} {Q : State → Prop} {ws : va_W} {pc : Nat} {lv : List (Nat × Value)} {st : List Value} {cc : ByteArray} {own : String} {ret : Option FieldType} {nc ns : Nat}
theorem i_new (C : Cx p s m args meth c cc own nL ret D) {Cn : String} {T : u_T} {N ci idx : Nat} (hin : ∀ w ∈ u_ws Cn T N, w ∈ TBL) (ty : Nat → FieldType) (hty : ∀ k, k < N → parseFieldDescriptor (T k).2.2.1 = some (ty k)) (hcl : Cond.classLink own idx Cn ∈ TBL) (hinst : Cond.instantiable Cn N ∈ TBL) (hini : Cond.initialized Cn ∈ TBL) (hA : ∀ q, H0.size ≤ q → A q) (hc : classes[ci]? = some (Cn, T, N)) {fs : List Value} (hfs : ∀ j, j < N → defaultValue (ty j) = vp_V fs j) (hcells : nc + 1 ≤ R.cells) (hslots : ns + N ≤ R.slots) (hdg : decode cc pc = .ok (.new idx, 3)) (k : ∀ q : Nat, GI p l e R s m args below meth c D H0 A nL Q (nc + 1) (ns + N) (ws ++ [(q, .inr (ci, fs))]) (pc + 3) lv (.ref q :: st)) : GI p l e R s m args below meth c D H0 A nL Q nc ns ws pc lv st := by
  intro H locs ls hP hD hS hl
  exact va_new C.1 C.2.1 C.2.2.1 hin ty hty C.2.2.2.1 (C.2.2.1 _ hcl) (C.2.2.1 _ hinst) (C.2.2.1 _ hini) C.2.2.2.2.2.1 hP hD hS hA hc hfs hcells hslots hdg (fun q H1 hP1 hD1 hS1 => k q H1 locs ls hP1 hD1 hS1 hl)
theorem i_initN {host : String} {y : MethodName} {b : ByteArray} {nl fr lo mc ms idx h : Nat} {w0 wr : va_W} {W1 : List Nat → va_W} (C : Cx p s m args meth c cc own nL ret D) (hM : cti l y b nl fr lo mc ms D h w0 W1) (ok : okM y b nl none 0) (hy : y.name = "<init>") (hi : Cond.instanceMethod y ∈ TBL) (hlk : Cond.methodLinkNest own idx y host ∈ TBL) (hA : ∀ q, H0.size ≤ q → A q) (isC isR : List Nat) (hCf : isC.filterMap (fun i => ws[i]?) = w0) (hC : isC.map (fun i => ws[i]?) = w0.map some) (hRr : isR.map (fun i => ws[i]?) = wr.map some) (hnC : va_nd isC = true) (hnR : va_nd isR = true) (hdis : ∀ i ∈ isR, i ∉ isC) (hR : fr + 1 ≤ R.frames ∧ 8 + (nl + 11) + lo ≤ R.locals) (hcs : nc + mc ≤ R.cells ∧ ns + ms ≤ R.slots) (hrest : (st.map fun v => v.category).sum ≤ 8) (hdg : decode cc pc = .ok (.invokespecial idx, 3)) (k : ∀ u : List Nat, GI p l e R s m args below meth c D H0 A nL Q (nc + mc) (ns + ms) (wr ++ W1 u) (pc + 3) lv st) : GI p l e R s m args below meth c D H0 A nL Q nc ns ws pc lv (.ref h :: st) := by
  intro H locs ls hP hD hS hl
  have hPc := hP.sub (ws' := w0) isC hCf
  have hDc := hD.sub (ws' := w0) isC hnC hC
  have hFc := va_free (wc := w0) hD hS hA isC hC
  refine va_callv (va_runIN (As := []) (rest := st) ⟨C.1, C.2.1, C.2.2.2.2.1, C.2.2.2.1, C.2.2.1⟩ (hM H.size) ⟨⟨⟨rfl, rfl, hR.1, hR.2, ct_ws C ok, List.mem_cons_self⟩, C.2.2.1 _ ok.1, C.2.2.1 _ ok.2.1, ok.2.2.1, ct_len ok.2.2.2, C.2.2.1 _ hlk⟩, hy, C.2.2.1 _ hi⟩ ⟨fun a U g mk q => by obtain ⟨q0, q1, qP, qK, qD⟩ := q; exact ⟨q0, q1, qP, va_K.moved (u := U) (U := U.calling g mk a) (Vm.Alike.refl U.vm) qK, qD⟩, fun U hU hW => ⟨rfl, by rw [hU], by rw [hU]; exact hPc, va_K.moved hW.alike C.2.2.2.2.2.1, hDc.weaken (fun _ _ _ _ => trivial)⟩⟩ rfl rfl hl.1 rfl (lv_room hrest) hdg hcs) hS (fun q _ h => hFc q h) hFc (fun u t H1 locs1 ht hvm _ hB hz1 hk1 hS1 => ?_)
  obtain ⟨hP1, hD1⟩ := hB
  rw [ht] at hP1
  obtain ⟨hP2, hD2⟩ := va_join (wr := wr) (w1 := W1 u) hP hD isC isR hC hRr hnR hdis hk1 hFc hP1 hD1
  exact k u H1 locs1 ls hP2 hD2 hS1 hl
theorem i_initL {y : MethodName} {b : ByteArray} {nl fr lo mc ms idx h : Nat} {w0 wr : va_W} {W1 : List Nat → va_W} (C : Cx p s m args meth c cc own nL ret D) (hM : cti l y b nl fr lo mc ms D h w0 W1) (ok : okM y b nl none 0) (hy : y.name = "<init>") (hi : Cond.instanceMethod y ∈ TBL) (hlk : Cond.methodLink own idx y ∈ TBL) (hA : ∀ q, H0.size ≤ q → A q) (isC isR : List Nat) (hCf : isC.filterMap (fun i => ws[i]?) = w0) (hC : isC.map (fun i => ws[i]?) = w0.map some) (hRr : isR.map (fun i => ws[i]?) = wr.map some) (hnC : va_nd isC = true) (hnR : va_nd isR = true) (hdis : ∀ i ∈ isR, i ∉ isC) (hR : fr + 1 ≤ R.frames ∧ 8 + (nl + 11) + lo ≤ R.locals) (hcs : nc + mc ≤ R.cells ∧ ns + ms ≤ R.slots) (hrest : (st.map fun v => v.category).sum ≤ 8) (hdg : decode cc pc = .ok (.invokespecial idx, 3)) (k : ∀ u : List Nat, GI p l e R s m args below meth c D H0 A nL Q (nc + mc) (ns + ms) (wr ++ W1 u) (pc + 3) lv st) : GI p l e R s m args below meth c D H0 A nL Q nc ns ws pc lv (.ref h :: st) := by
  intro H locs ls hP hD hS hl
  have hPc := hP.sub (ws' := w0) isC hCf
  have hDc := hD.sub (ws' := w0) isC hnC hC
  have hFc := va_free (wc := w0) hD hS hA isC hC
  refine va_callv (va_runI (As := []) (rest := st) ⟨C.1, C.2.1, C.2.2.2.2.1, C.2.2.2.1, C.2.2.1⟩ (hM H.size) ⟨⟨rfl, rfl, hR.1, hR.2, ct_ws C ok, List.mem_cons_self, C.2.2.1 _ ok.1, C.2.2.1 _ ok.2.1, ok.2.2.1, ct_len ok.2.2.2, C.2.2.1 _ hlk⟩, hy, C.2.2.1 _ hi⟩ ⟨fun a U g mk q => by obtain ⟨q0, q1, qP, qK, qD⟩ := q; exact ⟨q0, q1, qP, va_K.moved (u := U) (U := U.calling g mk a) (Vm.Alike.refl U.vm) qK, qD⟩, fun U hU hW => ⟨rfl, by rw [hU], by rw [hU]; exact hPc, va_K.moved hW.alike C.2.2.2.2.2.1, hDc.weaken (fun _ _ _ _ => trivial)⟩⟩ rfl rfl hl.1 rfl (lv_room hrest) hdg hcs) hS (fun q _ h => hFc q h) hFc (fun u t H1 locs1 ht hvm _ hB hz1 hk1 hS1 => ?_)
  obtain ⟨hP1, hD1⟩ := hB
  rw [ht] at hP1
  obtain ⟨hP2, hD2⟩ := va_join (wr := wr) (w1 := W1 u) hP hD isC isR hC hRr hnR hdis hk1 hFc hP1 hD1
  exact k u H1 locs1 ls hP2 hD2 hS1 hl
end GIK
