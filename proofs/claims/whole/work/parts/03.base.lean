def isNest : Cond → Bool
  | .fieldLinkNest .. => true
  | .methodLinkNest .. => true
  | _ => false
def gw (w : Cond) : Bool := goodWord w || isNest w
/-- the words of the tables that last -/
def TBL : List Cond := lw_tbl.filter gw
theorem tbl_of {args : Array Value} {s : State} (h : ∀ w ∈ lw_tbl, w.before args s = true) : ∀ w ∈ TBL, w.before args s = true := fun w hw => h w (List.mem_filter.mp hw).1
theorem tbl_sel {w : Cond} (i : Nat) (h : (k2_sels lw_privs)[i]? = some w) (hg : gw w = true) : w ∈ TBL := List.mem_filter.mpr ⟨List.mem_append_left _ (List.mem_of_getElem? h), hg⟩
theorem tbl_tab {w : Cond} (i : Nat) (h : tables_1[i]? = some w) (hg : gw w = true) : w ∈ TBL := List.mem_filter.mpr ⟨List.mem_append_right _ (List.mem_of_getElem? h), hg⟩
set_option maxHeartbeats 4000000 in
theorem warm_of {args : Array Value} {s : State} (h : ∀ w ∈ TBL, w.before args s = true) : ∀ w ∈ TBL, ∀ (a' : Array Value) (U : State), s.WarmedH U.vm → w.before a' U = true := by
  intro w hw a' U hW
  have h1 := h w hw
  have h2 : gw w = true := (List.mem_filter.mp hw).2
  have h3 : goodWord w = true ∨ isNest w = true := by
    cases hg : goodWord w with
    | true => exact Or.inl rfl
    | false => exact Or.inr (by unfold gw at h2; rw [hg] at h2; exact h2)
  rcases h3 with h3 | h3
  · exact word_at hW (good_of_word h3) h1
  · cases w <;> first | exact va_Nw.use rfl (va_Nw.warmF hW (va_Nw.of rfl h1)) | exact va_Nw.use rfl (va_Nw.warmM hW (va_Nw.of rfl h1)) | exact Bool.noConfusion h3
/-- the classes whose objects the worlds hold -/
abbrev classes : List vw_C := [(RX5, TX5, 12), (RX3, TX3, 4), (RX2, TX2, 3), (RX6, TX6, 9), (RX7, TX7, 37)]
abbrev tysD (D : va_G) : List (ClassId × FieldType) := [(D.1 10, .int), (D.1 11, .long), (D.1 12, .char)]
def Cx (p : Program) (s : State) (m : MethodId) (args : Array Value) (meth : Method) (c : Code) (cc : ByteArray) (own : String) (nL : Nat) (ret : Option FieldType) (D : va_G) : Prop :=
  p.tables.exec = Jvm.exec ∧ c.code = cc ∧ (∀ w ∈ TBL, w.before args s = true) ∧ s.vm.findClass own = some m.cls ∧ c.maxLocals = nL ∧ va_K D classes (tysD D) s ∧ meth.sig.returnType = ret ∧ meth.locks = false
def G (p : Program) (l : Launch) (e : Env) (R : Room) (s : State) (m : MethodId) (args : Array Value) (below : List Frame) (meth : Method) (c : Code) (D : va_G) (H0 : Heap) (A : Nat → Prop) (nL : Nat) (Q : State → Prop) (ws : va_W) (pc : Nat) (lv : List (Nat × Value)) (st : List Value) : Prop :=
  ∀ (H : Heap) (locs : List Loc) (ls : Array Slot), va_P D classes ws H → va_S A H0 H locs → lv_has ls nL lv → W p l e R s m args below meth c H locs 0 0 Q (F0 m pc ls st)
/-- the addresses of a world -/
def Ad (ws : va_W) : Nat → Prop := fun q => ∃ (k : Nat) (e : va_E), ws[k]? = some (q, e)
/-- a contract: from the world ws to the world ws1, the answer rv, no cell outside A touched -/
def ct (l : Launch) (y : MethodName) (b : ByteArray) (nL : Nat) (ret : Option FieldType) (fr lo : Nat) (D : va_G) (av : List Value) (ws ws1 : va_W) (A : Nat → Prop) (rv : Option Value) : Prop :=
  Met l y (Cond.code y b nL ret :: TBL) { frames := fr, cells := 0, slots := 0, locals := lo } (va_Pc av (fun U => va_P D classes ws U.heap ∧ va_K D classes (tysD D) U)) (fun _ st o t => o = .returned rv ∧ va_P D classes ws1 t.heap ∧ va_F A st t) 0 0 A
theorem ct_intro {l : Launch} {y : MethodName} {b : ByteArray} {nL : Nat} {ret : Option FieldType} {fr lo : Nat} {D : va_G} {av : List Value} {ws ws1 : va_W} {A : Nat → Prop} {rv : Option Value} {own : String} {lv : List (Nat × Value)}
    (hplain : plainName y.cls = true) (hown : y.cls = own) (hn : (lg_sl av).length ≤ nL) (hlv : lv_args 0 av = lv)
    (body : ∀ (p : Program) (e : Env) (s : State) (m : MethodId) (below : List Frame) (meth : Method) (c : Code), Cx p s m av.toArray meth c b own nL ret D →
      G p l e { frames := fr, cells := 0, slots := 0, locals := lo } s m av.toArray below meth c D s.heap A nL (MQ below (fun _ st o t => o = .returned rv ∧ va_P D classes ws1 t.heap ∧ va_F A st t) av.toArray s 0 0 A) ws 0 lv []) :
    ct l y b nL ret fr lo D av ws ws1 A rv := by
  refine Met.ofW (cc := b) (maxL := nL) (ret := ret) hplain rfl ?_
  intro p e s m args below meth c s₁ B hml hv
  obtain ⟨rfl, hP, hK⟩ := hv
  have hts := atoms_spec (ws := Cond.code y b nL ret :: TBL) B.pre
  have hown2 : s.vm.findClass own = some m.cls := by rw [← hown]; exact findClass_of_methodNamed B.named
  have hl := lv_entry av (n := nL) hn
  rw [hlv] at hl
  rw [lg_entry_eq]
  exact body p e s m below meth c ⟨B.exec, B.bytes, fun w hw => hts w (List.mem_cons_of_mem _ hw), hown2, hml, hK, B.returns, B.notSynchronized⟩ s.heap [] _ hP va_S.rf hl
