section GR
variable {p : Program} {l : Launch} {e : Env} {R : Room} {s : State} {m : MethodId} {args : Array Value} {below : List Frame} {meth : Method} {c : Code} {D : va_G} {H0 : Heap} {A : Nat → Prop} {nL : Nat} {Q : State → Prop} {ws : va_W} {pc : Nat} {lv : List (Nat × Value)} {st : List Value} {cc : ByteArray} {own : String} {ret : Option FieldType}
theorem r_ic (C : Cx p s m args meth c cc own nL ret D) {n : Int} {v : Int32} (hdg : decode cc pc = .ok (.iconst n, 1)) (hv : Int32.ofInt n = v) (k : G p l e R s m args below meth c D H0 A nL Q ws (pc + 1) lv (.int v :: st)) : G p l e R s m args below meth c D H0 A nL Q ws pc lv st :=
  fun H locs ls hP hS hl => lv_iconst C.1 C.2.1 hdg hv (k H locs ls hP hS hl)
theorem r_bp (C : Cx p s m args meth c cc own nL ret D) {n : Int} {v : Int32} (hdg : decode cc pc = .ok (.bipush n, 2)) (hv : (Int8.ofInt n).toInt32 = v) (k : G p l e R s m args below meth c D H0 A nL Q ws (pc + 2) lv (.int v :: st)) : G p l e R s m args below meth c D H0 A nL Q ws pc lv st :=
  fun H locs ls hP hS hl => lv_bipush C.1 C.2.1 hdg hv (k H locs ls hP hS hl)
theorem r_sp (C : Cx p s m args meth c cc own nL ret D) {n : Int} {v : Int32} (hdg : decode cc pc = .ok (.sipush n, 3)) (hv : (Int16.ofInt n).toInt32 = v) (k : G p l e R s m args below meth c D H0 A nL Q ws (pc + 3) lv (.int v :: st)) : G p l e R s m args below meth c D H0 A nL Q ws pc lv st :=
  fun H locs ls hP hS hl => lv_sipush C.1 C.2.1 hdg hv (k H locs ls hP hS hl)
theorem r_lc (C : Cx p s m args meth c cc own nL ret D) {n : Fin 2} {v : Int64} (hdg : decode cc pc = .ok (.lconst n, 1)) (hv : Int64.ofNat (n : Nat) = v) (k : G p l e R s m args below meth c D H0 A nL Q ws (pc + 1) lv (.long v :: st)) : G p l e R s m args below meth c D H0 A nL Q ws pc lv st :=
  fun H locs ls hP hS hl => lv_lconst C.1 C.2.1 hdg hv (k H locs ls hP hS hl)
theorem r_iln (C : Cx p s m args meth c cc own nL ret D) {k : Fin 4} {i : Nat} {x : Int32} (hdg : decode cc pc = .ok (.iload_n k, 1)) (hi : (k : Nat) = i) (q : Nat) (hq : lv[q]? = some (i, .int x)) (kk : G p l e R s m args below meth c D H0 A nL Q ws (pc + 1) lv (.int x :: st)) : G p l e R s m args below meth c D H0 A nL Q ws pc lv st :=
  fun H locs ls hP hS hl => lv_iload_n C.1 C.2.1 hdg hi (lv_at hl q hq) (kk H locs ls hP hS hl)
theorem r_il (C : Cx p s m args meth c cc own nL ret D) {i : Nat} {x : Int32} (hdg : decode cc pc = .ok (.iload i, 2)) (q : Nat) (hq : lv[q]? = some (i, .int x)) (kk : G p l e R s m args below meth c D H0 A nL Q ws (pc + 2) lv (.int x :: st)) : G p l e R s m args below meth c D H0 A nL Q ws pc lv st :=
  fun H locs ls hP hS hl => lv_iload C.1 C.2.1 hdg (lv_at hl q hq) (kk H locs ls hP hS hl)
theorem r_lln (C : Cx p s m args meth c cc own nL ret D) {k : Fin 4} {i : Nat} {x : Int64} (hdg : decode cc pc = .ok (.lload_n k, 1)) (hi : (k : Nat) = i) (q : Nat) (hq : lv[q]? = some (i, .long x)) (kk : G p l e R s m args below meth c D H0 A nL Q ws (pc + 1) lv (.long x :: st)) : G p l e R s m args below meth c D H0 A nL Q ws pc lv st :=
  fun H locs ls hP hS hl => lv_lload_n C.1 C.2.1 hdg hi (lv_at hl q hq) (kk H locs ls hP hS hl)
theorem r_ll (C : Cx p s m args meth c cc own nL ret D) {i : Nat} {x : Int64} (hdg : decode cc pc = .ok (.lload i, 2)) (q : Nat) (hq : lv[q]? = some (i, .long x)) (kk : G p l e R s m args below meth c D H0 A nL Q ws (pc + 2) lv (.long x :: st)) : G p l e R s m args below meth c D H0 A nL Q ws pc lv st :=
  fun H locs ls hP hS hl => lv_lload C.1 C.2.1 hdg (lv_at hl q hq) (kk H locs ls hP hS hl)
theorem r_aln (C : Cx p s m args meth c cc own nL ret D) {k : Fin 4} {i : Nat} {x : Nat} (hdg : decode cc pc = .ok (.aload_n k, 1)) (hi : (k : Nat) = i) (q : Nat) (hq : lv[q]? = some (i, .ref x)) (kk : G p l e R s m args below meth c D H0 A nL Q ws (pc + 1) lv (.ref x :: st)) : G p l e R s m args below meth c D H0 A nL Q ws pc lv st :=
  fun H locs ls hP hS hl => lv_aload_n C.1 C.2.1 hdg hi (lv_at hl q hq) (kk H locs ls hP hS hl)
theorem r_al (C : Cx p s m args meth c cc own nL ret D) {i : Nat} {x : Nat} (hdg : decode cc pc = .ok (.aload i, 2)) (q : Nat) (hq : lv[q]? = some (i, .ref x)) (kk : G p l e R s m args below meth c D H0 A nL Q ws (pc + 2) lv (.ref x :: st)) : G p l e R s m args below meth c D H0 A nL Q ws pc lv st :=
  fun H locs ls hP hS hl => lv_aload C.1 C.2.1 hdg (lv_at hl q hq) (kk H locs ls hP hS hl)
theorem r_isn (C : Cx p s m args meth c cc own nL ret D) {k : Fin 4} {i : Nat} {x : Int32} {lv' : List (Nat × Value)} (hdg : decode cc pc = .ok (.istore_n k, 1)) (hi : (k : Nat) = i) (hn : i < nL) (h : (i, Value.int x) :: lv.filter (fun q => !(q.1 == i) && !(q.1 + 1 == i && q.2.category == 2)) = lv') (kk : G p l e R s m args below meth c D H0 A nL Q ws (pc + 1) lv' st) : G p l e R s m args below meth c D H0 A nL Q ws pc lv (.int x :: st) :=
  fun H locs _ hP hS hl => lv_istore_n C.1 C.2.1 hdg hi hl hn h (fun ls hl => kk H locs ls hP hS hl)
theorem r_is (C : Cx p s m args meth c cc own nL ret D) {i : Nat} {x : Int32} {lv' : List (Nat × Value)} (hdg : decode cc pc = .ok (.istore i, 2)) (hn : i < nL) (h : (i, Value.int x) :: lv.filter (fun q => !(q.1 == i) && !(q.1 + 1 == i && q.2.category == 2)) = lv') (kk : G p l e R s m args below meth c D H0 A nL Q ws (pc + 2) lv' st) : G p l e R s m args below meth c D H0 A nL Q ws pc lv (.int x :: st) :=
  fun H locs _ hP hS hl => lv_istore C.1 C.2.1 hdg hl hn h (fun ls hl => kk H locs ls hP hS hl)
theorem r_lsn (C : Cx p s m args meth c cc own nL ret D) {k : Fin 4} {i : Nat} {x : Int64} {lv' : List (Nat × Value)} (hdg : decode cc pc = .ok (.lstore_n k, 1)) (hi : (k : Nat) = i) (hn : i + 1 < nL) (h : (i, Value.long x) :: lv.filter (fun q => !(q.1 == i) && (!(q.1 == i + 1) && !(q.1 + 1 == i && q.2.category == 2))) = lv') (kk : G p l e R s m args below meth c D H0 A nL Q ws (pc + 1) lv' st) : G p l e R s m args below meth c D H0 A nL Q ws pc lv (.long x :: st) :=
  fun H locs _ hP hS hl => lv_lstore_n C.1 C.2.1 hdg hi hl hn h (fun ls hl => kk H locs ls hP hS hl)
theorem r_ls (C : Cx p s m args meth c cc own nL ret D) {i : Nat} {x : Int64} {lv' : List (Nat × Value)} (hdg : decode cc pc = .ok (.lstore i, 2)) (hn : i + 1 < nL) (h : (i, Value.long x) :: lv.filter (fun q => !(q.1 == i) && (!(q.1 == i + 1) && !(q.1 + 1 == i && q.2.category == 2))) = lv') (kk : G p l e R s m args below meth c D H0 A nL Q ws (pc + 2) lv' st) : G p l e R s m args below meth c D H0 A nL Q ws pc lv (.long x :: st) :=
  fun H locs _ hP hS hl => lv_lstore C.1 C.2.1 hdg hl hn h (fun ls hl => kk H locs ls hP hS hl)
theorem r_asn (C : Cx p s m args meth c cc own nL ret D) {k : Fin 4} {i : Nat} {x : Nat} {lv' : List (Nat × Value)} (hdg : decode cc pc = .ok (.astore_n k, 1)) (hi : (k : Nat) = i) (hn : i < nL) (h : (i, Value.ref x) :: lv.filter (fun q => !(q.1 == i) && !(q.1 + 1 == i && q.2.category == 2)) = lv') (kk : G p l e R s m args below meth c D H0 A nL Q ws (pc + 1) lv' st) : G p l e R s m args below meth c D H0 A nL Q ws pc lv (.ref x :: st) :=
  fun H locs _ hP hS hl => lv_astore_n C.1 C.2.1 hdg hi hl hn h (fun ls hl => kk H locs ls hP hS hl)
theorem r_as (C : Cx p s m args meth c cc own nL ret D) {i : Nat} {x : Nat} {lv' : List (Nat × Value)} (hdg : decode cc pc = .ok (.astore i, 2)) (hn : i < nL) (h : (i, Value.ref x) :: lv.filter (fun q => !(q.1 == i) && !(q.1 + 1 == i && q.2.category == 2)) = lv') (kk : G p l e R s m args below meth c D H0 A nL Q ws (pc + 2) lv' st) : G p l e R s m args below meth c D H0 A nL Q ws pc lv (.ref x :: st) :=
  fun H locs _ hP hS hl => lv_astore C.1 C.2.1 hdg hl hn h (fun ls hl => kk H locs ls hP hS hl)
theorem r_inc (C : Cx p s m args meth c cc own nL ret D) {i : Nat} {n : Int} {x v : Int32} {lv' : List (Nat × Value)} (hdg : decode cc pc = .ok (.iinc i n, 3)) (q : Nat) (hk : lv[q]? = some (i, .int x)) (hv : x + Int32.ofInt n = v) (hn : i < nL) (h : (i, Value.int v) :: lv.filter (fun q => !(q.1 == i) && !(q.1 + 1 == i && q.2.category == 2)) = lv') (kk : G p l e R s m args below meth c D H0 A nL Q ws (pc + 3) lv' st) : G p l e R s m args below meth c D H0 A nL Q ws pc lv st :=
  fun H locs _ hP hS hl => lv_iinc C.1 C.2.1 hdg hl hk hv hn h (fun ls hl => kk H locs ls hP hS hl)
theorem r_lv {lv' : List (Nat × Value)} (ks : List Nat) (h : lv_pick lv ks = lv') (k : G p l e R s m args below meth c D H0 A nL Q ws pc lv' st) : G p l e R s m args below meth c D H0 A nL Q ws pc lv st :=
  fun H locs ls hP hS hl => k H locs ls hP hS (lv_sub hl ks h)
theorem r_goto (C : Cx p s m args meth c cc own nL ret D) {off : Int} {tgt : Nat} (hdg : decode cc pc = .ok (.goto off, 3)) (ht : (pc : Int) + off = (tgt : Int)) (k : G p l e R s m args below meth c D H0 A nL Q ws tgt lv st) : G p l e R s m args below meth c D H0 A nL Q ws pc lv st :=
  fun H locs ls hP hS hl => lv_goto C.1 C.2.1 hdg ht (k H locs ls hP hS hl)
theorem r_dup (C : Cx p s m args meth c cc own nL ret D) {v : Value} (hdg : decode cc pc = .ok (.dup, 1)) (hv : v.category = 1) (k : G p l e R s m args below meth c D H0 A nL Q ws (pc + 1) lv (v :: v :: st)) : G p l e R s m args below meth c D H0 A nL Q ws pc lv (v :: st) :=
  fun H locs ls hP hS hl => lv_dup C.1 C.2.1 hdg hv (k H locs ls hP hS hl)
theorem r_dup211 (C : Cx p s m args meth c cc own nL ret D) {v w : Value} (hdg : decode cc pc = .ok (.dup2, 1)) (hv : v.category = 1) (hw : w.category = 1) (k : G p l e R s m args below meth c D H0 A nL Q ws (pc + 1) lv (v :: w :: v :: w :: st)) : G p l e R s m args below meth c D H0 A nL Q ws pc lv (v :: w :: st) :=
  fun H locs ls hP hS hl => lv_dup2_11 C.1 C.2.1 hdg hv hw (k H locs ls hP hS hl)
theorem r_pop (C : Cx p s m args meth c cc own nL ret D) {v : Value} (hdg : decode cc pc = .ok (.pop, 1)) (hv : v.category = 1) (k : G p l e R s m args below meth c D H0 A nL Q ws (pc + 1) lv st) : G p l e R s m args below meth c D H0 A nL Q ws pc lv (v :: st) :=
  fun H locs ls hP hS hl => lv_pop C.1 C.2.1 hdg hv (k H locs ls hP hS hl)
theorem r_iadd (C : Cx p s m args meth c cc own nL ret D) {x y : Int32} (hdg : decode cc pc = .ok (.iadd, 1)) (k : G p l e R s m args below meth c D H0 A nL Q ws (pc + 1) lv (.int (x + y) :: st)) : G p l e R s m args below meth c D H0 A nL Q ws pc lv (.int y :: .int x :: st) :=
  fun H locs ls hP hS hl => lv_iadd C.1 C.2.1 hdg (k H locs ls hP hS hl)
theorem r_isub (C : Cx p s m args meth c cc own nL ret D) {x y : Int32} (hdg : decode cc pc = .ok (.isub, 1)) (k : G p l e R s m args below meth c D H0 A nL Q ws (pc + 1) lv (.int (x - y) :: st)) : G p l e R s m args below meth c D H0 A nL Q ws pc lv (.int y :: .int x :: st) :=
  fun H locs ls hP hS hl => lv_isub C.1 C.2.1 hdg (k H locs ls hP hS hl)
theorem r_imul (C : Cx p s m args meth c cc own nL ret D) {x y : Int32} (hdg : decode cc pc = .ok (.imul, 1)) (k : G p l e R s m args below meth c D H0 A nL Q ws (pc + 1) lv (.int (x * y) :: st)) : G p l e R s m args below meth c D H0 A nL Q ws pc lv (.int y :: .int x :: st) :=
  fun H locs ls hP hS hl => lv_imul C.1 C.2.1 hdg (k H locs ls hP hS hl)
theorem r_iand (C : Cx p s m args meth c cc own nL ret D) {x y : Int32} (hdg : decode cc pc = .ok (.iand, 1)) (k : G p l e R s m args below meth c D H0 A nL Q ws (pc + 1) lv (.int (x &&& y) :: st)) : G p l e R s m args below meth c D H0 A nL Q ws pc lv (.int y :: .int x :: st) :=
  fun H locs ls hP hS hl => lv_iand C.1 C.2.1 hdg (k H locs ls hP hS hl)
theorem r_ior (C : Cx p s m args meth c cc own nL ret D) {x y : Int32} (hdg : decode cc pc = .ok (.ior, 1)) (k : G p l e R s m args below meth c D H0 A nL Q ws (pc + 1) lv (.int (x ||| y) :: st)) : G p l e R s m args below meth c D H0 A nL Q ws pc lv (.int y :: .int x :: st) :=
  fun H locs ls hP hS hl => lv_ior C.1 C.2.1 hdg (k H locs ls hP hS hl)
theorem r_ixor (C : Cx p s m args meth c cc own nL ret D) {x y : Int32} (hdg : decode cc pc = .ok (.ixor, 1)) (k : G p l e R s m args below meth c D H0 A nL Q ws (pc + 1) lv (.int (x ^^^ y) :: st)) : G p l e R s m args below meth c D H0 A nL Q ws pc lv (.int y :: .int x :: st) :=
  fun H locs ls hP hS hl => lv_ixor C.1 C.2.1 hdg (k H locs ls hP hS hl)
theorem r_ishl (C : Cx p s m args meth c cc own nL ret D) {x y : Int32} (hdg : decode cc pc = .ok (.ishl, 1)) (k : G p l e R s m args below meth c D H0 A nL Q ws (pc + 1) lv (.int (x <<< (y &&& 31)) :: st)) : G p l e R s m args below meth c D H0 A nL Q ws pc lv (.int y :: .int x :: st) :=
  fun H locs ls hP hS hl => lv_ishl C.1 C.2.1 hdg (k H locs ls hP hS hl)
theorem r_ishr (C : Cx p s m args meth c cc own nL ret D) {x y : Int32} (hdg : decode cc pc = .ok (.ishr, 1)) (k : G p l e R s m args below meth c D H0 A nL Q ws (pc + 1) lv (.int (x >>> (y &&& 31)) :: st)) : G p l e R s m args below meth c D H0 A nL Q ws pc lv (.int y :: .int x :: st) :=
  fun H locs ls hP hS hl => lv_ishr C.1 C.2.1 hdg (k H locs ls hP hS hl)
theorem r_idiv (C : Cx p s m args meth c cc own nL ret D) {x y : Int32} (hdg : decode cc pc = .ok (.idiv, 1)) (hne : ¬ y = 0) (k : G p l e R s m args below meth c D H0 A nL Q ws (pc + 1) lv (.int (x / y) :: st)) : G p l e R s m args below meth c D H0 A nL Q ws pc lv (.int y :: .int x :: st) :=
  fun H locs ls hP hS hl => lv_idiv C.1 C.2.1 hdg hne (k H locs ls hP hS hl)
theorem r_irem (C : Cx p s m args meth c cc own nL ret D) {x y : Int32} (hdg : decode cc pc = .ok (.irem, 1)) (hne : ¬ y = 0) (k : G p l e R s m args below meth c D H0 A nL Q ws (pc + 1) lv (.int (x - x / y * y) :: st)) : G p l e R s m args below meth c D H0 A nL Q ws pc lv (.int y :: .int x :: st) :=
  fun H locs ls hP hS hl => lv_irem C.1 C.2.1 hdg hne (k H locs ls hP hS hl)
theorem r_ineg (C : Cx p s m args meth c cc own nL ret D) {x : Int32} (hdg : decode cc pc = .ok (.ineg, 1)) (k : G p l e R s m args below meth c D H0 A nL Q ws (pc + 1) lv (.int (-x) :: st)) : G p l e R s m args below meth c D H0 A nL Q ws pc lv (.int x :: st) :=
  fun H locs ls hP hS hl => lv_ineg C.1 C.2.1 hdg (k H locs ls hP hS hl)
theorem r_ladd (C : Cx p s m args meth c cc own nL ret D) {x y : Int64} (hdg : decode cc pc = .ok (.ladd, 1)) (k : G p l e R s m args below meth c D H0 A nL Q ws (pc + 1) lv (.long (x + y) :: st)) : G p l e R s m args below meth c D H0 A nL Q ws pc lv (.long y :: .long x :: st) :=
  fun H locs ls hP hS hl => lv_ladd C.1 C.2.1 hdg (k H locs ls hP hS hl)
theorem r_lsub (C : Cx p s m args meth c cc own nL ret D) {x y : Int64} (hdg : decode cc pc = .ok (.lsub, 1)) (k : G p l e R s m args below meth c D H0 A nL Q ws (pc + 1) lv (.long (x - y) :: st)) : G p l e R s m args below meth c D H0 A nL Q ws pc lv (.long y :: .long x :: st) :=
  fun H locs ls hP hS hl => lv_lsub C.1 C.2.1 hdg (k H locs ls hP hS hl)
theorem r_lmul (C : Cx p s m args meth c cc own nL ret D) {x y : Int64} (hdg : decode cc pc = .ok (.lmul, 1)) (k : G p l e R s m args below meth c D H0 A nL Q ws (pc + 1) lv (.long (x * y) :: st)) : G p l e R s m args below meth c D H0 A nL Q ws pc lv (.long y :: .long x :: st) :=
  fun H locs ls hP hS hl => lv_lmul C.1 C.2.1 hdg (k H locs ls hP hS hl)
theorem r_land (C : Cx p s m args meth c cc own nL ret D) {x y : Int64} (hdg : decode cc pc = .ok (.land, 1)) (k : G p l e R s m args below meth c D H0 A nL Q ws (pc + 1) lv (.long (x &&& y) :: st)) : G p l e R s m args below meth c D H0 A nL Q ws pc lv (.long y :: .long x :: st) :=
  fun H locs ls hP hS hl => lv_land C.1 C.2.1 hdg (k H locs ls hP hS hl)
theorem r_lor (C : Cx p s m args meth c cc own nL ret D) {x y : Int64} (hdg : decode cc pc = .ok (.lor, 1)) (k : G p l e R s m args below meth c D H0 A nL Q ws (pc + 1) lv (.long (x ||| y) :: st)) : G p l e R s m args below meth c D H0 A nL Q ws pc lv (.long y :: .long x :: st) :=
  fun H locs ls hP hS hl => lv_lor C.1 C.2.1 hdg (k H locs ls hP hS hl)
theorem r_lxor (C : Cx p s m args meth c cc own nL ret D) {x y : Int64} (hdg : decode cc pc = .ok (.lxor, 1)) (k : G p l e R s m args below meth c D H0 A nL Q ws (pc + 1) lv (.long (x ^^^ y) :: st)) : G p l e R s m args below meth c D H0 A nL Q ws pc lv (.long y :: .long x :: st) :=
  fun H locs ls hP hS hl => lv_lxor C.1 C.2.1 hdg (k H locs ls hP hS hl)
theorem r_ldiv (C : Cx p s m args meth c cc own nL ret D) {x y : Int64} (hdg : decode cc pc = .ok (.ldiv, 1)) (hne : ¬ y = 0) (k : G p l e R s m args below meth c D H0 A nL Q ws (pc + 1) lv (.long (x / y) :: st)) : G p l e R s m args below meth c D H0 A nL Q ws pc lv (.long y :: .long x :: st) :=
  fun H locs ls hP hS hl => lv_ldiv C.1 C.2.1 hdg hne (k H locs ls hP hS hl)
theorem r_lrem (C : Cx p s m args meth c cc own nL ret D) {x y : Int64} (hdg : decode cc pc = .ok (.lrem, 1)) (hne : ¬ y = 0) (k : G p l e R s m args below meth c D H0 A nL Q ws (pc + 1) lv (.long (x - x / y * y) :: st)) : G p l e R s m args below meth c D H0 A nL Q ws pc lv (.long y :: .long x :: st) :=
  fun H locs ls hP hS hl => lv_lrem C.1 C.2.1 hdg hne (k H locs ls hP hS hl)
theorem r_lneg (C : Cx p s m args meth c cc own nL ret D) {x : Int64} (hdg : decode cc pc = .ok (.lneg, 1)) (k : G p l e R s m args below meth c D H0 A nL Q ws (pc + 1) lv (.long (-x) :: st)) : G p l e R s m args below meth c D H0 A nL Q ws pc lv (.long x :: st) :=
  fun H locs ls hP hS hl => lv_lneg C.1 C.2.1 hdg (k H locs ls hP hS hl)
theorem r_lcmp (C : Cx p s m args meth c cc own nL ret D) {x y : Int64} (hdg : decode cc pc = .ok (.lcmp, 1)) (k : G p l e R s m args below meth c D H0 A nL Q ws (pc + 1) lv (.int (lg_cmp x y) :: st)) : G p l e R s m args below meth c D H0 A nL Q ws pc lv (.long y :: .long x :: st) :=
  fun H locs ls hP hS hl => W.lcmp C.1 C.2.1 hdg (k H locs ls hP hS hl)
theorem r_i2l (C : Cx p s m args meth c cc own nL ret D) {x : Int32} (hdg : decode cc pc = .ok (.i2l, 1)) (k : G p l e R s m args below meth c D H0 A nL Q ws (pc + 1) lv (.long x.toInt64 :: st)) : G p l e R s m args below meth c D H0 A nL Q ws pc lv (.int x :: st) :=
  fun H locs ls hP hS hl => lv_i2l C.1 C.2.1 hdg rfl (k H locs ls hP hS hl)
theorem r_l2i (C : Cx p s m args meth c cc own nL ret D) {x : Int64} (hdg : decode cc pc = .ok (.l2i, 1)) (k : G p l e R s m args below meth c D H0 A nL Q ws (pc + 1) lv (.int x.toInt32 :: st)) : G p l e R s m args below meth c D H0 A nL Q ws pc lv (.long x :: st) :=
  fun H locs ls hP hS hl => lv_l2i C.1 C.2.1 hdg rfl (k H locs ls hP hS hl)
theorem r_i2b (C : Cx p s m args meth c cc own nL ret D) {x : Int32} (hdg : decode cc pc = .ok (.i2b, 1)) (k : G p l e R s m args below meth c D H0 A nL Q ws (pc + 1) lv (.int x.toInt8.toInt32 :: st)) : G p l e R s m args below meth c D H0 A nL Q ws pc lv (.int x :: st) :=
  fun H locs ls hP hS hl => lv_i2b C.1 C.2.1 hdg rfl (k H locs ls hP hS hl)
theorem r_i2s (C : Cx p s m args meth c cc own nL ret D) {x : Int32} (hdg : decode cc pc = .ok (.i2s, 1)) (k : G p l e R s m args below meth c D H0 A nL Q ws (pc + 1) lv (.int x.toInt16.toInt32 :: st)) : G p l e R s m args below meth c D H0 A nL Q ws pc lv (.int x :: st) :=
  fun H locs ls hP hS hl => lv_i2s C.1 C.2.1 hdg rfl (k H locs ls hP hS hl)
theorem r_iushr (C : Cx p s m args meth c cc own nL ret D) {x y : Int32} (hdg : decode cc pc = .ok (.iushr, 1)) (k : G p l e R s m args below meth c D H0 A nL Q ws (pc + 1) lv (.int ((x.toUInt32 >>> (y.toUInt32 &&& Int32.toUInt32 31)).toInt32) :: st)) : G p l e R s m args below meth c D H0 A nL Q ws pc lv (.int y :: .int x :: st) :=
  fun H locs ls hP hS hl => lv_iushr C.1 C.2.1 hdg rfl (k H locs ls hP hS hl)
theorem r_lshl (C : Cx p s m args meth c cc own nL ret D) {x : Int64} {y : Int32} (hdg : decode cc pc = .ok (.lshl, 1)) (k : G p l e R s m args below meth c D H0 A nL Q ws (pc + 1) lv (.long (x <<< (y.toInt64 &&& 63)) :: st)) : G p l e R s m args below meth c D H0 A nL Q ws pc lv (.int y :: .long x :: st) :=
  fun H locs ls hP hS hl => lv_lshl C.1 C.2.1 hdg rfl (k H locs ls hP hS hl)
theorem r_lshr (C : Cx p s m args meth c cc own nL ret D) {x : Int64} {y : Int32} (hdg : decode cc pc = .ok (.lshr, 1)) (k : G p l e R s m args below meth c D H0 A nL Q ws (pc + 1) lv (.long (x >>> (y.toInt64 &&& 63)) :: st)) : G p l e R s m args below meth c D H0 A nL Q ws pc lv (.int y :: .long x :: st) :=
  fun H locs ls hP hS hl => lv_lshr C.1 C.2.1 hdg rfl (k H locs ls hP hS hl)
theorem r_ifeq (C : Cx p s m args meth c cc own nL ret D) {x : Int32} {off : Int} {tgt : Nat} (hdg : decode cc pc = .ok (.ifCond .eq off, 3)) (ht : (pc : Int) + off = (tgt : Int)) (kt : x = (0 : Int32) → G p l e R s m args below meth c D H0 A nL Q ws tgt lv st) (kf : ¬ x = (0 : Int32) → G p l e R s m args below meth c D H0 A nL Q ws (pc + 3) lv st) : G p l e R s m args below meth c D H0 A nL Q ws pc lv (.int x :: st) :=
  fun H locs ls hP hS hl => lv_if_eq C.1 C.2.1 hdg ht (fun z => kt z H locs ls hP hS hl) (fun z => kf z H locs ls hP hS hl)
theorem r_iceq (C : Cx p s m args meth c cc own nL ret D) {x y : Int32} {off : Int} {tgt : Nat} (hdg : decode cc pc = .ok (.if_icmp .eq off, 3)) (ht : (pc : Int) + off = (tgt : Int)) (kt : x = y → G p l e R s m args below meth c D H0 A nL Q ws tgt lv st) (kf : ¬ x = y → G p l e R s m args below meth c D H0 A nL Q ws (pc + 3) lv st) : G p l e R s m args below meth c D H0 A nL Q ws pc lv (.int y :: .int x :: st) :=
  fun H locs ls hP hS hl => lv_icmp_eq C.1 C.2.1 hdg ht (fun z => kt z H locs ls hP hS hl) (fun z => kf z H locs ls hP hS hl)
theorem r_ifne (C : Cx p s m args meth c cc own nL ret D) {x : Int32} {off : Int} {tgt : Nat} (hdg : decode cc pc = .ok (.ifCond .ne off, 3)) (ht : (pc : Int) + off = (tgt : Int)) (kt : ¬ x = (0 : Int32) → G p l e R s m args below meth c D H0 A nL Q ws tgt lv st) (kf : x = (0 : Int32) → G p l e R s m args below meth c D H0 A nL Q ws (pc + 3) lv st) : G p l e R s m args below meth c D H0 A nL Q ws pc lv (.int x :: st) :=
  fun H locs ls hP hS hl => lv_if_ne C.1 C.2.1 hdg ht (fun z => kt z H locs ls hP hS hl) (fun z => kf z H locs ls hP hS hl)
theorem r_icne (C : Cx p s m args meth c cc own nL ret D) {x y : Int32} {off : Int} {tgt : Nat} (hdg : decode cc pc = .ok (.if_icmp .ne off, 3)) (ht : (pc : Int) + off = (tgt : Int)) (kt : ¬ x = y → G p l e R s m args below meth c D H0 A nL Q ws tgt lv st) (kf : x = y → G p l e R s m args below meth c D H0 A nL Q ws (pc + 3) lv st) : G p l e R s m args below meth c D H0 A nL Q ws pc lv (.int y :: .int x :: st) :=
  fun H locs ls hP hS hl => lv_icmp_ne C.1 C.2.1 hdg ht (fun z => kt z H locs ls hP hS hl) (fun z => kf z H locs ls hP hS hl)
theorem r_iflt (C : Cx p s m args meth c cc own nL ret D) {x : Int32} {off : Int} {tgt : Nat} (hdg : decode cc pc = .ok (.ifCond .lt off, 3)) (ht : (pc : Int) + off = (tgt : Int)) (kt : x < (0 : Int32) → G p l e R s m args below meth c D H0 A nL Q ws tgt lv st) (kf : ¬ x < (0 : Int32) → G p l e R s m args below meth c D H0 A nL Q ws (pc + 3) lv st) : G p l e R s m args below meth c D H0 A nL Q ws pc lv (.int x :: st) :=
  fun H locs ls hP hS hl => lv_if_lt C.1 C.2.1 hdg ht (fun z => kt z H locs ls hP hS hl) (fun z => kf z H locs ls hP hS hl)
theorem r_iclt (C : Cx p s m args meth c cc own nL ret D) {x y : Int32} {off : Int} {tgt : Nat} (hdg : decode cc pc = .ok (.if_icmp .lt off, 3)) (ht : (pc : Int) + off = (tgt : Int)) (kt : x < y → G p l e R s m args below meth c D H0 A nL Q ws tgt lv st) (kf : ¬ x < y → G p l e R s m args below meth c D H0 A nL Q ws (pc + 3) lv st) : G p l e R s m args below meth c D H0 A nL Q ws pc lv (.int y :: .int x :: st) :=
  fun H locs ls hP hS hl => lv_icmp_lt C.1 C.2.1 hdg ht (fun z => kt z H locs ls hP hS hl) (fun z => kf z H locs ls hP hS hl)
theorem r_ifge (C : Cx p s m args meth c cc own nL ret D) {x : Int32} {off : Int} {tgt : Nat} (hdg : decode cc pc = .ok (.ifCond .ge off, 3)) (ht : (pc : Int) + off = (tgt : Int)) (kt : ¬ x < (0 : Int32) → G p l e R s m args below meth c D H0 A nL Q ws tgt lv st) (kf : x < (0 : Int32) → G p l e R s m args below meth c D H0 A nL Q ws (pc + 3) lv st) : G p l e R s m args below meth c D H0 A nL Q ws pc lv (.int x :: st) :=
  fun H locs ls hP hS hl => lv_if_ge C.1 C.2.1 hdg ht (fun z => kt (Int32.not_lt.mpr z) H locs ls hP hS hl) (fun z => kf (Int32.not_le.mp z) H locs ls hP hS hl)
theorem r_icge (C : Cx p s m args meth c cc own nL ret D) {x y : Int32} {off : Int} {tgt : Nat} (hdg : decode cc pc = .ok (.if_icmp .ge off, 3)) (ht : (pc : Int) + off = (tgt : Int)) (kt : ¬ x < y → G p l e R s m args below meth c D H0 A nL Q ws tgt lv st) (kf : x < y → G p l e R s m args below meth c D H0 A nL Q ws (pc + 3) lv st) : G p l e R s m args below meth c D H0 A nL Q ws pc lv (.int y :: .int x :: st) :=
  fun H locs ls hP hS hl => lv_icmp_ge C.1 C.2.1 hdg ht (fun z => kt (Int32.not_lt.mpr z) H locs ls hP hS hl) (fun z => kf (Int32.not_le.mp z) H locs ls hP hS hl)
theorem r_ifgt (C : Cx p s m args meth c cc own nL ret D) {x : Int32} {off : Int} {tgt : Nat} (hdg : decode cc pc = .ok (.ifCond .gt off, 3)) (ht : (pc : Int) + off = (tgt : Int)) (kt : (0 : Int32) < x → G p l e R s m args below meth c D H0 A nL Q ws tgt lv st) (kf : ¬ (0 : Int32) < x → G p l e R s m args below meth c D H0 A nL Q ws (pc + 3) lv st) : G p l e R s m args below meth c D H0 A nL Q ws pc lv (.int x :: st) :=
  fun H locs ls hP hS hl => lv_if_gt C.1 C.2.1 hdg ht (fun z => kt z H locs ls hP hS hl) (fun z => kf z H locs ls hP hS hl)
theorem r_icgt (C : Cx p s m args meth c cc own nL ret D) {x y : Int32} {off : Int} {tgt : Nat} (hdg : decode cc pc = .ok (.if_icmp .gt off, 3)) (ht : (pc : Int) + off = (tgt : Int)) (kt : y < x → G p l e R s m args below meth c D H0 A nL Q ws tgt lv st) (kf : ¬ y < x → G p l e R s m args below meth c D H0 A nL Q ws (pc + 3) lv st) : G p l e R s m args below meth c D H0 A nL Q ws pc lv (.int y :: .int x :: st) :=
  fun H locs ls hP hS hl => lv_icmp_gt C.1 C.2.1 hdg ht (fun z => kt z H locs ls hP hS hl) (fun z => kf z H locs ls hP hS hl)
theorem r_ifle (C : Cx p s m args meth c cc own nL ret D) {x : Int32} {off : Int} {tgt : Nat} (hdg : decode cc pc = .ok (.ifCond .le off, 3)) (ht : (pc : Int) + off = (tgt : Int)) (kt : ¬ (0 : Int32) < x → G p l e R s m args below meth c D H0 A nL Q ws tgt lv st) (kf : (0 : Int32) < x → G p l e R s m args below meth c D H0 A nL Q ws (pc + 3) lv st) : G p l e R s m args below meth c D H0 A nL Q ws pc lv (.int x :: st) :=
  fun H locs ls hP hS hl => lv_if_le C.1 C.2.1 hdg ht (fun z => kt (Int32.not_lt.mpr z) H locs ls hP hS hl) (fun z => kf (Int32.not_le.mp z) H locs ls hP hS hl)
theorem r_icle (C : Cx p s m args meth c cc own nL ret D) {x y : Int32} {off : Int} {tgt : Nat} (hdg : decode cc pc = .ok (.if_icmp .le off, 3)) (ht : (pc : Int) + off = (tgt : Int)) (kt : ¬ y < x → G p l e R s m args below meth c D H0 A nL Q ws tgt lv st) (kf : y < x → G p l e R s m args below meth c D H0 A nL Q ws (pc + 3) lv st) : G p l e R s m args below meth c D H0 A nL Q ws pc lv (.int y :: .int x :: st) :=
  fun H locs ls hP hS hl => lv_icmp_le C.1 C.2.1 hdg ht (fun z => kt (Int32.not_lt.mpr z) H locs ls hP hS hl) (fun z => kf (Int32.not_le.mp z) H locs ls hP hS hl)
theorem r_i2c (C : Cx p s m args meth c cc own nL ret D) {x : Int32} (hdg : decode cc pc = .ok (.i2c, 1)) (k : G p l e R s m args below meth c D H0 A nL Q ws (pc + 1) lv (.int ((x.toUInt32 % 65536).toInt32) :: st)) : G p l e R s m args below meth c D H0 A nL Q ws pc lv (.int x :: st) :=
  fun H locs ls hP hS hl => lv_i2c C.1 C.2.1 hdg rfl (k H locs ls hP hS hl)
theorem r_ldc (C : Cx p s m args meth c cc own nL ret D) {index : Nat} {v : Int32} (hw : Cond.constant own index v ∈ TBL) (hdg : decode cc pc = .ok (.ldc index, 2)) (k : G p l e R s m args below meth c D H0 A nL Q ws (pc + 2) lv (.int v :: st)) : G p l e R s m args below meth c D H0 A nL Q ws pc lv st :=
  fun H locs ls hP hS hl => lv_ldc C.1 C.2.1 C.2.2.2.1 (C.2.2.1 _ hw) hdg (k H locs ls hP hS hl)
theorem r_ldcw (C : Cx p s m args meth c cc own nL ret D) {index : Nat} {v : Int32} (hw : Cond.constant own index v ∈ TBL) (hdg : decode cc pc = .ok (.ldc_w index, 3)) (k : G p l e R s m args below meth c D H0 A nL Q ws (pc + 3) lv (.int v :: st)) : G p l e R s m args below meth c D H0 A nL Q ws pc lv st :=
  fun H locs ls hP hS hl => lv_ldcw C.1 C.2.1 C.2.2.2.1 (C.2.2.1 _ hw) hdg (k H locs ls hP hS hl)
theorem r_ldc2 (C : Cx p s m args meth c cc own nL ret D) {index : Nat} {v : Int64} (hw : Cond.constantLong own index v ∈ TBL) (hdg : decode cc pc = .ok (.ldc2_w index, 3)) (k : G p l e R s m args below meth c D H0 A nL Q ws (pc + 3) lv (.long v :: st)) : G p l e R s m args below meth c D H0 A nL Q ws pc lv st :=
  fun H locs ls hP hS hl => lv_ldc2 C.1 C.2.1 C.2.2.2.1 (C.2.2.1 _ hw) hdg (k H locs ls hP hS hl)
theorem r_tabIn (C : Cx p s m args meth c cc own nL ret D) {dflt lo hi : Int} {offs : Array Int} {len : Nat} {x : Int32} {off : Int} {tgt : Nat} (hdg : decode cc pc = .ok (.tableswitch dflt lo hi offs, len)) (h1 : ¬ x.toInt < lo) (h2 : ¬ hi < x.toInt) (ho : offs[(x.toInt - lo).toNat]? = some off) (ht : (pc : Int) + off = (tgt : Int)) (k : G p l e R s m args below meth c D H0 A nL Q ws tgt lv st) : G p l e R s m args below meth c D H0 A nL Q ws pc lv (.int x :: st) :=
  fun H locs ls hP hS hl => lv_tableIn C.1 C.2.1 hdg h1 h2 ho ht (k H locs ls hP hS hl)
theorem r_tabOut (C : Cx p s m args meth c cc own nL ret D) {dflt lo hi : Int} {offs : Array Int} {len : Nat} {x : Int32} {tgt : Nat} (hdg : decode cc pc = .ok (.tableswitch dflt lo hi offs, len)) (h : x.toInt < lo ∨ hi < x.toInt) (ht : (pc : Int) + dflt = (tgt : Int)) (k : G p l e R s m args below meth c D H0 A nL Q ws tgt lv st) : G p l e R s m args below meth c D H0 A nL Q ws pc lv (.int x :: st) :=
  fun H locs ls hP hS hl => lv_tableOut C.1 C.2.1 hdg h ht (k H locs ls hP hS hl)
theorem r_look (C : Cx p s m args meth c cc own nL ret D) {dflt : Int} {ps : Array (Int × Int)} {len : Nat} {x : Int32} {off : Int} {tgt : Nat} (hdg : decode cc pc = .ok (.lookupswitch dflt ps, len)) (hp : (ps.toList.zip (ps.toList.drop 1)).all (fun (a, next) => a.1 < next.1) = true) (ho : Op.lookupswitch.offset ps.toList dflt x.toInt = off) (ht : (pc : Int) + off = (tgt : Int)) (k : G p l e R s m args below meth c D H0 A nL Q ws tgt lv st) : G p l e R s m args below meth c D H0 A nL Q ws pc lv (.int x :: st) :=
  fun H locs ls hP hS hl => lv_lookup C.1 C.2.1 hdg hp ho ht (k H locs ls hP hS hl)
theorem r_iald (C : Cx p s m args meth c cc own nL ret D) (q0 : Nat) {a n : Nat} {f : Nat → Int32} {i : Int32} {y : Int32} (j : Nat) (ha : ws[q0]? = some (a, .inl (D.1 10, n, .inl f))) (hi : i = nI j) (hj : j < n) (hn : n ≤ 200) (hy : f j = y) (hdg : decode cc pc = .ok (.iaload, 1)) (k : G p l e R s m args below meth c D H0 A nL Q ws (pc + 1) lv (.int y :: st)) : G p l e R s m args below meth c D H0 A nL Q ws pc lv (.int i :: .ref a :: st) := by
  intro H locs ls hP hS hl
  subst hi; subst hy
  have e : (nI j).toNatClampNeg = j := nI_clamp (by omega)
  refine va_iald C.1 C.2.1 C.2.2.2.2.2.1 hP q0 0 ha rfl (vp_in_nI hj (by omega)) hdg ?_
  rw [e]
  exact k H locs ls hP hS hl
theorem r_cald (C : Cx p s m args meth c cc own nL ret D) (q0 : Nat) {a n : Nat} {f : Nat → Int32} {i : Int32} {y : Int32} (j : Nat) (ha : ws[q0]? = some (a, .inl (D.1 12, n, .inl f))) (hi : i = nI j) (hj : j < n) (hn : n ≤ 200) (hy : f j = y) (hdg : decode cc pc = .ok (.caload, 1)) (k : G p l e R s m args below meth c D H0 A nL Q ws (pc + 1) lv (.int y :: st)) : G p l e R s m args below meth c D H0 A nL Q ws pc lv (.int i :: .ref a :: st) := by
  intro H locs ls hP hS hl
  subst hi; subst hy
  have e : (nI j).toNatClampNeg = j := nI_clamp (by omega)
  refine va_cald C.1 C.2.1 C.2.2.2.2.2.1 hP q0 2 ha rfl (vp_in_nI hj (by omega)) hdg ?_
  rw [e]
  exact k H locs ls hP hS hl
theorem r_lald (C : Cx p s m args meth c cc own nL ret D) (q0 : Nat) {a n : Nat} {f : Nat → Int64} {i : Int32} {y : Int64} (j : Nat) (ha : ws[q0]? = some (a, .inl (D.1 11, n, .inr (.inl f)))) (hi : i = nI j) (hj : j < n) (hn : n ≤ 200) (hy : f j = y) (hdg : decode cc pc = .ok (.laload, 1)) (k : G p l e R s m args below meth c D H0 A nL Q ws (pc + 1) lv (.long y :: st)) : G p l e R s m args below meth c D H0 A nL Q ws pc lv (.int i :: .ref a :: st) := by
  intro H locs ls hP hS hl
  subst hi; subst hy
  have e : (nI j).toNatClampNeg = j := nI_clamp (by omega)
  refine va_lald C.1 C.2.1 C.2.2.2.2.2.1 hP q0 1 ha rfl (vp_in_nI hj (by omega)) hdg ?_
  rw [e]
  exact k H locs ls hP hS hl
theorem r_alen (C : Cx p s m args meth c cc own nL ret D) (q0 t0 : Nat) {a n : Nat} {ty : FieldType} {x : (Nat → Int32) ⊕ (Nat → Int64) ⊕ (Nat → UInt32) ⊕ (Nat → UInt64) ⊕ (Nat → Option Nat)} {cA : ClassId} (ha : ws[q0]? = some (a, .inl (cA, n, x))) (ht : (tysD D)[t0]? = some (cA, ty)) (hdg : decode cc pc = .ok (.arraylength, 1)) (k : G p l e R s m args below meth c D H0 A nL Q ws (pc + 1) lv (.int (nI n) :: st)) : G p l e R s m args below meth c D H0 A nL Q ws pc lv (.ref a :: st) :=
  fun H locs ls hP hS hl => va_alen C.1 C.2.1 C.2.2.2.2.2.1 hP q0 t0 ha ht rfl hdg (k H locs ls hP hS hl)
/-- distinct addresses, whatever the cells hold -/
theorem dis_of {w0 : va_W} {B : Nat → Prop} (h0 : va_D B w0) (h : ws.map (·.1) = w0.map (·.1)) : va_D (Ad w0) ws := by
  have at0 : ∀ (k : Nat) (q : Nat × va_E), ws[k]? = some q → ∃ e, w0[k]? = some (q.1, e) := by
    intro k q hq
    have h1 : (ws.map (·.1))[k]? = some q.1 := by rw [List.getElem?_map, hq]; rfl
    rw [h, List.getElem?_map] at h1
    cases h2 : w0[k]? with
    | none => rw [h2] at h1; cases h1
    | some z => rw [h2] at h1; exact ⟨z.2, by rw [← Option.some.inj h1]⟩
  refine ⟨fun i j p q hi hj hpq => ?_, fun k q hk => ?_⟩
  · obtain ⟨e1, h1⟩ := at0 i p hi
    obtain ⟨e2, h2⟩ := at0 j q hj
    exact h0.1 i j _ _ h1 h2 hpq
  · obtain ⟨e1, h1⟩ := at0 k q hk
    exact ⟨k, e1, h1⟩
theorem r_iast (C : Cx p s m args meth c cc own nL ret D) {w0 ws2 : va_W} {B : Nat → Prop} (h0 : va_D B w0) (hA : Ad w0 = A) (q0 : Nat) {a n : Nat} {f : Nat → Int32} {i x : Int32} (j : Nat) (ha : ws[q0]? = some (a, .inl (D.1 10, n, .inl f))) (hi : i = nI j) (hj : j < n) (hn : n ≤ 200) (hdg : decode cc pc = .ok (.iastore, 1)) (hw : ws.map (·.1) = w0.map (·.1)) (h2 : ws.set q0 (a, .inl (D.1 10, n, .inl (upd f j x))) = ws2) (k : G p l e R s m args below meth c D H0 A nL Q ws2 (pc + 1) lv st) : G p l e R s m args below meth c D H0 A nL Q ws pc lv (.int x :: .int i :: .ref a :: st) := by
  intro H locs ls hP hS hl
  subst hi; subst hA
  have e : (nI j).toNatClampNeg = j := nI_clamp (by omega)
  refine va_iast C.1 C.2.1 C.2.2.2.2.2.1 hP (dis_of h0 hw) hS q0 0 ha rfl (vp_in_nI hj (by omega)) hdg (fun H1 l1 hP1 _ hS1 => ?_)
  rw [e, h2] at hP1
  exact k H1 l1 ls hP1 hS1 hl
theorem r_cast (C : Cx p s m args meth c cc own nL ret D) {w0 ws2 : va_W} {B : Nat → Prop} (h0 : va_D B w0) (hA : Ad w0 = A) (q0 : Nat) {a n : Nat} {f : Nat → Int32} {i x : Int32} (j : Nat) (ha : ws[q0]? = some (a, .inl (D.1 12, n, .inl f))) (hi : i = nI j) (hj : j < n) (hn : n ≤ 200) (hdg : decode cc pc = .ok (.castore, 1)) (hw : ws.map (·.1) = w0.map (·.1)) (h2 : ws.set q0 (a, .inl (D.1 12, n, .inl (upd f j (vp_nar .char x)))) = ws2) (k : G p l e R s m args below meth c D H0 A nL Q ws2 (pc + 1) lv st) : G p l e R s m args below meth c D H0 A nL Q ws pc lv (.int x :: .int i :: .ref a :: st) := by
  intro H locs ls hP hS hl
  subst hi; subst hA
  have e : (nI j).toNatClampNeg = j := nI_clamp (by omega)
  refine va_cast C.1 C.2.1 C.2.2.2.2.2.1 hP (dis_of h0 hw) hS q0 2 ha rfl (vp_in_nI hj (by omega)) hdg (fun H1 l1 hP1 _ hS1 => ?_)
  rw [e, h2] at hP1
  exact k H1 l1 ls hP1 hS1 hl
theorem r_last (C : Cx p s m args meth c cc own nL ret D) {w0 ws2 : va_W} {B : Nat → Prop} (h0 : va_D B w0) (hA : Ad w0 = A) (q0 : Nat) {a n : Nat} {f : Nat → Int64} {i : Int32} {x : Int64} (j : Nat) (ha : ws[q0]? = some (a, .inl (D.1 11, n, .inr (.inl f)))) (hi : i = nI j) (hj : j < n) (hn : n ≤ 200) (hdg : decode cc pc = .ok (.lastore, 1)) (hw : ws.map (·.1) = w0.map (·.1)) (h2 : ws.set q0 (a, .inl (D.1 11, n, .inr (.inl (vp_updL f j x)))) = ws2) (k : G p l e R s m args below meth c D H0 A nL Q ws2 (pc + 1) lv st) : G p l e R s m args below meth c D H0 A nL Q ws pc lv (.long x :: .int i :: .ref a :: st) := by
  intro H locs ls hP hS hl
  subst hi; subst hA
  have e : (nI j).toNatClampNeg = j := nI_clamp (by omega)
  refine va_last C.1 C.2.1 C.2.2.2.2.2.1 hP (dis_of h0 hw) hS q0 1 ha rfl (vp_in_nI hj (by omega)) hdg (fun H1 l1 hP1 _ hS1 => ?_)
  rw [e, h2] at hP1
  exact k H1 l1 ls hP1 hS1 hl
theorem r_iret (hr : ret = some .int) {rm : Room} {rv : Option Value} {ws1 : va_W} {v : Int32} (C : Cx p s m args meth c cc own nL ret D) (hq : some (.int v) = rv) (hw : ws = ws1) (hdg : decode cc pc = .ok (.ireturn, 1)) : G p l e rm s m args below meth c D s.heap A nL (MQ below (fun _ st o t => o = .returned rv ∧ va_P D classes ws1 t.heap ∧ va_F A st t) args s 0 0 A) ws pc lv [.int v] := by
  intro H locs ls hP hS hl
  subst hr; subst hq; subst hw
  exact W.iret C.1 C.2.1 C.2.2.2.2.2.2.1 (fun t ht _ => ⟨rfl, by rw [ht]; exact hP, hS.F ht⟩) hS.2.2 hdg C.2.2.2.2.2.2.2
theorem r_zret (hr : ret = some .boolean) {rm : Room} {rv : Option Value} {ws1 : va_W} {v : Int32} (C : Cx p s m args meth c cc own nL ret D) (hn : narrow .boolean (.int v) = .int v) (hq : some (.int v) = rv) (hw : ws = ws1) (hdg : decode cc pc = .ok (.ireturn, 1)) : G p l e rm s m args below meth c D s.heap A nL (MQ below (fun _ st o t => o = .returned rv ∧ va_P D classes ws1 t.heap ∧ va_F A st t) args s 0 0 A) ws pc lv [.int v] := by
  intro H locs ls hP hS hl
  subst hr; subst hq; subst hw
  exact W.zret C.1 C.2.1 C.2.2.2.2.2.2.1 hn (fun t ht _ => ⟨rfl, by rw [ht]; exact hP, hS.F ht⟩) hS.2.2 hdg C.2.2.2.2.2.2.2
theorem r_lret (hr : ret = some .long) {rm : Room} {rv : Option Value} {ws1 : va_W} {v : Int64} (C : Cx p s m args meth c cc own nL ret D) (hq : some (.long v) = rv) (hw : ws = ws1) (hdg : decode cc pc = .ok (.lreturn, 1)) : G p l e rm s m args below meth c D s.heap A nL (MQ below (fun _ st o t => o = .returned rv ∧ va_P D classes ws1 t.heap ∧ va_F A st t) args s 0 0 A) ws pc lv [.long v] := by
  intro H locs ls hP hS hl
  subst hr; subst hq; subst hw
  exact W.lret C.1 C.2.1 C.2.2.2.2.2.2.1 (fun t ht _ => ⟨rfl, by rw [ht]; exact hP, hS.F ht⟩) hS.2.2 hdg C.2.2.2.2.2.2.2
theorem r_vret (hr : ret = none) {rm : Room} {ws1 : va_W} (C : Cx p s m args meth c cc own nL ret D) (hw : ws = ws1) (hdg : decode cc pc = .ok (.return_, 1)) : G p l e rm s m args below meth c D s.heap A nL (MQ below (fun _ st o t => o = .returned none ∧ va_P D classes ws1 t.heap ∧ va_F A st t) args s 0 0 A) ws pc lv [] := by
  intro H locs ls hP hS hl
  subst hr; subst hw
  exact W.vret C.1 C.2.1 C.2.2.2.2.2.2.1 (fun t ht _ => ⟨rfl, by rw [ht]; exact hP, hS.F ht⟩) hS.2.2 hdg C.2.2.2.2.2.2.2
end GR
