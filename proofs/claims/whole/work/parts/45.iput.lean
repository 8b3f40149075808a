section IPUT
variable {p : Program} {l : Launch} {e : Env} {R : Room} {s : State} {m : MethodId} {args : Array Value} {below : List Frame} {meth : Method} {c : Code} {D : va_G} {H0 : Heap} {A : Nat → Prop} {nL : Nat} {Q : State → Prop} {ws : va_W} {pc : Nat} {lv : List (Nat × Value)} {st : List Value} {cc : ByteArray} {own : String} {ret : Option FieldType} {nc ns : Nat}
theorem ip_X2_9 (C : Cx p s m args meth c cc RX2 nL ret D) (hin2 : meth.name = "<init>") {ws2 : va_W} (q0 : Nat) {a : Nat} {fs : List Value} {x : Nat} (he : ws[q0]? = some (a, .inr (2, fs))) (hl0 : 0 < fs.length) (hdg : decode cc pc = .ok (.putfield 9, 3)) (h2 : ws.set q0 (a, .inr (2, fs.set 0 (.ref x))) = ws2) (k : GI p l e R s m args below meth c D H0 A nL Q nc ns ws2 (pc + 3) lv st) : GI p l e R s m args below meth c D H0 A nL Q nc ns ws pc lv (.ref x :: .ref a :: st) := by
  intro H locs ls hP hD hS hl
  refine va_putF (D := D) (ci := 2) (v := .ref x) (ty := tyX2 0) (C := RX2) (T := TX2) (N := 3) C.1 C.2.1 C.2.2.1 iX2 tyX2 tyX2_ok nmX2 C.2.2.2.1 C.2.2.2.2.2.1 hP hD hS q0 he rfl 0 (by decide) (C.2.2.1 _ wf_X2_9) (fun _ h => h) rfl hin2 rfl (tyX2_ok 0 (by decide)) rfl rfl hl0 hdg (fun H1 l1 hP1 hD1 hS1 => ?_)
  rw [h2] at hP1 hD1
  exact k H1 l1 ls hP1 hD1 hS1 hl
theorem ip_X2_15 (C : Cx p s m args meth c cc RX2 nL ret D) (hin2 : meth.name = "<init>") {ws2 : va_W} (q0 : Nat) {a : Nat} {fs : List Value} {x : Nat} (he : ws[q0]? = some (a, .inr (2, fs))) (hl0 : 1 < fs.length) (hdg : decode cc pc = .ok (.putfield 15, 3)) (h2 : ws.set q0 (a, .inr (2, fs.set 1 (.ref x))) = ws2) (k : GI p l e R s m args below meth c D H0 A nL Q nc ns ws2 (pc + 3) lv st) : GI p l e R s m args below meth c D H0 A nL Q nc ns ws pc lv (.ref x :: .ref a :: st) := by
  intro H locs ls hP hD hS hl
  refine va_putF (D := D) (ci := 2) (v := .ref x) (ty := tyX2 1) (C := RX2) (T := TX2) (N := 3) C.1 C.2.1 C.2.2.1 iX2 tyX2 tyX2_ok nmX2 C.2.2.2.1 C.2.2.2.2.2.1 hP hD hS q0 he rfl 1 (by decide) (C.2.2.1 _ wf_X2_15) (fun _ h => h) rfl hin2 rfl (tyX2_ok 1 (by decide)) rfl rfl hl0 hdg (fun H1 l1 hP1 hD1 hS1 => ?_)
  rw [h2] at hP1 hD1
  exact k H1 l1 ls hP1 hD1 hS1 hl
theorem ip_X2_18 (C : Cx p s m args meth c cc RX2 nL ret D) (hin2 : meth.name = "<init>") {ws2 : va_W} (q0 : Nat) {a : Nat} {fs : List Value} {x : Nat} (he : ws[q0]? = some (a, .inr (2, fs))) (hl0 : 2 < fs.length) (hdg : decode cc pc = .ok (.putfield 18, 3)) (h2 : ws.set q0 (a, .inr (2, fs.set 2 (.ref x))) = ws2) (k : GI p l e R s m args below meth c D H0 A nL Q nc ns ws2 (pc + 3) lv st) : GI p l e R s m args below meth c D H0 A nL Q nc ns ws pc lv (.ref x :: .ref a :: st) := by
  intro H locs ls hP hD hS hl
  refine va_putF (D := D) (ci := 2) (v := .ref x) (ty := tyX2 2) (C := RX2) (T := TX2) (N := 3) C.1 C.2.1 C.2.2.1 iX2 tyX2 tyX2_ok nmX2 C.2.2.2.1 C.2.2.2.2.2.1 hP hD hS q0 he rfl 2 (by decide) (C.2.2.1 _ wf_X2_18) (fun _ h => h) rfl hin2 rfl (tyX2_ok 2 (by decide)) rfl rfl hl0 hdg (fun H1 l1 hP1 hD1 hS1 => ?_)
  rw [h2] at hP1 hD1
  exact k H1 l1 ls hP1 hD1 hS1 hl
theorem ip_X3_9 (C : Cx p s m args meth c cc RX3 nL ret D) (hin2 : meth.name = "<init>") {ws2 : va_W} (q0 : Nat) {a : Nat} {fs : List Value} {x : Nat} (he : ws[q0]? = some (a, .inr (1, fs))) (hl0 : 0 < fs.length) (hdg : decode cc pc = .ok (.putfield 9, 3)) (h2 : ws.set q0 (a, .inr (1, fs.set 0 (.ref x))) = ws2) (k : GI p l e R s m args below meth c D H0 A nL Q nc ns ws2 (pc + 3) lv st) : GI p l e R s m args below meth c D H0 A nL Q nc ns ws pc lv (.ref x :: .ref a :: st) := by
  intro H locs ls hP hD hS hl
  refine va_putF (D := D) (ci := 1) (v := .ref x) (ty := tyX3 0) (C := RX3) (T := TX3) (N := 4) C.1 C.2.1 C.2.2.1 iX3 tyX3 tyX3_ok nmX3 C.2.2.2.1 C.2.2.2.2.2.1 hP hD hS q0 he rfl 0 (by decide) (C.2.2.1 _ wf_X3_9) (fun _ h => h) rfl hin2 rfl (tyX3_ok 0 (by decide)) rfl rfl hl0 hdg (fun H1 l1 hP1 hD1 hS1 => ?_)
  rw [h2] at hP1 hD1
  exact k H1 l1 ls hP1 hD1 hS1 hl
theorem ip_X3_15 (C : Cx p s m args meth c cc RX3 nL ret D) (hin2 : meth.name = "<init>") {ws2 : va_W} (q0 : Nat) {a : Nat} {fs : List Value} {x : Int32} (he : ws[q0]? = some (a, .inr (1, fs))) (hl0 : 1 < fs.length) (hdg : decode cc pc = .ok (.putfield 15, 3)) (h2 : ws.set q0 (a, .inr (1, fs.set 1 (.int x))) = ws2) (k : GI p l e R s m args below meth c D H0 A nL Q nc ns ws2 (pc + 3) lv st) : GI p l e R s m args below meth c D H0 A nL Q nc ns ws pc lv (.int x :: .ref a :: st) := by
  intro H locs ls hP hD hS hl
  refine va_put (D := D) (ci := 1) (v := .int x) (ty := tyX3 1) (C := RX3) (T := TX3) (N := 4) C.1 C.2.1 C.2.2.1 iX3 tyX3 tyX3_ok nmX3 C.2.2.2.1 C.2.2.2.2.2.1 hP hD hS q0 he rfl 1 (by decide) (C.2.2.1 _ wf_X3_15) (fun _ h => h) rfl (tyX3_ok 1 (by decide)) rfl rfl hl0 hdg (fun H1 l1 hP1 hD1 hS1 => ?_)
  rw [h2] at hP1 hD1
  exact k H1 l1 ls hP1 hD1 hS1 hl
theorem ip_X3_19 (C : Cx p s m args meth c cc RX3 nL ret D) (hin2 : meth.name = "<init>") {ws2 : va_W} (q0 : Nat) {a : Nat} {fs : List Value} {x : Int32} (he : ws[q0]? = some (a, .inr (1, fs))) (hl0 : 2 < fs.length) (hdg : decode cc pc = .ok (.putfield 19, 3)) (h2 : ws.set q0 (a, .inr (1, fs.set 2 (.int x))) = ws2) (k : GI p l e R s m args below meth c D H0 A nL Q nc ns ws2 (pc + 3) lv st) : GI p l e R s m args below meth c D H0 A nL Q nc ns ws pc lv (.int x :: .ref a :: st) := by
  intro H locs ls hP hD hS hl
  refine va_put (D := D) (ci := 1) (v := .int x) (ty := tyX3 2) (C := RX3) (T := TX3) (N := 4) C.1 C.2.1 C.2.2.1 iX3 tyX3 tyX3_ok nmX3 C.2.2.2.1 C.2.2.2.2.2.1 hP hD hS q0 he rfl 2 (by decide) (C.2.2.1 _ wf_X3_19) (fun _ h => h) rfl (tyX3_ok 2 (by decide)) rfl rfl hl0 hdg (fun H1 l1 hP1 hD1 hS1 => ?_)
  rw [h2] at hP1 hD1
  exact k H1 l1 ls hP1 hD1 hS1 hl
theorem ip_X3_22 (C : Cx p s m args meth c cc RX3 nL ret D) (hin2 : meth.name = "<init>") {ws2 : va_W} (q0 : Nat) {a : Nat} {fs : List Value} {x : Int32} (he : ws[q0]? = some (a, .inr (1, fs))) (hl0 : 3 < fs.length) (hdg : decode cc pc = .ok (.putfield 22, 3)) (h2 : ws.set q0 (a, .inr (1, fs.set 3 (.int x))) = ws2) (k : GI p l e R s m args below meth c D H0 A nL Q nc ns ws2 (pc + 3) lv st) : GI p l e R s m args below meth c D H0 A nL Q nc ns ws pc lv (.int x :: .ref a :: st) := by
  intro H locs ls hP hD hS hl
  refine va_put (D := D) (ci := 1) (v := .int x) (ty := tyX3 3) (C := RX3) (T := TX3) (N := 4) C.1 C.2.1 C.2.2.1 iX3 tyX3 tyX3_ok nmX3 C.2.2.2.1 C.2.2.2.2.2.1 hP hD hS q0 he rfl 3 (by decide) (C.2.2.1 _ wf_X3_22) (fun _ h => h) rfl (tyX3_ok 3 (by decide)) rfl rfl hl0 hdg (fun H1 l1 hP1 hD1 hS1 => ?_)
  rw [h2] at hP1 hD1
  exact k H1 l1 ls hP1 hD1 hS1 hl
theorem ip_X5_9 (C : Cx p s m args meth c cc RX5 nL ret D) (hin2 : meth.name = "<init>") {ws2 : va_W} (q0 : Nat) {a : Nat} {fs : List Value} {x : Int32} (he : ws[q0]? = some (a, .inr (0, fs))) (hl0 : 0 < fs.length) (hdg : decode cc pc = .ok (.putfield 9, 3)) (h2 : ws.set q0 (a, .inr (0, fs.set 0 (.int x))) = ws2) (k : GI p l e R s m args below meth c D H0 A nL Q nc ns ws2 (pc + 3) lv st) : GI p l e R s m args below meth c D H0 A nL Q nc ns ws pc lv (.int x :: .ref a :: st) := by
  intro H locs ls hP hD hS hl
  refine va_put (D := D) (ci := 0) (v := .int x) (ty := tyX5 0) (C := RX5) (T := TX5) (N := 12) C.1 C.2.1 C.2.2.1 iX5 tyX5 tyX5_ok nmX5 C.2.2.2.1 C.2.2.2.2.2.1 hP hD hS q0 he rfl 0 (by decide) (C.2.2.1 _ wf_X5_9) (fun _ h => h) rfl (tyX5_ok 0 (by decide)) rfl rfl hl0 hdg (fun H1 l1 hP1 hD1 hS1 => ?_)
  rw [h2] at hP1 hD1
  exact k H1 l1 ls hP1 hD1 hS1 hl
theorem ip_X5_15 (C : Cx p s m args meth c cc RX5 nL ret D) (hin2 : meth.name = "<init>") {ws2 : va_W} (q0 : Nat) {a : Nat} {fs : List Value} {x : Int32} (he : ws[q0]? = some (a, .inr (0, fs))) (hl0 : 1 < fs.length) (hdg : decode cc pc = .ok (.putfield 15, 3)) (h2 : ws.set q0 (a, .inr (0, fs.set 1 (.int x))) = ws2) (k : GI p l e R s m args below meth c D H0 A nL Q nc ns ws2 (pc + 3) lv st) : GI p l e R s m args below meth c D H0 A nL Q nc ns ws pc lv (.int x :: .ref a :: st) := by
  intro H locs ls hP hD hS hl
  refine va_put (D := D) (ci := 0) (v := .int x) (ty := tyX5 1) (C := RX5) (T := TX5) (N := 12) C.1 C.2.1 C.2.2.1 iX5 tyX5 tyX5_ok nmX5 C.2.2.2.1 C.2.2.2.2.2.1 hP hD hS q0 he rfl 1 (by decide) (C.2.2.1 _ wf_X5_15) (fun _ h => h) rfl (tyX5_ok 1 (by decide)) rfl rfl hl0 hdg (fun H1 l1 hP1 hD1 hS1 => ?_)
  rw [h2] at hP1 hD1
  exact k H1 l1 ls hP1 hD1 hS1 hl
theorem ip_X5_18 (C : Cx p s m args meth c cc RX5 nL ret D) (hin2 : meth.name = "<init>") {ws2 : va_W} (q0 : Nat) {a : Nat} {fs : List Value} {x : Int32} (he : ws[q0]? = some (a, .inr (0, fs))) (hl0 : 2 < fs.length) (hdg : decode cc pc = .ok (.putfield 18, 3)) (h2 : ws.set q0 (a, .inr (0, fs.set 2 (.int x))) = ws2) (k : GI p l e R s m args below meth c D H0 A nL Q nc ns ws2 (pc + 3) lv st) : GI p l e R s m args below meth c D H0 A nL Q nc ns ws pc lv (.int x :: .ref a :: st) := by
  intro H locs ls hP hD hS hl
  refine va_put (D := D) (ci := 0) (v := .int x) (ty := tyX5 2) (C := RX5) (T := TX5) (N := 12) C.1 C.2.1 C.2.2.1 iX5 tyX5 tyX5_ok nmX5 C.2.2.2.1 C.2.2.2.2.2.1 hP hD hS q0 he rfl 2 (by decide) (C.2.2.1 _ wf_X5_18) (fun _ h => h) rfl (tyX5_ok 2 (by decide)) rfl rfl hl0 hdg (fun H1 l1 hP1 hD1 hS1 => ?_)
  rw [h2] at hP1 hD1
  exact k H1 l1 ls hP1 hD1 hS1 hl
theorem ip_X5_21 (C : Cx p s m args meth c cc RX5 nL ret D) (hin2 : meth.name = "<init>") {ws2 : va_W} (q0 : Nat) {a : Nat} {fs : List Value} {x : Int32} (he : ws[q0]? = some (a, .inr (0, fs))) (hl0 : 3 < fs.length) (hdg : decode cc pc = .ok (.putfield 21, 3)) (h2 : ws.set q0 (a, .inr (0, fs.set 3 (.int x))) = ws2) (k : GI p l e R s m args below meth c D H0 A nL Q nc ns ws2 (pc + 3) lv st) : GI p l e R s m args below meth c D H0 A nL Q nc ns ws pc lv (.int x :: .ref a :: st) := by
  intro H locs ls hP hD hS hl
  refine va_put (D := D) (ci := 0) (v := .int x) (ty := tyX5 3) (C := RX5) (T := TX5) (N := 12) C.1 C.2.1 C.2.2.1 iX5 tyX5 tyX5_ok nmX5 C.2.2.2.1 C.2.2.2.2.2.1 hP hD hS q0 he rfl 3 (by decide) (C.2.2.1 _ wf_X5_21) (fun _ h => h) rfl (tyX5_ok 3 (by decide)) rfl rfl hl0 hdg (fun H1 l1 hP1 hD1 hS1 => ?_)
  rw [h2] at hP1 hD1
  exact k H1 l1 ls hP1 hD1 hS1 hl
theorem ip_X5_24 (C : Cx p s m args meth c cc RX5 nL ret D) (hin2 : meth.name = "<init>") {ws2 : va_W} (q0 : Nat) {a : Nat} {fs : List Value} {x : Int32} (he : ws[q0]? = some (a, .inr (0, fs))) (hl0 : 4 < fs.length) (hdg : decode cc pc = .ok (.putfield 24, 3)) (h2 : ws.set q0 (a, .inr (0, fs.set 4 (.int x))) = ws2) (k : GI p l e R s m args below meth c D H0 A nL Q nc ns ws2 (pc + 3) lv st) : GI p l e R s m args below meth c D H0 A nL Q nc ns ws pc lv (.int x :: .ref a :: st) := by
  intro H locs ls hP hD hS hl
  refine va_put (D := D) (ci := 0) (v := .int x) (ty := tyX5 4) (C := RX5) (T := TX5) (N := 12) C.1 C.2.1 C.2.2.1 iX5 tyX5 tyX5_ok nmX5 C.2.2.2.1 C.2.2.2.2.2.1 hP hD hS q0 he rfl 4 (by decide) (C.2.2.1 _ wf_X5_24) (fun _ h => h) rfl (tyX5_ok 4 (by decide)) rfl rfl hl0 hdg (fun H1 l1 hP1 hD1 hS1 => ?_)
  rw [h2] at hP1 hD1
  exact k H1 l1 ls hP1 hD1 hS1 hl
theorem ip_X5_27 (C : Cx p s m args meth c cc RX5 nL ret D) (hin2 : meth.name = "<init>") {ws2 : va_W} (q0 : Nat) {a : Nat} {fs : List Value} {x : Int32} (he : ws[q0]? = some (a, .inr (0, fs))) (hl0 : 5 < fs.length) (hdg : decode cc pc = .ok (.putfield 27, 3)) (h2 : ws.set q0 (a, .inr (0, fs.set 5 (.int x))) = ws2) (k : GI p l e R s m args below meth c D H0 A nL Q nc ns ws2 (pc + 3) lv st) : GI p l e R s m args below meth c D H0 A nL Q nc ns ws pc lv (.int x :: .ref a :: st) := by
  intro H locs ls hP hD hS hl
  refine va_put (D := D) (ci := 0) (v := .int x) (ty := tyX5 5) (C := RX5) (T := TX5) (N := 12) C.1 C.2.1 C.2.2.1 iX5 tyX5 tyX5_ok nmX5 C.2.2.2.1 C.2.2.2.2.2.1 hP hD hS q0 he rfl 5 (by decide) (C.2.2.1 _ wf_X5_27) (fun _ h => h) rfl (tyX5_ok 5 (by decide)) rfl rfl hl0 hdg (fun H1 l1 hP1 hD1 hS1 => ?_)
  rw [h2] at hP1 hD1
  exact k H1 l1 ls hP1 hD1 hS1 hl
theorem ip_X5_30 (C : Cx p s m args meth c cc RX5 nL ret D) (hin2 : meth.name = "<init>") {ws2 : va_W} (q0 : Nat) {a : Nat} {fs : List Value} {x : Nat} (he : ws[q0]? = some (a, .inr (0, fs))) (hl0 : 6 < fs.length) (hdg : decode cc pc = .ok (.putfield 30, 3)) (h2 : ws.set q0 (a, .inr (0, fs.set 6 (.ref x))) = ws2) (k : GI p l e R s m args below meth c D H0 A nL Q nc ns ws2 (pc + 3) lv st) : GI p l e R s m args below meth c D H0 A nL Q nc ns ws pc lv (.ref x :: .ref a :: st) := by
  intro H locs ls hP hD hS hl
  refine va_putF (D := D) (ci := 0) (v := .ref x) (ty := tyX5 6) (C := RX5) (T := TX5) (N := 12) C.1 C.2.1 C.2.2.1 iX5 tyX5 tyX5_ok nmX5 C.2.2.2.1 C.2.2.2.2.2.1 hP hD hS q0 he rfl 6 (by decide) (C.2.2.1 _ wf_X5_30) (fun _ h => h) rfl hin2 rfl (tyX5_ok 6 (by decide)) rfl rfl hl0 hdg (fun H1 l1 hP1 hD1 hS1 => ?_)
  rw [h2] at hP1 hD1
  exact k H1 l1 ls hP1 hD1 hS1 hl
theorem ip_X5_34 (C : Cx p s m args meth c cc RX5 nL ret D) (hin2 : meth.name = "<init>") {ws2 : va_W} (q0 : Nat) {a : Nat} {fs : List Value} {x : Nat} (he : ws[q0]? = some (a, .inr (0, fs))) (hl0 : 7 < fs.length) (hdg : decode cc pc = .ok (.putfield 34, 3)) (h2 : ws.set q0 (a, .inr (0, fs.set 7 (.ref x))) = ws2) (k : GI p l e R s m args below meth c D H0 A nL Q nc ns ws2 (pc + 3) lv st) : GI p l e R s m args below meth c D H0 A nL Q nc ns ws pc lv (.ref x :: .ref a :: st) := by
  intro H locs ls hP hD hS hl
  refine va_putF (D := D) (ci := 0) (v := .ref x) (ty := tyX5 7) (C := RX5) (T := TX5) (N := 12) C.1 C.2.1 C.2.2.1 iX5 tyX5 tyX5_ok nmX5 C.2.2.2.1 C.2.2.2.2.2.1 hP hD hS q0 he rfl 7 (by decide) (C.2.2.1 _ wf_X5_34) (fun _ h => h) rfl hin2 rfl (tyX5_ok 7 (by decide)) rfl rfl hl0 hdg (fun H1 l1 hP1 hD1 hS1 => ?_)
  rw [h2] at hP1 hD1
  exact k H1 l1 ls hP1 hD1 hS1 hl
theorem ip_X5_37 (C : Cx p s m args meth c cc RX5 nL ret D) (hin2 : meth.name = "<init>") {ws2 : va_W} (q0 : Nat) {a : Nat} {fs : List Value} {x : Nat} (he : ws[q0]? = some (a, .inr (0, fs))) (hl0 : 8 < fs.length) (hdg : decode cc pc = .ok (.putfield 37, 3)) (h2 : ws.set q0 (a, .inr (0, fs.set 8 (.ref x))) = ws2) (k : GI p l e R s m args below meth c D H0 A nL Q nc ns ws2 (pc + 3) lv st) : GI p l e R s m args below meth c D H0 A nL Q nc ns ws pc lv (.ref x :: .ref a :: st) := by
  intro H locs ls hP hD hS hl
  refine va_putF (D := D) (ci := 0) (v := .ref x) (ty := tyX5 8) (C := RX5) (T := TX5) (N := 12) C.1 C.2.1 C.2.2.1 iX5 tyX5 tyX5_ok nmX5 C.2.2.2.1 C.2.2.2.2.2.1 hP hD hS q0 he rfl 8 (by decide) (C.2.2.1 _ wf_X5_37) (fun _ h => h) rfl hin2 rfl (tyX5_ok 8 (by decide)) rfl rfl hl0 hdg (fun H1 l1 hP1 hD1 hS1 => ?_)
  rw [h2] at hP1 hD1
  exact k H1 l1 ls hP1 hD1 hS1 hl
theorem ip_X5_40 (C : Cx p s m args meth c cc RX5 nL ret D) (hin2 : meth.name = "<init>") {ws2 : va_W} (q0 : Nat) {a : Nat} {fs : List Value} {x : Nat} (he : ws[q0]? = some (a, .inr (0, fs))) (hl0 : 9 < fs.length) (hdg : decode cc pc = .ok (.putfield 40, 3)) (h2 : ws.set q0 (a, .inr (0, fs.set 9 (.ref x))) = ws2) (k : GI p l e R s m args below meth c D H0 A nL Q nc ns ws2 (pc + 3) lv st) : GI p l e R s m args below meth c D H0 A nL Q nc ns ws pc lv (.ref x :: .ref a :: st) := by
  intro H locs ls hP hD hS hl
  refine va_putF (D := D) (ci := 0) (v := .ref x) (ty := tyX5 9) (C := RX5) (T := TX5) (N := 12) C.1 C.2.1 C.2.2.1 iX5 tyX5 tyX5_ok nmX5 C.2.2.2.1 C.2.2.2.2.2.1 hP hD hS q0 he rfl 9 (by decide) (C.2.2.1 _ wf_X5_40) (fun _ h => h) rfl hin2 rfl (tyX5_ok 9 (by decide)) rfl rfl hl0 hdg (fun H1 l1 hP1 hD1 hS1 => ?_)
  rw [h2] at hP1 hD1
  exact k H1 l1 ls hP1 hD1 hS1 hl
theorem ip_X5_43 (C : Cx p s m args meth c cc RX5 nL ret D) (hin2 : meth.name = "<init>") {ws2 : va_W} (q0 : Nat) {a : Nat} {fs : List Value} {x : Nat} (he : ws[q0]? = some (a, .inr (0, fs))) (hl0 : 10 < fs.length) (hdg : decode cc pc = .ok (.putfield 43, 3)) (h2 : ws.set q0 (a, .inr (0, fs.set 10 (.ref x))) = ws2) (k : GI p l e R s m args below meth c D H0 A nL Q nc ns ws2 (pc + 3) lv st) : GI p l e R s m args below meth c D H0 A nL Q nc ns ws pc lv (.ref x :: .ref a :: st) := by
  intro H locs ls hP hD hS hl
  refine va_putF (D := D) (ci := 0) (v := .ref x) (ty := tyX5 10) (C := RX5) (T := TX5) (N := 12) C.1 C.2.1 C.2.2.1 iX5 tyX5 tyX5_ok nmX5 C.2.2.2.1 C.2.2.2.2.2.1 hP hD hS q0 he rfl 10 (by decide) (C.2.2.1 _ wf_X5_43) (fun _ h => h) rfl hin2 rfl (tyX5_ok 10 (by decide)) rfl rfl hl0 hdg (fun H1 l1 hP1 hD1 hS1 => ?_)
  rw [h2] at hP1 hD1
  exact k H1 l1 ls hP1 hD1 hS1 hl
theorem ip_X5_46 (C : Cx p s m args meth c cc RX5 nL ret D) (hin2 : meth.name = "<init>") {ws2 : va_W} (q0 : Nat) {a : Nat} {fs : List Value} {x : Nat} (he : ws[q0]? = some (a, .inr (0, fs))) (hl0 : 11 < fs.length) (hdg : decode cc pc = .ok (.putfield 46, 3)) (h2 : ws.set q0 (a, .inr (0, fs.set 11 (.ref x))) = ws2) (k : GI p l e R s m args below meth c D H0 A nL Q nc ns ws2 (pc + 3) lv st) : GI p l e R s m args below meth c D H0 A nL Q nc ns ws pc lv (.ref x :: .ref a :: st) := by
  intro H locs ls hP hD hS hl
  refine va_putF (D := D) (ci := 0) (v := .ref x) (ty := tyX5 11) (C := RX5) (T := TX5) (N := 12) C.1 C.2.1 C.2.2.1 iX5 tyX5 tyX5_ok nmX5 C.2.2.2.1 C.2.2.2.2.2.1 hP hD hS q0 he rfl 11 (by decide) (C.2.2.1 _ wf_X5_46) (fun _ h => h) rfl hin2 rfl (tyX5_ok 11 (by decide)) rfl rfl hl0 hdg (fun H1 l1 hP1 hD1 hS1 => ?_)
  rw [h2] at hP1 hD1
  exact k H1 l1 ls hP1 hD1 hS1 hl
theorem ip_X6_10 (C : Cx p s m args meth c cc RX6 nL ret D) (hin2 : meth.name = "<init>") {ws2 : va_W} (q0 : Nat) {a : Nat} {fs : List Value} {x : Nat} (he : ws[q0]? = some (a, .inr (3, fs))) (hl0 : 0 < fs.length) (hdg : decode cc pc = .ok (.putfield 10, 3)) (h2 : ws.set q0 (a, .inr (3, fs.set 0 (.ref x))) = ws2) (k : GI p l e R s m args below meth c D H0 A nL Q nc ns ws2 (pc + 3) lv st) : GI p l e R s m args below meth c D H0 A nL Q nc ns ws pc lv (.ref x :: .ref a :: st) := by
  intro H locs ls hP hD hS hl
  refine va_putF (D := D) (ci := 3) (v := .ref x) (ty := tyX6 0) (C := RX6) (T := TX6) (N := 9) C.1 C.2.1 C.2.2.1 iX6 tyX6 tyX6_ok nmX6 C.2.2.2.1 C.2.2.2.2.2.1 hP hD hS q0 he rfl 0 (by decide) (C.2.2.1 _ wf_X6_10) (fun _ h => h) rfl hin2 rfl (tyX6_ok 0 (by decide)) rfl rfl hl0 hdg (fun H1 l1 hP1 hD1 hS1 => ?_)
  rw [h2] at hP1 hD1
  exact k H1 l1 ls hP1 hD1 hS1 hl
theorem ip_X6_16 (C : Cx p s m args meth c cc RX6 nL ret D) (hin2 : meth.name = "<init>") {ws2 : va_W} (q0 : Nat) {a : Nat} {fs : List Value} {x : Nat} (he : ws[q0]? = some (a, .inr (3, fs))) (hl0 : 1 < fs.length) (hdg : decode cc pc = .ok (.putfield 16, 3)) (h2 : ws.set q0 (a, .inr (3, fs.set 1 (.ref x))) = ws2) (k : GI p l e R s m args below meth c D H0 A nL Q nc ns ws2 (pc + 3) lv st) : GI p l e R s m args below meth c D H0 A nL Q nc ns ws pc lv (.ref x :: .ref a :: st) := by
  intro H locs ls hP hD hS hl
  refine va_putF (D := D) (ci := 3) (v := .ref x) (ty := tyX6 1) (C := RX6) (T := TX6) (N := 9) C.1 C.2.1 C.2.2.1 iX6 tyX6 tyX6_ok nmX6 C.2.2.2.1 C.2.2.2.2.2.1 hP hD hS q0 he rfl 1 (by decide) (C.2.2.1 _ wf_X6_16) (fun _ h => h) rfl hin2 rfl (tyX6_ok 1 (by decide)) rfl rfl hl0 hdg (fun H1 l1 hP1 hD1 hS1 => ?_)
  rw [h2] at hP1 hD1
  exact k H1 l1 ls hP1 hD1 hS1 hl
theorem ip_X6_19 (C : Cx p s m args meth c cc RX6 nL ret D) (hin2 : meth.name = "<init>") {ws2 : va_W} (q0 : Nat) {a : Nat} {fs : List Value} {x : Nat} (he : ws[q0]? = some (a, .inr (3, fs))) (hl0 : 2 < fs.length) (hdg : decode cc pc = .ok (.putfield 19, 3)) (h2 : ws.set q0 (a, .inr (3, fs.set 2 (.ref x))) = ws2) (k : GI p l e R s m args below meth c D H0 A nL Q nc ns ws2 (pc + 3) lv st) : GI p l e R s m args below meth c D H0 A nL Q nc ns ws pc lv (.ref x :: .ref a :: st) := by
  intro H locs ls hP hD hS hl
  refine va_putF (D := D) (ci := 3) (v := .ref x) (ty := tyX6 2) (C := RX6) (T := TX6) (N := 9) C.1 C.2.1 C.2.2.1 iX6 tyX6 tyX6_ok nmX6 C.2.2.2.1 C.2.2.2.2.2.1 hP hD hS q0 he rfl 2 (by decide) (C.2.2.1 _ wf_X6_19) (fun _ h => h) rfl hin2 rfl (tyX6_ok 2 (by decide)) rfl rfl hl0 hdg (fun H1 l1 hP1 hD1 hS1 => ?_)
  rw [h2] at hP1 hD1
  exact k H1 l1 ls hP1 hD1 hS1 hl
theorem ip_X6_25 (C : Cx p s m args meth c cc RX6 nL ret D) (hin2 : meth.name = "<init>") {ws2 : va_W} (q0 : Nat) {a : Nat} {fs : List Value} {x : Nat} (he : ws[q0]? = some (a, .inr (3, fs))) (hl0 : 3 < fs.length) (hdg : decode cc pc = .ok (.putfield 25, 3)) (h2 : ws.set q0 (a, .inr (3, fs.set 3 (.ref x))) = ws2) (k : GI p l e R s m args below meth c D H0 A nL Q nc ns ws2 (pc + 3) lv st) : GI p l e R s m args below meth c D H0 A nL Q nc ns ws pc lv (.ref x :: .ref a :: st) := by
  intro H locs ls hP hD hS hl
  refine va_putF (D := D) (ci := 3) (v := .ref x) (ty := tyX6 3) (C := RX6) (T := TX6) (N := 9) C.1 C.2.1 C.2.2.1 iX6 tyX6 tyX6_ok nmX6 C.2.2.2.1 C.2.2.2.2.2.1 hP hD hS q0 he rfl 3 (by decide) (C.2.2.1 _ wf_X6_25) (fun _ h => h) rfl hin2 rfl (tyX6_ok 3 (by decide)) rfl rfl hl0 hdg (fun H1 l1 hP1 hD1 hS1 => ?_)
  rw [h2] at hP1 hD1
  exact k H1 l1 ls hP1 hD1 hS1 hl
theorem ip_X6_32 (C : Cx p s m args meth c cc RX6 nL ret D) (hin2 : meth.name = "<init>") {ws2 : va_W} (q0 : Nat) {a : Nat} {fs : List Value} {x : Nat} (he : ws[q0]? = some (a, .inr (3, fs))) (hl0 : 4 < fs.length) (hdg : decode cc pc = .ok (.putfield 32, 3)) (h2 : ws.set q0 (a, .inr (3, fs.set 4 (.ref x))) = ws2) (k : GI p l e R s m args below meth c D H0 A nL Q nc ns ws2 (pc + 3) lv st) : GI p l e R s m args below meth c D H0 A nL Q nc ns ws pc lv (.ref x :: .ref a :: st) := by
  intro H locs ls hP hD hS hl
  refine va_putF (D := D) (ci := 3) (v := .ref x) (ty := tyX6 4) (C := RX6) (T := TX6) (N := 9) C.1 C.2.1 C.2.2.1 iX6 tyX6 tyX6_ok nmX6 C.2.2.2.1 C.2.2.2.2.2.1 hP hD hS q0 he rfl 4 (by decide) (C.2.2.1 _ wf_X6_32) (fun _ h => h) rfl hin2 rfl (tyX6_ok 4 (by decide)) rfl rfl hl0 hdg (fun H1 l1 hP1 hD1 hS1 => ?_)
  rw [h2] at hP1 hD1
  exact k H1 l1 ls hP1 hD1 hS1 hl
theorem ip_X6_36 (C : Cx p s m args meth c cc RX6 nL ret D) (hin2 : meth.name = "<init>") {ws2 : va_W} (q0 : Nat) {a : Nat} {fs : List Value} {x : Nat} (he : ws[q0]? = some (a, .inr (3, fs))) (hl0 : 5 < fs.length) (hdg : decode cc pc = .ok (.putfield 36, 3)) (h2 : ws.set q0 (a, .inr (3, fs.set 5 (.ref x))) = ws2) (k : GI p l e R s m args below meth c D H0 A nL Q nc ns ws2 (pc + 3) lv st) : GI p l e R s m args below meth c D H0 A nL Q nc ns ws pc lv (.ref x :: .ref a :: st) := by
  intro H locs ls hP hD hS hl
  refine va_putF (D := D) (ci := 3) (v := .ref x) (ty := tyX6 5) (C := RX6) (T := TX6) (N := 9) C.1 C.2.1 C.2.2.1 iX6 tyX6 tyX6_ok nmX6 C.2.2.2.1 C.2.2.2.2.2.1 hP hD hS q0 he rfl 5 (by decide) (C.2.2.1 _ wf_X6_36) (fun _ h => h) rfl hin2 rfl (tyX6_ok 5 (by decide)) rfl rfl hl0 hdg (fun H1 l1 hP1 hD1 hS1 => ?_)
  rw [h2] at hP1 hD1
  exact k H1 l1 ls hP1 hD1 hS1 hl
theorem ip_X6_40 (C : Cx p s m args meth c cc RX6 nL ret D) (hin2 : meth.name = "<init>") {ws2 : va_W} (q0 : Nat) {a : Nat} {fs : List Value} {x : Nat} (he : ws[q0]? = some (a, .inr (3, fs))) (hl0 : 6 < fs.length) (hdg : decode cc pc = .ok (.putfield 40, 3)) (h2 : ws.set q0 (a, .inr (3, fs.set 6 (.ref x))) = ws2) (k : GI p l e R s m args below meth c D H0 A nL Q nc ns ws2 (pc + 3) lv st) : GI p l e R s m args below meth c D H0 A nL Q nc ns ws pc lv (.ref x :: .ref a :: st) := by
  intro H locs ls hP hD hS hl
  refine va_putF (D := D) (ci := 3) (v := .ref x) (ty := tyX6 6) (C := RX6) (T := TX6) (N := 9) C.1 C.2.1 C.2.2.1 iX6 tyX6 tyX6_ok nmX6 C.2.2.2.1 C.2.2.2.2.2.1 hP hD hS q0 he rfl 6 (by decide) (C.2.2.1 _ wf_X6_40) (fun _ h => h) rfl hin2 rfl (tyX6_ok 6 (by decide)) rfl rfl hl0 hdg (fun H1 l1 hP1 hD1 hS1 => ?_)
  rw [h2] at hP1 hD1
  exact k H1 l1 ls hP1 hD1 hS1 hl
theorem ip_X6_43 (C : Cx p s m args meth c cc RX6 nL ret D) (hin2 : meth.name = "<init>") {ws2 : va_W} (q0 : Nat) {a : Nat} {fs : List Value} {x : Nat} (he : ws[q0]? = some (a, .inr (3, fs))) (hl0 : 7 < fs.length) (hdg : decode cc pc = .ok (.putfield 43, 3)) (h2 : ws.set q0 (a, .inr (3, fs.set 7 (.ref x))) = ws2) (k : GI p l e R s m args below meth c D H0 A nL Q nc ns ws2 (pc + 3) lv st) : GI p l e R s m args below meth c D H0 A nL Q nc ns ws pc lv (.ref x :: .ref a :: st) := by
  intro H locs ls hP hD hS hl
  refine va_putF (D := D) (ci := 3) (v := .ref x) (ty := tyX6 7) (C := RX6) (T := TX6) (N := 9) C.1 C.2.1 C.2.2.1 iX6 tyX6 tyX6_ok nmX6 C.2.2.2.1 C.2.2.2.2.2.1 hP hD hS q0 he rfl 7 (by decide) (C.2.2.1 _ wf_X6_43) (fun _ h => h) rfl hin2 rfl (tyX6_ok 7 (by decide)) rfl rfl hl0 hdg (fun H1 l1 hP1 hD1 hS1 => ?_)
  rw [h2] at hP1 hD1
  exact k H1 l1 ls hP1 hD1 hS1 hl
theorem ip_X6_46 (C : Cx p s m args meth c cc RX6 nL ret D) (hin2 : meth.name = "<init>") {ws2 : va_W} (q0 : Nat) {a : Nat} {fs : List Value} {x : Int32} (he : ws[q0]? = some (a, .inr (3, fs))) (hl0 : 8 < fs.length) (hz : narrow .boolean (.int x) = .int x) (hf : fits .boolean (.int x) = true) (hdg : decode cc pc = .ok (.putfield 46, 3)) (h2 : ws.set q0 (a, .inr (3, fs.set 8 (.int x))) = ws2) (k : GI p l e R s m args below meth c D H0 A nL Q nc ns ws2 (pc + 3) lv st) : GI p l e R s m args below meth c D H0 A nL Q nc ns ws pc lv (.int x :: .ref a :: st) := by
  intro H locs ls hP hD hS hl
  refine va_put (D := D) (ci := 3) (v := .int x) (ty := tyX6 8) (C := RX6) (T := TX6) (N := 9) C.1 C.2.1 C.2.2.1 iX6 tyX6 tyX6_ok nmX6 C.2.2.2.1 C.2.2.2.2.2.1 hP hD hS q0 he rfl 8 (by decide) (C.2.2.1 _ wf_X6_46) (fun _ h => h) rfl (tyX6_ok 8 (by decide)) hz hf hl0 hdg (fun H1 l1 hP1 hD1 hS1 => ?_)
  rw [h2] at hP1 hD1
  exact k H1 l1 ls hP1 hD1 hS1 hl
theorem ip_X7_7 (C : Cx p s m args meth c cc RX7 nL ret D) (hin2 : meth.name = "<init>") {ws2 : va_W} (q0 : Nat) {a : Nat} {fs : List Value} {x : Nat} (he : ws[q0]? = some (a, .inr (4, fs))) (hl0 : 2 < fs.length) (hdg : decode cc pc = .ok (.putfield 7, 3)) (h2 : ws.set q0 (a, .inr (4, fs.set 2 (.ref x))) = ws2) (k : GI p l e R s m args below meth c D H0 A nL Q nc ns ws2 (pc + 3) lv st) : GI p l e R s m args below meth c D H0 A nL Q nc ns ws pc lv (.ref x :: .ref a :: st) := by
  intro H locs ls hP hD hS hl
  refine va_putF (D := D) (ci := 4) (v := .ref x) (ty := tyX7 2) (C := RX7) (T := TX7) (N := 37) C.1 C.2.1 C.2.2.1 iX7 tyX7 tyX7_ok nmX7 C.2.2.2.1 C.2.2.2.2.2.1 hP hD hS q0 he rfl 2 (by decide) (C.2.2.1 _ wf_X7_7) (fun _ h => h) rfl hin2 rfl (tyX7_ok 2 (by decide)) rfl rfl hl0 hdg (fun H1 l1 hP1 hD1 hS1 => ?_)
  rw [h2] at hP1 hD1
  exact k H1 l1 ls hP1 hD1 hS1 hl
theorem ip_X7_13 (C : Cx p s m args meth c cc RX7 nL ret D) (hin2 : meth.name = "<init>") {ws2 : va_W} (q0 : Nat) {a : Nat} {fs : List Value} {x : Nat} (he : ws[q0]? = some (a, .inr (4, fs))) (hl0 : 3 < fs.length) (hdg : decode cc pc = .ok (.putfield 13, 3)) (h2 : ws.set q0 (a, .inr (4, fs.set 3 (.ref x))) = ws2) (k : GI p l e R s m args below meth c D H0 A nL Q nc ns ws2 (pc + 3) lv st) : GI p l e R s m args below meth c D H0 A nL Q nc ns ws pc lv (.ref x :: .ref a :: st) := by
  intro H locs ls hP hD hS hl
  refine va_putF (D := D) (ci := 4) (v := .ref x) (ty := tyX7 3) (C := RX7) (T := TX7) (N := 37) C.1 C.2.1 C.2.2.1 iX7 tyX7 tyX7_ok nmX7 C.2.2.2.1 C.2.2.2.2.2.1 hP hD hS q0 he rfl 3 (by decide) (C.2.2.1 _ wf_X7_13) (fun _ h => h) rfl hin2 rfl (tyX7_ok 3 (by decide)) rfl rfl hl0 hdg (fun H1 l1 hP1 hD1 hS1 => ?_)
  rw [h2] at hP1 hD1
  exact k H1 l1 ls hP1 hD1 hS1 hl
theorem ip_X7_16 (C : Cx p s m args meth c cc RX7 nL ret D) (hin2 : meth.name = "<init>") {ws2 : va_W} (q0 : Nat) {a : Nat} {fs : List Value} {x : Nat} (he : ws[q0]? = some (a, .inr (4, fs))) (hl0 : 4 < fs.length) (hdg : decode cc pc = .ok (.putfield 16, 3)) (h2 : ws.set q0 (a, .inr (4, fs.set 4 (.ref x))) = ws2) (k : GI p l e R s m args below meth c D H0 A nL Q nc ns ws2 (pc + 3) lv st) : GI p l e R s m args below meth c D H0 A nL Q nc ns ws pc lv (.ref x :: .ref a :: st) := by
  intro H locs ls hP hD hS hl
  refine va_putF (D := D) (ci := 4) (v := .ref x) (ty := tyX7 4) (C := RX7) (T := TX7) (N := 37) C.1 C.2.1 C.2.2.1 iX7 tyX7 tyX7_ok nmX7 C.2.2.2.1 C.2.2.2.2.2.1 hP hD hS q0 he rfl 4 (by decide) (C.2.2.1 _ wf_X7_16) (fun _ h => h) rfl hin2 rfl (tyX7_ok 4 (by decide)) rfl rfl hl0 hdg (fun H1 l1 hP1 hD1 hS1 => ?_)
  rw [h2] at hP1 hD1
  exact k H1 l1 ls hP1 hD1 hS1 hl
theorem ip_X7_19 (C : Cx p s m args meth c cc RX7 nL ret D) (hin2 : meth.name = "<init>") {ws2 : va_W} (q0 : Nat) {a : Nat} {fs : List Value} {x : Nat} (he : ws[q0]? = some (a, .inr (4, fs))) (hl0 : 5 < fs.length) (hdg : decode cc pc = .ok (.putfield 19, 3)) (h2 : ws.set q0 (a, .inr (4, fs.set 5 (.ref x))) = ws2) (k : GI p l e R s m args below meth c D H0 A nL Q nc ns ws2 (pc + 3) lv st) : GI p l e R s m args below meth c D H0 A nL Q nc ns ws pc lv (.ref x :: .ref a :: st) := by
  intro H locs ls hP hD hS hl
  refine va_putF (D := D) (ci := 4) (v := .ref x) (ty := tyX7 5) (C := RX7) (T := TX7) (N := 37) C.1 C.2.1 C.2.2.1 iX7 tyX7 tyX7_ok nmX7 C.2.2.2.1 C.2.2.2.2.2.1 hP hD hS q0 he rfl 5 (by decide) (C.2.2.1 _ wf_X7_19) (fun _ h => h) rfl hin2 rfl (tyX7_ok 5 (by decide)) rfl rfl hl0 hdg (fun H1 l1 hP1 hD1 hS1 => ?_)
  rw [h2] at hP1 hD1
  exact k H1 l1 ls hP1 hD1 hS1 hl
theorem ip_X7_22 (C : Cx p s m args meth c cc RX7 nL ret D) (hin2 : meth.name = "<init>") {ws2 : va_W} (q0 : Nat) {a : Nat} {fs : List Value} {x : Nat} (he : ws[q0]? = some (a, .inr (4, fs))) (hl0 : 6 < fs.length) (hdg : decode cc pc = .ok (.putfield 22, 3)) (h2 : ws.set q0 (a, .inr (4, fs.set 6 (.ref x))) = ws2) (k : GI p l e R s m args below meth c D H0 A nL Q nc ns ws2 (pc + 3) lv st) : GI p l e R s m args below meth c D H0 A nL Q nc ns ws pc lv (.ref x :: .ref a :: st) := by
  intro H locs ls hP hD hS hl
  refine va_putF (D := D) (ci := 4) (v := .ref x) (ty := tyX7 6) (C := RX7) (T := TX7) (N := 37) C.1 C.2.1 C.2.2.1 iX7 tyX7 tyX7_ok nmX7 C.2.2.2.1 C.2.2.2.2.2.1 hP hD hS q0 he rfl 6 (by decide) (C.2.2.1 _ wf_X7_22) (fun _ h => h) rfl hin2 rfl (tyX7_ok 6 (by decide)) rfl rfl hl0 hdg (fun H1 l1 hP1 hD1 hS1 => ?_)
  rw [h2] at hP1 hD1
  exact k H1 l1 ls hP1 hD1 hS1 hl
theorem ip_X7_25 (C : Cx p s m args meth c cc RX7 nL ret D) (hin2 : meth.name = "<init>") {ws2 : va_W} (q0 : Nat) {a : Nat} {fs : List Value} {x : Nat} (he : ws[q0]? = some (a, .inr (4, fs))) (hl0 : 7 < fs.length) (hdg : decode cc pc = .ok (.putfield 25, 3)) (h2 : ws.set q0 (a, .inr (4, fs.set 7 (.ref x))) = ws2) (k : GI p l e R s m args below meth c D H0 A nL Q nc ns ws2 (pc + 3) lv st) : GI p l e R s m args below meth c D H0 A nL Q nc ns ws pc lv (.ref x :: .ref a :: st) := by
  intro H locs ls hP hD hS hl
  refine va_putF (D := D) (ci := 4) (v := .ref x) (ty := tyX7 7) (C := RX7) (T := TX7) (N := 37) C.1 C.2.1 C.2.2.1 iX7 tyX7 tyX7_ok nmX7 C.2.2.2.1 C.2.2.2.2.2.1 hP hD hS q0 he rfl 7 (by decide) (C.2.2.1 _ wf_X7_25) (fun _ h => h) rfl hin2 rfl (tyX7_ok 7 (by decide)) rfl rfl hl0 hdg (fun H1 l1 hP1 hD1 hS1 => ?_)
  rw [h2] at hP1 hD1
  exact k H1 l1 ls hP1 hD1 hS1 hl
theorem ip_X7_28 (C : Cx p s m args meth c cc RX7 nL ret D) (hin2 : meth.name = "<init>") {ws2 : va_W} (q0 : Nat) {a : Nat} {fs : List Value} {x : Nat} (he : ws[q0]? = some (a, .inr (4, fs))) (hl0 : 12 < fs.length) (hdg : decode cc pc = .ok (.putfield 28, 3)) (h2 : ws.set q0 (a, .inr (4, fs.set 12 (.ref x))) = ws2) (k : GI p l e R s m args below meth c D H0 A nL Q nc ns ws2 (pc + 3) lv st) : GI p l e R s m args below meth c D H0 A nL Q nc ns ws pc lv (.ref x :: .ref a :: st) := by
  intro H locs ls hP hD hS hl
  refine va_putF (D := D) (ci := 4) (v := .ref x) (ty := tyX7 12) (C := RX7) (T := TX7) (N := 37) C.1 C.2.1 C.2.2.1 iX7 tyX7 tyX7_ok nmX7 C.2.2.2.1 C.2.2.2.2.2.1 hP hD hS q0 he rfl 12 (by decide) (C.2.2.1 _ wf_X7_28) (fun _ h => h) rfl hin2 rfl (tyX7_ok 12 (by decide)) rfl rfl hl0 hdg (fun H1 l1 hP1 hD1 hS1 => ?_)
  rw [h2] at hP1 hD1
  exact k H1 l1 ls hP1 hD1 hS1 hl
theorem ip_X7_31 (C : Cx p s m args meth c cc RX7 nL ret D) (hin2 : meth.name = "<init>") {ws2 : va_W} (q0 : Nat) {a : Nat} {fs : List Value} {x : Nat} (he : ws[q0]? = some (a, .inr (4, fs))) (hl0 : 17 < fs.length) (hdg : decode cc pc = .ok (.putfield 31, 3)) (h2 : ws.set q0 (a, .inr (4, fs.set 17 (.ref x))) = ws2) (k : GI p l e R s m args below meth c D H0 A nL Q nc ns ws2 (pc + 3) lv st) : GI p l e R s m args below meth c D H0 A nL Q nc ns ws pc lv (.ref x :: .ref a :: st) := by
  intro H locs ls hP hD hS hl
  refine va_putF (D := D) (ci := 4) (v := .ref x) (ty := tyX7 17) (C := RX7) (T := TX7) (N := 37) C.1 C.2.1 C.2.2.1 iX7 tyX7 tyX7_ok nmX7 C.2.2.2.1 C.2.2.2.2.2.1 hP hD hS q0 he rfl 17 (by decide) (C.2.2.1 _ wf_X7_31) (fun _ h => h) rfl hin2 rfl (tyX7_ok 17 (by decide)) rfl rfl hl0 hdg (fun H1 l1 hP1 hD1 hS1 => ?_)
  rw [h2] at hP1 hD1
  exact k H1 l1 ls hP1 hD1 hS1 hl
theorem ip_X7_34 (C : Cx p s m args meth c cc RX7 nL ret D) (hin2 : meth.name = "<init>") {ws2 : va_W} (q0 : Nat) {a : Nat} {fs : List Value} {x : Nat} (he : ws[q0]? = some (a, .inr (4, fs))) (hl0 : 18 < fs.length) (hdg : decode cc pc = .ok (.putfield 34, 3)) (h2 : ws.set q0 (a, .inr (4, fs.set 18 (.ref x))) = ws2) (k : GI p l e R s m args below meth c D H0 A nL Q nc ns ws2 (pc + 3) lv st) : GI p l e R s m args below meth c D H0 A nL Q nc ns ws pc lv (.ref x :: .ref a :: st) := by
  intro H locs ls hP hD hS hl
  refine va_putF (D := D) (ci := 4) (v := .ref x) (ty := tyX7 18) (C := RX7) (T := TX7) (N := 37) C.1 C.2.1 C.2.2.1 iX7 tyX7 tyX7_ok nmX7 C.2.2.2.1 C.2.2.2.2.2.1 hP hD hS q0 he rfl 18 (by decide) (C.2.2.1 _ wf_X7_34) (fun _ h => h) rfl hin2 rfl (tyX7_ok 18 (by decide)) rfl rfl hl0 hdg (fun H1 l1 hP1 hD1 hS1 => ?_)
  rw [h2] at hP1 hD1
  exact k H1 l1 ls hP1 hD1 hS1 hl
theorem ip_X7_37 (C : Cx p s m args meth c cc RX7 nL ret D) (hin2 : meth.name = "<init>") {ws2 : va_W} (q0 : Nat) {a : Nat} {fs : List Value} {x : Nat} (he : ws[q0]? = some (a, .inr (4, fs))) (hl0 : 19 < fs.length) (hdg : decode cc pc = .ok (.putfield 37, 3)) (h2 : ws.set q0 (a, .inr (4, fs.set 19 (.ref x))) = ws2) (k : GI p l e R s m args below meth c D H0 A nL Q nc ns ws2 (pc + 3) lv st) : GI p l e R s m args below meth c D H0 A nL Q nc ns ws pc lv (.ref x :: .ref a :: st) := by
  intro H locs ls hP hD hS hl
  refine va_putF (D := D) (ci := 4) (v := .ref x) (ty := tyX7 19) (C := RX7) (T := TX7) (N := 37) C.1 C.2.1 C.2.2.1 iX7 tyX7 tyX7_ok nmX7 C.2.2.2.1 C.2.2.2.2.2.1 hP hD hS q0 he rfl 19 (by decide) (C.2.2.1 _ wf_X7_37) (fun _ h => h) rfl hin2 rfl (tyX7_ok 19 (by decide)) rfl rfl hl0 hdg (fun H1 l1 hP1 hD1 hS1 => ?_)
  rw [h2] at hP1 hD1
  exact k H1 l1 ls hP1 hD1 hS1 hl
theorem ip_X7_40 (C : Cx p s m args meth c cc RX7 nL ret D) (hin2 : meth.name = "<init>") {ws2 : va_W} (q0 : Nat) {a : Nat} {fs : List Value} {x : Nat} (he : ws[q0]? = some (a, .inr (4, fs))) (hl0 : 20 < fs.length) (hdg : decode cc pc = .ok (.putfield 40, 3)) (h2 : ws.set q0 (a, .inr (4, fs.set 20 (.ref x))) = ws2) (k : GI p l e R s m args below meth c D H0 A nL Q nc ns ws2 (pc + 3) lv st) : GI p l e R s m args below meth c D H0 A nL Q nc ns ws pc lv (.ref x :: .ref a :: st) := by
  intro H locs ls hP hD hS hl
  refine va_putF (D := D) (ci := 4) (v := .ref x) (ty := tyX7 20) (C := RX7) (T := TX7) (N := 37) C.1 C.2.1 C.2.2.1 iX7 tyX7 tyX7_ok nmX7 C.2.2.2.1 C.2.2.2.2.2.1 hP hD hS q0 he rfl 20 (by decide) (C.2.2.1 _ wf_X7_40) (fun _ h => h) rfl hin2 rfl (tyX7_ok 20 (by decide)) rfl rfl hl0 hdg (fun H1 l1 hP1 hD1 hS1 => ?_)
  rw [h2] at hP1 hD1
  exact k H1 l1 ls hP1 hD1 hS1 hl
theorem ip_X7_43 (C : Cx p s m args meth c cc RX7 nL ret D) (hin2 : meth.name = "<init>") {ws2 : va_W} (q0 : Nat) {a : Nat} {fs : List Value} {x : Nat} (he : ws[q0]? = some (a, .inr (4, fs))) (hl0 : 22 < fs.length) (hdg : decode cc pc = .ok (.putfield 43, 3)) (h2 : ws.set q0 (a, .inr (4, fs.set 22 (.ref x))) = ws2) (k : GI p l e R s m args below meth c D H0 A nL Q nc ns ws2 (pc + 3) lv st) : GI p l e R s m args below meth c D H0 A nL Q nc ns ws pc lv (.ref x :: .ref a :: st) := by
  intro H locs ls hP hD hS hl
  refine va_putF (D := D) (ci := 4) (v := .ref x) (ty := tyX7 22) (C := RX7) (T := TX7) (N := 37) C.1 C.2.1 C.2.2.1 iX7 tyX7 tyX7_ok nmX7 C.2.2.2.1 C.2.2.2.2.2.1 hP hD hS q0 he rfl 22 (by decide) (C.2.2.1 _ wf_X7_43) (fun _ h => h) rfl hin2 rfl (tyX7_ok 22 (by decide)) rfl rfl hl0 hdg (fun H1 l1 hP1 hD1 hS1 => ?_)
  rw [h2] at hP1 hD1
  exact k H1 l1 ls hP1 hD1 hS1 hl
theorem ip_X7_46 (C : Cx p s m args meth c cc RX7 nL ret D) (hin2 : meth.name = "<init>") {ws2 : va_W} (q0 : Nat) {a : Nat} {fs : List Value} {x : Nat} (he : ws[q0]? = some (a, .inr (4, fs))) (hl0 : 24 < fs.length) (hdg : decode cc pc = .ok (.putfield 46, 3)) (h2 : ws.set q0 (a, .inr (4, fs.set 24 (.ref x))) = ws2) (k : GI p l e R s m args below meth c D H0 A nL Q nc ns ws2 (pc + 3) lv st) : GI p l e R s m args below meth c D H0 A nL Q nc ns ws pc lv (.ref x :: .ref a :: st) := by
  intro H locs ls hP hD hS hl
  refine va_putF (D := D) (ci := 4) (v := .ref x) (ty := tyX7 24) (C := RX7) (T := TX7) (N := 37) C.1 C.2.1 C.2.2.1 iX7 tyX7 tyX7_ok nmX7 C.2.2.2.1 C.2.2.2.2.2.1 hP hD hS q0 he rfl 24 (by decide) (C.2.2.1 _ wf_X7_46) (fun _ h => h) rfl hin2 rfl (tyX7_ok 24 (by decide)) rfl rfl hl0 hdg (fun H1 l1 hP1 hD1 hS1 => ?_)
  rw [h2] at hP1 hD1
  exact k H1 l1 ls hP1 hD1 hS1 hl
theorem ip_X7_49 (C : Cx p s m args meth c cc RX7 nL ret D) (hin2 : meth.name = "<init>") {ws2 : va_W} (q0 : Nat) {a : Nat} {fs : List Value} {x : Nat} (he : ws[q0]? = some (a, .inr (4, fs))) (hl0 : 25 < fs.length) (hdg : decode cc pc = .ok (.putfield 49, 3)) (h2 : ws.set q0 (a, .inr (4, fs.set 25 (.ref x))) = ws2) (k : GI p l e R s m args below meth c D H0 A nL Q nc ns ws2 (pc + 3) lv st) : GI p l e R s m args below meth c D H0 A nL Q nc ns ws pc lv (.ref x :: .ref a :: st) := by
  intro H locs ls hP hD hS hl
  refine va_putF (D := D) (ci := 4) (v := .ref x) (ty := tyX7 25) (C := RX7) (T := TX7) (N := 37) C.1 C.2.1 C.2.2.1 iX7 tyX7 tyX7_ok nmX7 C.2.2.2.1 C.2.2.2.2.2.1 hP hD hS q0 he rfl 25 (by decide) (C.2.2.1 _ wf_X7_49) (fun _ h => h) rfl hin2 rfl (tyX7_ok 25 (by decide)) rfl rfl hl0 hdg (fun H1 l1 hP1 hD1 hS1 => ?_)
  rw [h2] at hP1 hD1
  exact k H1 l1 ls hP1 hD1 hS1 hl
theorem ip_X7_52 (C : Cx p s m args meth c cc RX7 nL ret D) (hin2 : meth.name = "<init>") {ws2 : va_W} (q0 : Nat) {a : Nat} {fs : List Value} {x : Nat} (he : ws[q0]? = some (a, .inr (4, fs))) (hl0 : 26 < fs.length) (hdg : decode cc pc = .ok (.putfield 52, 3)) (h2 : ws.set q0 (a, .inr (4, fs.set 26 (.ref x))) = ws2) (k : GI p l e R s m args below meth c D H0 A nL Q nc ns ws2 (pc + 3) lv st) : GI p l e R s m args below meth c D H0 A nL Q nc ns ws pc lv (.ref x :: .ref a :: st) := by
  intro H locs ls hP hD hS hl
  refine va_putF (D := D) (ci := 4) (v := .ref x) (ty := tyX7 26) (C := RX7) (T := TX7) (N := 37) C.1 C.2.1 C.2.2.1 iX7 tyX7 tyX7_ok nmX7 C.2.2.2.1 C.2.2.2.2.2.1 hP hD hS q0 he rfl 26 (by decide) (C.2.2.1 _ wf_X7_52) (fun _ h => h) rfl hin2 rfl (tyX7_ok 26 (by decide)) rfl rfl hl0 hdg (fun H1 l1 hP1 hD1 hS1 => ?_)
  rw [h2] at hP1 hD1
  exact k H1 l1 ls hP1 hD1 hS1 hl
theorem ip_X7_55 (C : Cx p s m args meth c cc RX7 nL ret D) (hin2 : meth.name = "<init>") {ws2 : va_W} (q0 : Nat) {a : Nat} {fs : List Value} {x : Nat} (he : ws[q0]? = some (a, .inr (4, fs))) (hl0 : 27 < fs.length) (hdg : decode cc pc = .ok (.putfield 55, 3)) (h2 : ws.set q0 (a, .inr (4, fs.set 27 (.ref x))) = ws2) (k : GI p l e R s m args below meth c D H0 A nL Q nc ns ws2 (pc + 3) lv st) : GI p l e R s m args below meth c D H0 A nL Q nc ns ws pc lv (.ref x :: .ref a :: st) := by
  intro H locs ls hP hD hS hl
  refine va_putF (D := D) (ci := 4) (v := .ref x) (ty := tyX7 27) (C := RX7) (T := TX7) (N := 37) C.1 C.2.1 C.2.2.1 iX7 tyX7 tyX7_ok nmX7 C.2.2.2.1 C.2.2.2.2.2.1 hP hD hS q0 he rfl 27 (by decide) (C.2.2.1 _ wf_X7_55) (fun _ h => h) rfl hin2 rfl (tyX7_ok 27 (by decide)) rfl rfl hl0 hdg (fun H1 l1 hP1 hD1 hS1 => ?_)
  rw [h2] at hP1 hD1
  exact k H1 l1 ls hP1 hD1 hS1 hl
theorem ip_X7_58 (C : Cx p s m args meth c cc RX7 nL ret D) (hin2 : meth.name = "<init>") {ws2 : va_W} (q0 : Nat) {a : Nat} {fs : List Value} {x : Nat} (he : ws[q0]? = some (a, .inr (4, fs))) (hl0 : 30 < fs.length) (hdg : decode cc pc = .ok (.putfield 58, 3)) (h2 : ws.set q0 (a, .inr (4, fs.set 30 (.ref x))) = ws2) (k : GI p l e R s m args below meth c D H0 A nL Q nc ns ws2 (pc + 3) lv st) : GI p l e R s m args below meth c D H0 A nL Q nc ns ws pc lv (.ref x :: .ref a :: st) := by
  intro H locs ls hP hD hS hl
  refine va_putF (D := D) (ci := 4) (v := .ref x) (ty := tyX7 30) (C := RX7) (T := TX7) (N := 37) C.1 C.2.1 C.2.2.1 iX7 tyX7 tyX7_ok nmX7 C.2.2.2.1 C.2.2.2.2.2.1 hP hD hS q0 he rfl 30 (by decide) (C.2.2.1 _ wf_X7_58) (fun _ h => h) rfl hin2 rfl (tyX7_ok 30 (by decide)) rfl rfl hl0 hdg (fun H1 l1 hP1 hD1 hS1 => ?_)
  rw [h2] at hP1 hD1
  exact k H1 l1 ls hP1 hD1 hS1 hl
theorem ip_X7_61 (C : Cx p s m args meth c cc RX7 nL ret D) (hin2 : meth.name = "<init>") {ws2 : va_W} (q0 : Nat) {a : Nat} {fs : List Value} {x : Nat} (he : ws[q0]? = some (a, .inr (4, fs))) (hl0 : 31 < fs.length) (hdg : decode cc pc = .ok (.putfield 61, 3)) (h2 : ws.set q0 (a, .inr (4, fs.set 31 (.ref x))) = ws2) (k : GI p l e R s m args below meth c D H0 A nL Q nc ns ws2 (pc + 3) lv st) : GI p l e R s m args below meth c D H0 A nL Q nc ns ws pc lv (.ref x :: .ref a :: st) := by
  intro H locs ls hP hD hS hl
  refine va_putF (D := D) (ci := 4) (v := .ref x) (ty := tyX7 31) (C := RX7) (T := TX7) (N := 37) C.1 C.2.1 C.2.2.1 iX7 tyX7 tyX7_ok nmX7 C.2.2.2.1 C.2.2.2.2.2.1 hP hD hS q0 he rfl 31 (by decide) (C.2.2.1 _ wf_X7_61) (fun _ h => h) rfl hin2 rfl (tyX7_ok 31 (by decide)) rfl rfl hl0 hdg (fun H1 l1 hP1 hD1 hS1 => ?_)
  rw [h2] at hP1 hD1
  exact k H1 l1 ls hP1 hD1 hS1 hl
theorem ip_X7_64 (C : Cx p s m args meth c cc RX7 nL ret D) (hin2 : meth.name = "<init>") {ws2 : va_W} (q0 : Nat) {a : Nat} {fs : List Value} {x : Nat} (he : ws[q0]? = some (a, .inr (4, fs))) (hl0 : 33 < fs.length) (hdg : decode cc pc = .ok (.putfield 64, 3)) (h2 : ws.set q0 (a, .inr (4, fs.set 33 (.ref x))) = ws2) (k : GI p l e R s m args below meth c D H0 A nL Q nc ns ws2 (pc + 3) lv st) : GI p l e R s m args below meth c D H0 A nL Q nc ns ws pc lv (.ref x :: .ref a :: st) := by
  intro H locs ls hP hD hS hl
  refine va_putF (D := D) (ci := 4) (v := .ref x) (ty := tyX7 33) (C := RX7) (T := TX7) (N := 37) C.1 C.2.1 C.2.2.1 iX7 tyX7 tyX7_ok nmX7 C.2.2.2.1 C.2.2.2.2.2.1 hP hD hS q0 he rfl 33 (by decide) (C.2.2.1 _ wf_X7_64) (fun _ h => h) rfl hin2 rfl (tyX7_ok 33 (by decide)) rfl rfl hl0 hdg (fun H1 l1 hP1 hD1 hS1 => ?_)
  rw [h2] at hP1 hD1
  exact k H1 l1 ls hP1 hD1 hS1 hl
theorem ip_X7_67 (C : Cx p s m args meth c cc RX7 nL ret D) (hin2 : meth.name = "<init>") {ws2 : va_W} (q0 : Nat) {a : Nat} {fs : List Value} {x : Nat} (he : ws[q0]? = some (a, .inr (4, fs))) (hl0 : 34 < fs.length) (hdg : decode cc pc = .ok (.putfield 67, 3)) (h2 : ws.set q0 (a, .inr (4, fs.set 34 (.ref x))) = ws2) (k : GI p l e R s m args below meth c D H0 A nL Q nc ns ws2 (pc + 3) lv st) : GI p l e R s m args below meth c D H0 A nL Q nc ns ws pc lv (.ref x :: .ref a :: st) := by
  intro H locs ls hP hD hS hl
  refine va_putF (D := D) (ci := 4) (v := .ref x) (ty := tyX7 34) (C := RX7) (T := TX7) (N := 37) C.1 C.2.1 C.2.2.1 iX7 tyX7 tyX7_ok nmX7 C.2.2.2.1 C.2.2.2.2.2.1 hP hD hS q0 he rfl 34 (by decide) (C.2.2.1 _ wf_X7_67) (fun _ h => h) rfl hin2 rfl (tyX7_ok 34 (by decide)) rfl rfl hl0 hdg (fun H1 l1 hP1 hD1 hS1 => ?_)
  rw [h2] at hP1 hD1
  exact k H1 l1 ls hP1 hD1 hS1 hl
theorem ip_X7_70 (C : Cx p s m args meth c cc RX7 nL ret D) (hin2 : meth.name = "<init>") {ws2 : va_W} (q0 : Nat) {a : Nat} {fs : List Value} {x : Nat} (he : ws[q0]? = some (a, .inr (4, fs))) (hl0 : 35 < fs.length) (hdg : decode cc pc = .ok (.putfield 70, 3)) (h2 : ws.set q0 (a, .inr (4, fs.set 35 (.ref x))) = ws2) (k : GI p l e R s m args below meth c D H0 A nL Q nc ns ws2 (pc + 3) lv st) : GI p l e R s m args below meth c D H0 A nL Q nc ns ws pc lv (.ref x :: .ref a :: st) := by
  intro H locs ls hP hD hS hl
  refine va_putF (D := D) (ci := 4) (v := .ref x) (ty := tyX7 35) (C := RX7) (T := TX7) (N := 37) C.1 C.2.1 C.2.2.1 iX7 tyX7 tyX7_ok nmX7 C.2.2.2.1 C.2.2.2.2.2.1 hP hD hS q0 he rfl 35 (by decide) (C.2.2.1 _ wf_X7_70) (fun _ h => h) rfl hin2 rfl (tyX7_ok 35 (by decide)) rfl rfl hl0 hdg (fun H1 l1 hP1 hD1 hS1 => ?_)
  rw [h2] at hP1 hD1
  exact k H1 l1 ls hP1 hD1 hS1 hl
theorem ip_X7_74 (C : Cx p s m args meth c cc RX7 nL ret D) (hin2 : meth.name = "<init>") {ws2 : va_W} (q0 : Nat) {a : Nat} {fs : List Value} {x : Nat} (he : ws[q0]? = some (a, .inr (4, fs))) (hl0 : 36 < fs.length) (hdg : decode cc pc = .ok (.putfield 74, 3)) (h2 : ws.set q0 (a, .inr (4, fs.set 36 (.ref x))) = ws2) (k : GI p l e R s m args below meth c D H0 A nL Q nc ns ws2 (pc + 3) lv st) : GI p l e R s m args below meth c D H0 A nL Q nc ns ws pc lv (.ref x :: .ref a :: st) := by
  intro H locs ls hP hD hS hl
  refine va_putF (D := D) (ci := 4) (v := .ref x) (ty := tyX7 36) (C := RX7) (T := TX7) (N := 37) C.1 C.2.1 C.2.2.1 iX7 tyX7 tyX7_ok nmX7 C.2.2.2.1 C.2.2.2.2.2.1 hP hD hS q0 he rfl 36 (by decide) (C.2.2.1 _ wf_X7_74) (fun _ h => h) rfl hin2 rfl (tyX7_ok 36 (by decide)) rfl rfl hl0 hdg (fun H1 l1 hP1 hD1 hS1 => ?_)
  rw [h2] at hP1 hD1
  exact k H1 l1 ls hP1 hD1 hS1 hl
theorem ip_X7_77 (C : Cx p s m args meth c cc RX7 nL ret D) (hin2 : meth.name = "<init>") {ws2 : va_W} (q0 : Nat) {a : Nat} {fs : List Value} {x : Int32} (he : ws[q0]? = some (a, .inr (4, fs))) (hl0 : 0 < fs.length) (hdg : decode cc pc = .ok (.putfield 77, 3)) (h2 : ws.set q0 (a, .inr (4, fs.set 0 (.int x))) = ws2) (k : GI p l e R s m args below meth c D H0 A nL Q nc ns ws2 (pc + 3) lv st) : GI p l e R s m args below meth c D H0 A nL Q nc ns ws pc lv (.int x :: .ref a :: st) := by
  intro H locs ls hP hD hS hl
  refine va_put (D := D) (ci := 4) (v := .int x) (ty := tyX7 0) (C := RX7) (T := TX7) (N := 37) C.1 C.2.1 C.2.2.1 iX7 tyX7 tyX7_ok nmX7 C.2.2.2.1 C.2.2.2.2.2.1 hP hD hS q0 he rfl 0 (by decide) (C.2.2.1 _ wf_X7_77) (fun _ h => h) rfl (tyX7_ok 0 (by decide)) rfl rfl hl0 hdg (fun H1 l1 hP1 hD1 hS1 => ?_)
  rw [h2] at hP1 hD1
  exact k H1 l1 ls hP1 hD1 hS1 hl
theorem ip_X7_81 (C : Cx p s m args meth c cc RX7 nL ret D) (hin2 : meth.name = "<init>") {ws2 : va_W} (q0 : Nat) {a : Nat} {fs : List Value} {x : Int32} (he : ws[q0]? = some (a, .inr (4, fs))) (hl0 : 10 < fs.length) (hdg : decode cc pc = .ok (.putfield 81, 3)) (h2 : ws.set q0 (a, .inr (4, fs.set 10 (.int x))) = ws2) (k : GI p l e R s m args below meth c D H0 A nL Q nc ns ws2 (pc + 3) lv st) : GI p l e R s m args below meth c D H0 A nL Q nc ns ws pc lv (.int x :: .ref a :: st) := by
  intro H locs ls hP hD hS hl
  refine va_put (D := D) (ci := 4) (v := .int x) (ty := tyX7 10) (C := RX7) (T := TX7) (N := 37) C.1 C.2.1 C.2.2.1 iX7 tyX7 tyX7_ok nmX7 C.2.2.2.1 C.2.2.2.2.2.1 hP hD hS q0 he rfl 10 (by decide) (C.2.2.1 _ wf_X7_81) (fun _ h => h) rfl (tyX7_ok 10 (by decide)) rfl rfl hl0 hdg (fun H1 l1 hP1 hD1 hS1 => ?_)
  rw [h2] at hP1 hD1
  exact k H1 l1 ls hP1 hD1 hS1 hl
end IPUT
