section LAWS
variable {p : Program} {l : Launch} {e : Env} {s : State} {m : MethodId} {below : List Frame} {meth : Method} {c : Code} {D : va_G} {Q : State → Prop} {b0 L : Nat} {xs : Nat → Int32}
set_option maxHeartbeats 8000000 in
set_option maxRecDepth 100000 in
theorem law_start (C : Cx p s m #[Value.ref b0] meth c code RL 4 ret D) (hX : va_X b0 L xs s s.heap) (hbl : b0 < s.heap.size) (hL : L ≤ 448) (fin : ∀ (ws : va_W) (lv : List (Nat × Value)), GI p l e room_1 s m #[Value.ref b0] below meth c D s.heap (fun q : Nat => s.heap.size ≤ q) 4 Q 54 1176 ws 1294 lv [.int 1]) : GI p l e room_1 s m #[Value.ref b0] below meth c D s.heap (fun q : Nat => s.heap.size ≤ q) 4 Q 0 0 [] 0 [(0, .ref b0)] [] := by
  have hA : ∀ q : Nat, s.heap.size ≤ q → (fun q : Nat => s.heap.size ≤ q) q := fun _ h => h
  have hbA : ¬ (fun q : Nat => s.heap.size ≤ q) b0 := Nat.not_le.mpr hbl
  refine i_new (ci := 3) (fs := [.null, .null, .null, .null, .null, .null, .null, .null, .int 0]) (T := TX6) (N := 9) C iX6 tyX6 tyX6_ok wk_L_7 wt_X6 wi_X6 hA rfl (by decide +kernel) (Nat.le_of_ble_eq_true rfl) (Nat.le_of_ble_eq_true rfl) dL_law_0 (fun b => ?_)
  refine i_dup C dL_law_3 rfl ?_
  refine i_initL (w0 := [(b, .inr (3, [.null, .null, .null, .null, .null, .null, .null, .null, .int 0]))]) (wr := []) C (i_X6 l D b) ok_X6_init rfl wn_X6_init wm_L_9 hA [0] [] rfl rfl rfl (by decide) (by decide) (by decide) ⟨Nat.le_of_ble_eq_true rfl, Nat.le_of_ble_eq_true rfl⟩ ⟨Nat.le_of_ble_eq_true rfl, Nat.le_of_ble_eq_true rfl⟩ (Nat.le_of_ble_eq_true rfl) dL_law_4 (fun u => ?_)
  refine i_asn C (lv' := [(1, .ref b), (0, .ref b0)]) dL_law_7 rfl (by decide) rfl ?_
  refine i_new (ci := 4) (fs := [.int 0, .int 0, .null, .null, .null, .null, .null, .null, .int 0, .int 0, .int 0, .int 0, .null, .int 0, .int 0, .int 0, .int 0, .null, .null, .null, .null, .int 0, .null, .int 0, .null, .null, .null, .null, .long 0, .long 0, .null, .null, .int 0, .null, .null, .null, .null]) (T := TX7) (N := 37) C iX7 tyX7 tyX7_ok wk_L_10 wt_X7 wi_X7 hA rfl (by decide +kernel) (Nat.le_of_ble_eq_true rfl) (Nat.le_of_ble_eq_true rfl) dL_law_8 (fun o => ?_)
  refine i_dup C dL_law_11 rfl ?_
  refine i_initL (w0 := [(o, .inr (4, [.int 0, .int 0, .null, .null, .null, .null, .null, .null, .int 0, .int 0, .int 0, .int 0, .null, .int 0, .int 0, .int 0, .int 0, .null, .null, .null, .null, .int 0, .null, .int 0, .null, .null, .null, .null, .long 0, .long 0, .null, .null, .int 0, .null, .null, .null, .null]))]) (wr := wI_X6 D b u) C (i_X7 l D o) ok_X7_init rfl wn_X7_init wm_L_12 hA [31] [0, 1, 2, 3, 4, 5, 6, 7, 8, 9, 10, 11, 12, 13, 14, 15, 16, 17, 18, 19, 20, 21, 22, 23, 24, 25, 26, 27, 28, 29, 30] rfl rfl rfl (by decide +kernel) (by decide +kernel) (by decide +kernel) ⟨Nat.le_of_ble_eq_true rfl, Nat.le_of_ble_eq_true rfl⟩ ⟨Nat.le_of_ble_eq_true rfl, Nat.le_of_ble_eq_true rfl⟩ (Nat.le_of_ble_eq_true rfl) dL_law_12 (fun v => ?_)
  refine i_asn C (lv' := [(2, .ref o), (1, .ref b), (0, .ref b0)]) dL_law_15 rfl (by decide) rfl ?_
  refine i_ic C (v := (0 : Int32)) dL_law_16 (by decide) ?_
  refine i_isn C (lv' := [(3, .int (nI 0)), (2, .ref o), (1, .ref b), (0, .ref b0)]) dL_law_17 rfl (by decide) rfl ?_
  refine law_loop C b (u.getD 0 0) (u.getD 1 0) (u.getD 2 0) (u.getD 3 0) (u.getD 4 0) (u.getD 5 0) (u.getD 6 0) (u.getD 7 0) (u.getD 8 0) (u.getD 9 0) (u.getD 10 0) (u.getD 11 0) (u.getD 12 0) (u.getD 13 0) (u.getD 14 0) (u.getD 15 0) (u.getD 16 0) (u.getD 17 0) (u.getD 18 0) (u.getD 19 0) (u.getD 20 0) (u.getD 21 0) (u.getD 22 0) (u.getD 23 0) (u.getD 24 0) (u.getD 25 0) (u.getD 26 0) (u.getD 27 0) (u.getD 28 0) (u.getD 29 0) o (v.getD 0 0) (v.getD 1 0) (v.getD 2 0) (v.getD 3 0) (v.getD 4 0) (v.getD 5 0) (v.getD 6 0) (v.getD 7 0) (v.getD 8 0) (v.getD 9 0) (v.getD 10 0) (v.getD 11 0) (v.getD 12 0) (v.getD 13 0) (v.getD 14 0) (v.getD 15 0) (v.getD 16 0) (v.getD 17 0) (v.getD 18 0) (v.getD 19 0) (v.getD 20 0) (v.getD 21 0) hX hbl hbA hL fin (L + 1) 0 _ (Nat.zero_le L) (by omega) ⟨2, 0, _, _, _, _, _, _, _, _, _, _, 2, 0, _, _, _, _, _, _, _, _, _, _, 2, 0, _, _, _, _, _, _, _, _, _, _, 0, _, _, _, _, _, _, _, _, _, _, 0, _, 0, _, _, _, _, _, _, _, _, _, _, _, _, _, _, _, _, _, _, _, _, _, _, _, _, _, _, _, rfl, ?_, ?_, ?_, ?_⟩
  · exact ⟨by omega, by omega, isSet_0 0, isSet_0 0, ⟨0, by omega, rfl⟩, Or.inr ⟨11, by omega, rfl⟩, fun i h => by omega, fun i h => by omega, fun i h => by omega, fun i h => by omega, fun i h => by omega, fun i h => by omega, fun i h => by omega, fun i h => by omega, fun i h => by omega, fun i h => by omega⟩
  · exact ⟨rfl, by decide, by decide, Or.inl rfl⟩
  · exact ⟨Nat.zero_le _, fun j hj => absurd hj (Nat.not_lt_zero j)⟩
  · intro s hs
    have h4 : s = 0 ∨ s = 1 ∨ s = 2 ∨ s = 3 := by omega
    rcases h4 with rfl | rfl | rfl | rfl <;> exact ⟨by decide, Or.inl (by decide), ⟨0, by omega, rfl⟩, ⟨0, by omega, rfl⟩, fun z => absurd (by decide) z⟩
end LAWS
