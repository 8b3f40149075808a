abbrev wBN (D : va_G) (b h a1 a2 a3 a4 a5 a6 k0 g0 t0 s0 u1 u2 u3 : Nat) (pe : Nat) (n : Nat) (td : Int32) (ys : Int32) (la : Int32) (ri : Int32) (kd : Nat → Int32) (dy : Nat → Int32) (nd : Nat → Int32) (co : Nat → Int32) (od : Nat → Int32) (wo : Nat → Int32) (im : Int32) : va_W := [(b, .inr (3, [.ref h, .ref k0, .ref g0, .ref t0, .ref s0, .ref u1, .ref u2, .ref u3, .int im])), (h, .inr (0, [.int (nI pe), .int (nI n), .int td, .int ys, .int la, .int ri, .ref a1, .ref a2, .ref a3, .ref a4, .ref a5, .ref a6])), (a1, .inl (D.1 10, 12, .inl kd)), (a2, .inl (D.1 10, 12, .inl dy)), (a3, .inl (D.1 10, 12, .inl nd)), (a4, .inl (D.1 10, 12, .inl co)), (a5, .inl (D.1 10, 12, .inl od)), (a6, .inl (D.1 10, 48, .inl wo))]
abbrev wBT (D : va_G) (b t0 t1 h k0 g0 s0 u1 u2 u3 : Nat) (ty : Nat) (aw : Int32) (tk : Int32) (le : Nat → Int32) (im : Int32) : va_W := [(b, .inr (3, [.ref h, .ref k0, .ref g0, .ref t0, .ref s0, .ref u1, .ref u2, .ref u3, .int im])), (t0, .inr (1, [.ref t1, .int (nI ty), .int aw, .int tk])), (t1, .inl (D.1 12, 80, .inl le))]
abbrev wBS (D : va_G) (b s0 s1 s2 s3 h k0 g0 t0 u1 u2 u3 : Nat) (ln : Nat → Int32) (sz : Nat → Int32) (it : Nat → Int64) (im : Int32) : va_W := [(b, .inr (3, [.ref h, .ref k0, .ref g0, .ref t0, .ref s0, .ref u1, .ref u2, .ref u3, .int im])), (s0, .inr (2, [.ref s1, .ref s2, .ref s3])), (s1, .inl (D.1 10, 4, .inl ln)), (s2, .inl (D.1 10, 4, .inl sz)), (s3, .inl (D.1 11, 64, .inr (.inl it)))]
abbrev wBNS (D : va_G) (b h a1 a2 a3 a4 a5 a6 s0 s1 s2 s3 k0 g0 t0 u1 u2 u3 : Nat) (pe : Nat) (n : Nat) (td : Int32) (ys : Int32) (la : Int32) (ri : Int32) (kd : Nat → Int32) (dy : Nat → Int32) (nd : Nat → Int32) (co : Nat → Int32) (od : Nat → Int32) (wo : Nat → Int32) (ln : Nat → Int32) (sz : Nat → Int32) (it : Nat → Int64) (im : Int32) : va_W := [(b, .inr (3, [.ref h, .ref k0, .ref g0, .ref t0, .ref s0, .ref u1, .ref u2, .ref u3, .int im])), (h, .inr (0, [.int (nI pe), .int (nI n), .int td, .int ys, .int la, .int ri, .ref a1, .ref a2, .ref a3, .ref a4, .ref a5, .ref a6])), (a1, .inl (D.1 10, 12, .inl kd)), (a2, .inl (D.1 10, 12, .inl dy)), (a3, .inl (D.1 10, 12, .inl nd)), (a4, .inl (D.1 10, 12, .inl co)), (a5, .inl (D.1 10, 12, .inl od)), (a6, .inl (D.1 10, 48, .inl wo)), (s0, .inr (2, [.ref s1, .ref s2, .ref s3])), (s1, .inl (D.1 10, 4, .inl ln)), (s2, .inl (D.1 10, 4, .inl sz)), (s3, .inl (D.1 11, 64, .inr (.inl it)))]
abbrev wBNS2 (D : va_G) (b h a1 a2 a3 a4 a5 a6 s0 s1 s2 s3 u2 k0 g0 t0 u1 u3 : Nat) (pe : Nat) (n : Nat) (td : Int32) (ys : Int32) (la : Int32) (ri : Int32) (kd : Nat → Int32) (dy : Nat → Int32) (nd : Nat → Int32) (co : Nat → Int32) (od : Nat → Int32) (wo : Nat → Int32) (ln : Nat → Int32) (sz : Nat → Int32) (it : Nat → Int64) (tl : Nat → Int32) (im : Int32) : va_W := [(b, .inr (3, [.ref h, .ref k0, .ref g0, .ref t0, .ref s0, .ref u1, .ref u2, .ref u3, .int im])), (h, .inr (0, [.int (nI pe), .int (nI n), .int td, .int ys, .int la, .int ri, .ref a1, .ref a2, .ref a3, .ref a4, .ref a5, .ref a6])), (a1, .inl (D.1 10, 12, .inl kd)), (a2, .inl (D.1 10, 12, .inl dy)), (a3, .inl (D.1 10, 12, .inl nd)), (a4, .inl (D.1 10, 12, .inl co)), (a5, .inl (D.1 10, 12, .inl od)), (a6, .inl (D.1 10, 48, .inl wo)), (s0, .inr (2, [.ref s1, .ref s2, .ref s3])), (s1, .inl (D.1 10, 4, .inl ln)), (s2, .inl (D.1 10, 4, .inl sz)), (s3, .inl (D.1 11, 64, .inr (.inl it))), (u2, .inl (D.1 10, 8, .inl tl))]
abbrev wBN3 (D : va_G) (b h a1 a2 a3 a4 a5 a6 u3 k0 g0 t0 s0 u1 u2 : Nat) (pe : Nat) (n : Nat) (td : Int32) (ys : Int32) (la : Int32) (ri : Int32) (kd : Nat → Int32) (dy : Nat → Int32) (nd : Nat → Int32) (co : Nat → Int32) (od : Nat → Int32) (wo : Nat → Int32) (du : Nat → Int32) (im : Int32) : va_W := [(b, .inr (3, [.ref h, .ref k0, .ref g0, .ref t0, .ref s0, .ref u1, .ref u2, .ref u3, .int im])), (h, .inr (0, [.int (nI pe), .int (nI n), .int td, .int ys, .int la, .int ri, .ref a1, .ref a2, .ref a3, .ref a4, .ref a5, .ref a6])), (a1, .inl (D.1 10, 12, .inl kd)), (a2, .inl (D.1 10, 12, .inl dy)), (a3, .inl (D.1 10, 12, .inl nd)), (a4, .inl (D.1 10, 12, .inl co)), (a5, .inl (D.1 10, 12, .inl od)), (a6, .inl (D.1 10, 48, .inl wo)), (u3, .inl (D.1 10, 4, .inl du))]
abbrev wBNK (D : va_G) (b h a1 a2 a3 a4 a5 a6 k0 k1 k2 k3 k4 k5 k6 g0 t0 s0 u1 u2 u3 : Nat) (pe : Nat) (n : Nat) (td : Int32) (ys : Int32) (la : Int32) (ri : Int32) (kd : Nat → Int32) (dy : Nat → Int32) (nd : Nat → Int32) (co : Nat → Int32) (od : Nat → Int32) (wo : Nat → Int32) (pek : Nat) (nk : Nat) (tdk : Int32) (ysk : Int32) (lak : Int32) (rik : Int32) (kdk : Nat → Int32) (dyk : Nat → Int32) (ndk : Nat → Int32) (cok : Nat → Int32) (odk : Nat → Int32) (wok : Nat → Int32) (im : Int32) : va_W := [(b, .inr (3, [.ref h, .ref k0, .ref g0, .ref t0, .ref s0, .ref u1, .ref u2, .ref u3, .int im])), (h, .inr (0, [.int (nI pe), .int (nI n), .int td, .int ys, .int la, .int ri, .ref a1, .ref a2, .ref a3, .ref a4, .ref a5, .ref a6])), (a1, .inl (D.1 10, 12, .inl kd)), (a2, .inl (D.1 10, 12, .inl dy)), (a3, .inl (D.1 10, 12, .inl nd)), (a4, .inl (D.1 10, 12, .inl co)), (a5, .inl (D.1 10, 12, .inl od)), (a6, .inl (D.1 10, 48, .inl wo)), (k0, .inr (0, [.int (nI pek), .int (nI nk), .int tdk, .int ysk, .int lak, .int rik, .ref k1, .ref k2, .ref k3, .ref k4, .ref k5, .ref k6])), (k1, .inl (D.1 10, 12, .inl kdk)), (k2, .inl (D.1 10, 12, .inl dyk)), (k3, .inl (D.1 10, 12, .inl ndk)), (k4, .inl (D.1 10, 12, .inl cok)), (k5, .inl (D.1 10, 12, .inl odk)), (k6, .inl (D.1 10, 48, .inl wok))]
abbrev wBND1 (D : va_G) (b h a1 a2 a3 a4 a5 a6 g0 g1 g2 g3 g4 g5 g6 u1 k0 t0 s0 u2 u3 : Nat) (pe : Nat) (n : Nat) (td : Int32) (ys : Int32) (la : Int32) (ri : Int32) (kd : Nat → Int32) (dy : Nat → Int32) (nd : Nat → Int32) (co : Nat → Int32) (od : Nat → Int32) (wo : Nat → Int32) (peg : Nat) (ng : Nat) (tdg : Int32) (ysg : Int32) (lag : Int32) (rig : Int32) (kdg : Nat → Int32) (dyg : Nat → Int32) (ndg : Nat → Int32) (cog : Nat → Int32) (odg : Nat → Int32) (wog : Nat → Int32) (be : Nat → Int32) (im : Int32) : va_W := [(b, .inr (3, [.ref h, .ref k0, .ref g0, .ref t0, .ref s0, .ref u1, .ref u2, .ref u3, .int im])), (h, .inr (0, [.int (nI pe), .int (nI n), .int td, .int ys, .int la, .int ri, .ref a1, .ref a2, .ref a3, .ref a4, .ref a5, .ref a6])), (a1, .inl (D.1 10, 12, .inl kd)), (a2, .inl (D.1 10, 12, .inl dy)), (a3, .inl (D.1 10, 12, .inl nd)), (a4, .inl (D.1 10, 12, .inl co)), (a5, .inl (D.1 10, 12, .inl od)), (a6, .inl (D.1 10, 48, .inl wo)), (g0, .inr (0, [.int (nI peg), .int (nI ng), .int tdg, .int ysg, .int lag, .int rig, .ref g1, .ref g2, .ref g3, .ref g4, .ref g5, .ref g6])), (g1, .inl (D.1 10, 12, .inl kdg)), (g2, .inl (D.1 10, 12, .inl dyg)), (g3, .inl (D.1 10, 12, .inl ndg)), (g4, .inl (D.1 10, 12, .inl cog)), (g5, .inl (D.1 10, 12, .inl odg)), (g6, .inl (D.1 10, 48, .inl wog)), (u1, .inl (D.1 10, 61, .inl be))]
abbrev wBNDT (D : va_G) (b h a1 a2 a3 a4 a5 a6 g0 g1 g2 g3 g4 g5 g6 t0 t1 k0 s0 u1 u2 u3 : Nat) (pe : Nat) (n : Nat) (td : Int32) (ys : Int32) (la : Int32) (ri : Int32) (kd : Nat → Int32) (dy : Nat → Int32) (nd : Nat → Int32) (co : Nat → Int32) (od : Nat → Int32) (wo : Nat → Int32) (peg : Nat) (ng : Nat) (tdg : Int32) (ysg : Int32) (lag : Int32) (rig : Int32) (kdg : Nat → Int32) (dyg : Nat → Int32) (ndg : Nat → Int32) (cog : Nat → Int32) (odg : Nat → Int32) (wog : Nat → Int32) (ty : Nat) (aw : Int32) (tk : Int32) (le : Nat → Int32) (im : Int32) : va_W := [(b, .inr (3, [.ref h, .ref k0, .ref g0, .ref t0, .ref s0, .ref u1, .ref u2, .ref u3, .int im])), (h, .inr (0, [.int (nI pe), .int (nI n), .int td, .int ys, .int la, .int ri, .ref a1, .ref a2, .ref a3, .ref a4, .ref a5, .ref a6])), (a1, .inl (D.1 10, 12, .inl kd)), (a2, .inl (D.1 10, 12, .inl dy)), (a3, .inl (D.1 10, 12, .inl nd)), (a4, .inl (D.1 10, 12, .inl co)), (a5, .inl (D.1 10, 12, .inl od)), (a6, .inl (D.1 10, 48, .inl wo)), (g0, .inr (0, [.int (nI peg), .int (nI ng), .int tdg, .int ysg, .int lag, .int rig, .ref g1, .ref g2, .ref g3, .ref g4, .ref g5, .ref g6])), (g1, .inl (D.1 10, 12, .inl kdg)), (g2, .inl (D.1 10, 12, .inl dyg)), (g3, .inl (D.1 10, 12, .inl ndg)), (g4, .inl (D.1 10, 12, .inl cog)), (g5, .inl (D.1 10, 12, .inl odg)), (g6, .inl (D.1 10, 48, .inl wog)), (t0, .inr (1, [.ref t1, .int (nI ty), .int aw, .int tk])), (t1, .inl (D.1 12, 80, .inl le))]
abbrev wYY (D : va_G) (h a1 a2 a3 a4 a5 a6 k0 k1 k2 k3 k4 k5 k6 : Nat) (pe : Nat) (n : Nat) (td : Int32) (ys : Int32) (la : Int32) (ri : Int32) (kd : Nat → Int32) (dy : Nat → Int32) (nd : Nat → Int32) (co : Nat → Int32) (od : Nat → Int32) (wo : Nat → Int32) (pek : Nat) (nk : Nat) (tdk : Int32) (ysk : Int32) (lak : Int32) (rik : Int32) (kdk : Nat → Int32) (dyk : Nat → Int32) (ndk : Nat → Int32) (cok : Nat → Int32) (odk : Nat → Int32) (wok : Nat → Int32) : va_W := [(h, .inr (0, [.int (nI pe), .int (nI n), .int td, .int ys, .int la, .int ri, .ref a1, .ref a2, .ref a3, .ref a4, .ref a5, .ref a6])), (a1, .inl (D.1 10, 12, .inl kd)), (a2, .inl (D.1 10, 12, .inl dy)), (a3, .inl (D.1 10, 12, .inl nd)), (a4, .inl (D.1 10, 12, .inl co)), (a5, .inl (D.1 10, 12, .inl od)), (a6, .inl (D.1 10, 48, .inl wo)), (k0, .inr (0, [.int (nI pek), .int (nI nk), .int tdk, .int ysk, .int lak, .int rik, .ref k1, .ref k2, .ref k3, .ref k4, .ref k5, .ref k6])), (k1, .inl (D.1 10, 12, .inl kdk)), (k2, .inl (D.1 10, 12, .inl dyk)), (k3, .inl (D.1 10, 12, .inl ndk)), (k4, .inl (D.1 10, 12, .inl cok)), (k5, .inl (D.1 10, 12, .inl odk)), (k6, .inl (D.1 10, 48, .inl wok))]
def s_X5_become (kd : Nat → Int32) (dy : Nat → Int32) (nd : Nat → Int32) (co : Nat → Int32) (od : Nat → Int32) (wo : Nat → Int32) (pek : Nat) (nk : Nat) (tdk : Int32) (ysk : Int32) (lak : Int32) (rik : Int32) (kdk : Nat → Int32) (dyk : Nat → Int32) (ndk : Nat → Int32) (cok : Nat → Int32) (odk : Nat → Int32) (wok : Nat → Int32) : Nat × Nat × Int32 × Int32 × Int32 × Int32 × (Nat → Int32) × (Nat → Int32) × (Nat → Int32) × (Nat → Int32) × (Nat → Int32) × (Nat → Int32) := (pek, nk, tdk, ysk, lak, rik, va_cpy kdk kd 0 0 12, va_cpy dyk dy 0 0 12, va_cpy ndk nd 0 0 12, va_cpy cok co 0 0 12, va_cpy odk od 0 0 12, va_cpy wok wo 0 0 48)
set_option maxHeartbeats 8000000 in
set_option maxRecDepth 100000 in
theorem c_X5_become (l : Launch) (D : va_G) (h : Nat) (a1 : Nat) (a2 : Nat) (a3 : Nat) (a4 : Nat) (a5 : Nat) (a6 : Nat) (k0 : Nat) (k1 : Nat) (k2 : Nat) (k3 : Nat) (k4 : Nat) (k5 : Nat) (k6 : Nat) (pe : Nat) (n : Nat) (td : Int32) (ys : Int32) (la : Int32) (ri : Int32) (kd : Nat → Int32) (dy : Nat → Int32) (nd : Nat → Int32) (co : Nat → Int32) (od : Nat → Int32) (wo : Nat → Int32) (pek : Nat) (nk : Nat) (tdk : Int32) (ysk : Int32) (lak : Int32) (rik : Int32) (kdk : Nat → Int32) (dyk : Nat → Int32) (ndk : Nat → Int32) (cok : Nat → Int32) (odk : Nat → Int32) (wok : Nat → Int32) (h0 : va_D (fun _ => True) (wYY D h a1 a2 a3 a4 a5 a6 k0 k1 k2 k3 k4 k5 k6 pe n td ys la ri kd dy nd co od wo pek nk tdk ysk lak rik kdk dyk ndk cok odk wok)) : ct l yX5_become cX5_become 2 none 1 80 D [.ref h, .ref k0] (wYY D h a1 a2 a3 a4 a5 a6 k0 k1 k2 k3 k4 k5 k6 pe n td ys la ri kd dy nd co od wo pek nk tdk ysk lak rik kdk dyk ndk cok odk wok) (wYY D h a1 a2 a3 a4 a5 a6 k0 k1 k2 k3 k4 k5 k6 (s_X5_become kd dy nd co od wo pek nk tdk ysk lak rik kdk dyk ndk cok odk wok).1 (s_X5_become kd dy nd co od wo pek nk tdk ysk lak rik kdk dyk ndk cok odk wok).2.1 (s_X5_become kd dy nd co od wo pek nk tdk ysk lak rik kdk dyk ndk cok odk wok).2.2.1 (s_X5_become kd dy nd co od wo pek nk tdk ysk lak rik kdk dyk ndk cok odk wok).2.2.2.1 (s_X5_become kd dy nd co od wo pek nk tdk ysk lak rik kdk dyk ndk cok odk wok).2.2.2.2.1 (s_X5_become kd dy nd co od wo pek nk tdk ysk lak rik kdk dyk ndk cok odk wok).2.2.2.2.2.1 (s_X5_become kd dy nd co od wo pek nk tdk ysk lak rik kdk dyk ndk cok odk wok).2.2.2.2.2.2.1 (s_X5_become kd dy nd co od wo pek nk tdk ysk lak rik kdk dyk ndk cok odk wok).2.2.2.2.2.2.2.1 (s_X5_become kd dy nd co od wo pek nk tdk ysk lak rik kdk dyk ndk cok odk wok).2.2.2.2.2.2.2.2.1 (s_X5_become kd dy nd co od wo pek nk tdk ysk lak rik kdk dyk ndk cok odk wok).2.2.2.2.2.2.2.2.2.1 (s_X5_become kd dy nd co od wo pek nk tdk ysk lak rik kdk dyk ndk cok odk wok).2.2.2.2.2.2.2.2.2.2.1 (s_X5_become kd dy nd co od wo pek nk tdk ysk lak rik kdk dyk ndk cok odk wok).2.2.2.2.2.2.2.2.2.2.2 pek nk tdk ysk lak rik kdk dyk ndk cok odk wok) (Ad (wYY D h a1 a2 a3 a4 a5 a6 k0 k1 k2 k3 k4 k5 k6 pe n td ys la ri kd dy nd co od wo pek nk tdk ysk lak rik kdk dyk ndk cok odk wok)) (none) := by
  obtain ⟨V, hv⟩ : ∃ V, s_X5_become kd dy nd co od wo pek nk tdk ysk lak rik kdk dyk ndk cok odk wok = V := ⟨_, rfl⟩
  rw [hv]
  refine ct_intro (own := RX5) (lv := [(0, .ref h), (1, .ref k0)]) (by decide) rfl (Nat.le_of_ble_eq_true rfl) rfl ?_
  intro p_ e_ s_ m_ below_ meth_ c_ C
  have hv : (pek, nk, tdk, ysk, lak, rik, va_cpy kdk kd 0 0 12, va_cpy dyk dy 0 0 12, va_cpy ndk nd 0 0 12, va_cpy cok co 0 0 12, va_cpy odk od 0 0 12, va_cpy wok wo 0 0 48) = V := hv
  refine r_aln C dX5_become_0 rfl 0 rfl ?_
  refine r_aln C dX5_become_1 rfl 1 rfl ?_
  refine gf_X5_9 C 7 rfl rfl dX5_become_2 ?_
  refine pf_X5_9 C (ws2 := wYY D h a1 a2 a3 a4 a5 a6 k0 k1 k2 k3 k4 k5 k6 pek n td ys la ri kd dy nd co od wo pek nk tdk ysk lak rik kdk dyk ndk cok odk wok) h0 rfl 0 rfl (Nat.le_of_ble_eq_true rfl) dX5_become_5 rfl rfl ?_
  refine r_aln C dX5_become_8 rfl 0 rfl ?_
  refine r_aln C dX5_become_9 rfl 1 rfl ?_
  refine gf_X5_15 C 7 rfl rfl dX5_become_10 ?_
  refine pf_X5_15 C (ws2 := wYY D h a1 a2 a3 a4 a5 a6 k0 k1 k2 k3 k4 k5 k6 pek nk td ys la ri kd dy nd co od wo pek nk tdk ysk lak rik kdk dyk ndk cok odk wok) h0 rfl 0 rfl (Nat.le_of_ble_eq_true rfl) dX5_become_13 rfl rfl ?_
  refine r_aln C dX5_become_16 rfl 0 rfl ?_
  refine r_aln C dX5_become_17 rfl 1 rfl ?_
  refine gf_X5_18 C 7 rfl rfl dX5_become_18 ?_
  refine pf_X5_18 C (ws2 := wYY D h a1 a2 a3 a4 a5 a6 k0 k1 k2 k3 k4 k5 k6 pek nk tdk ys la ri kd dy nd co od wo pek nk tdk ysk lak rik kdk dyk ndk cok odk wok) h0 rfl 0 rfl (Nat.le_of_ble_eq_true rfl) dX5_become_21 rfl rfl ?_
  refine r_aln C dX5_become_24 rfl 0 rfl ?_
  refine r_aln C dX5_become_25 rfl 1 rfl ?_
  refine gf_X5_21 C 7 rfl rfl dX5_become_26 ?_
  refine pf_X5_21 C (ws2 := wYY D h a1 a2 a3 a4 a5 a6 k0 k1 k2 k3 k4 k5 k6 pek nk tdk ysk la ri kd dy nd co od wo pek nk tdk ysk lak rik kdk dyk ndk cok odk wok) h0 rfl 0 rfl (Nat.le_of_ble_eq_true rfl) dX5_become_29 rfl rfl ?_
  refine r_aln C dX5_become_32 rfl 0 rfl ?_
  refine r_aln C dX5_become_33 rfl 1 rfl ?_
  refine gf_X5_24 C 7 rfl rfl dX5_become_34 ?_
  refine pf_X5_24 C (ws2 := wYY D h a1 a2 a3 a4 a5 a6 k0 k1 k2 k3 k4 k5 k6 pek nk tdk ysk lak ri kd dy nd co od wo pek nk tdk ysk lak rik kdk dyk ndk cok odk wok) h0 rfl 0 rfl (Nat.le_of_ble_eq_true rfl) dX5_become_37 rfl rfl ?_
  refine r_aln C dX5_become_40 rfl 0 rfl ?_
  refine r_aln C dX5_become_41 rfl 1 rfl ?_
  refine gf_X5_27 C 7 rfl rfl dX5_become_42 ?_
  refine pf_X5_27 C (ws2 := wYY D h a1 a2 a3 a4 a5 a6 k0 k1 k2 k3 k4 k5 k6 pek nk tdk ysk lak rik kd dy nd co od wo pek nk tdk ysk lak rik kdk dyk ndk cok odk wok) h0 rfl 0 rfl (Nat.le_of_ble_eq_true rfl) dX5_become_45 rfl rfl ?_
  refine r_aln C dX5_become_48 rfl 1 rfl ?_
  refine gf_X5_30 C 7 rfl rfl dX5_become_49 ?_
  refine r_ic C (v := (0 : Int32)) dX5_become_52 (by decide) ?_
  refine r_aln C dX5_become_53 rfl 0 rfl ?_
  refine gf_X5_30 C 0 rfl rfl dX5_become_54 ?_
  refine r_ic C (v := (0 : Int32)) dX5_become_57 (by decide) ?_
  refine r_bp C (v := (12 : Int32)) dX5_become_58 (by decide) ?_
  refine r_cpyi C (ws2 := wYY D h a1 a2 a3 a4 a5 a6 k0 k1 k2 k3 k4 k5 k6 pek nk tdk ysk lak rik (va_cpy kdk kd 0 0 12) dy nd co od wo pek nk tdk ysk lak rik kdk dyk ndk cok odk wok) wm_X5_49 h0 rfl 8 1 0 0 12 rfl rfl rfl rfl rfl (by omega) (by omega) (by decide) (by decide) (by decide) (by decide) dX5_become_60 rfl rfl ?_
  refine r_aln C dX5_become_63 rfl 1 rfl ?_
  refine gf_X5_34 C 7 rfl rfl dX5_become_64 ?_
  refine r_ic C (v := (0 : Int32)) dX5_become_67 (by decide) ?_
  refine r_aln C dX5_become_68 rfl 0 rfl ?_
  refine gf_X5_34 C 0 rfl rfl dX5_become_69 ?_
  refine r_ic C (v := (0 : Int32)) dX5_become_72 (by decide) ?_
  refine r_bp C (v := (12 : Int32)) dX5_become_73 (by decide) ?_
  refine r_cpyi C (ws2 := wYY D h a1 a2 a3 a4 a5 a6 k0 k1 k2 k3 k4 k5 k6 pek nk tdk ysk lak rik (va_cpy kdk kd 0 0 12) (va_cpy dyk dy 0 0 12) nd co od wo pek nk tdk ysk lak rik kdk dyk ndk cok odk wok) wm_X5_49 h0 rfl 9 2 0 0 12 rfl rfl rfl rfl rfl (by omega) (by omega) (by decide) (by decide) (by decide) (by decide) dX5_become_75 rfl rfl ?_
  refine r_aln C dX5_become_78 rfl 1 rfl ?_
  refine gf_X5_37 C 7 rfl rfl dX5_become_79 ?_
  refine r_ic C (v := (0 : Int32)) dX5_become_82 (by decide) ?_
  refine r_aln C dX5_become_83 rfl 0 rfl ?_
  refine gf_X5_37 C 0 rfl rfl dX5_become_84 ?_
  refine r_ic C (v := (0 : Int32)) dX5_become_87 (by decide) ?_
  refine r_bp C (v := (12 : Int32)) dX5_become_88 (by decide) ?_
  refine r_cpyi C (ws2 := wYY D h a1 a2 a3 a4 a5 a6 k0 k1 k2 k3 k4 k5 k6 pek nk tdk ysk lak rik (va_cpy kdk kd 0 0 12) (va_cpy dyk dy 0 0 12) (va_cpy ndk nd 0 0 12) co od wo pek nk tdk ysk lak rik kdk dyk ndk cok odk wok) wm_X5_49 h0 rfl 10 3 0 0 12 rfl rfl rfl rfl rfl (by omega) (by omega) (by decide) (by decide) (by decide) (by decide) dX5_become_90 rfl rfl ?_
  refine r_aln C dX5_become_93 rfl 1 rfl ?_
  refine gf_X5_40 C 7 rfl rfl dX5_become_94 ?_
  refine r_ic C (v := (0 : Int32)) dX5_become_97 (by decide) ?_
  refine r_aln C dX5_become_98 rfl 0 rfl ?_
  refine gf_X5_40 C 0 rfl rfl dX5_become_99 ?_
  refine r_ic C (v := (0 : Int32)) dX5_become_102 (by decide) ?_
  refine r_bp C (v := (12 : Int32)) dX5_become_103 (by decide) ?_
  refine r_cpyi C (ws2 := wYY D h a1 a2 a3 a4 a5 a6 k0 k1 k2 k3 k4 k5 k6 pek nk tdk ysk lak rik (va_cpy kdk kd 0 0 12) (va_cpy dyk dy 0 0 12) (va_cpy ndk nd 0 0 12) (va_cpy cok co 0 0 12) od wo pek nk tdk ysk lak rik kdk dyk ndk cok odk wok) wm_X5_49 h0 rfl 11 4 0 0 12 rfl rfl rfl rfl rfl (by omega) (by omega) (by decide) (by decide) (by decide) (by decide) dX5_become_105 rfl rfl ?_
  refine r_aln C dX5_become_108 rfl 1 rfl ?_
  refine gf_X5_43 C 7 rfl rfl dX5_become_109 ?_
  refine r_ic C (v := (0 : Int32)) dX5_become_112 (by decide) ?_
  refine r_aln C dX5_become_113 rfl 0 rfl ?_
  refine gf_X5_43 C 0 rfl rfl dX5_become_114 ?_
  refine r_ic C (v := (0 : Int32)) dX5_become_117 (by decide) ?_
  refine r_bp C (v := (12 : Int32)) dX5_become_118 (by decide) ?_
  refine r_cpyi C (ws2 := wYY D h a1 a2 a3 a4 a5 a6 k0 k1 k2 k3 k4 k5 k6 pek nk tdk ysk lak rik (va_cpy kdk kd 0 0 12) (va_cpy dyk dy 0 0 12) (va_cpy ndk nd 0 0 12) (va_cpy cok co 0 0 12) (va_cpy odk od 0 0 12) wo pek nk tdk ysk lak rik kdk dyk ndk cok odk wok) wm_X5_49 h0 rfl 12 5 0 0 12 rfl rfl rfl rfl rfl (by omega) (by omega) (by decide) (by decide) (by decide) (by decide) dX5_become_120 rfl rfl ?_
  refine r_aln C dX5_become_123 rfl 1 rfl ?_
  refine gf_X5_46 C 7 rfl rfl dX5_become_124 ?_
  refine r_ic C (v := (0 : Int32)) dX5_become_127 (by decide) ?_
  refine r_aln C dX5_become_128 rfl 0 rfl ?_
  refine gf_X5_46 C 0 rfl rfl dX5_become_129 ?_
  refine r_ic C (v := (0 : Int32)) dX5_become_132 (by decide) ?_
  refine r_bp C (v := (48 : Int32)) dX5_become_133 (by decide) ?_
  refine r_cpyi C (ws2 := wYY D h a1 a2 a3 a4 a5 a6 k0 k1 k2 k3 k4 k5 k6 pek nk tdk ysk lak rik (va_cpy kdk kd 0 0 12) (va_cpy dyk dy 0 0 12) (va_cpy ndk nd 0 0 12) (va_cpy cok co 0 0 12) (va_cpy odk od 0 0 12) (va_cpy wok wo 0 0 48) pek nk tdk ysk lak rik kdk dyk ndk cok odk wok) wm_X5_49 h0 rfl 13 6 0 0 48 rfl rfl rfl rfl rfl (by omega) (by omega) (by decide) (by decide) (by decide) (by decide) dX5_become_135 rfl rfl ?_
  exact r_vret rfl C (by rw [← hv]) dX5_become_138

def s_X6_people (pe : Nat) (m : Int32) : Int32 × Nat := (if m < (1 : Int32) then ((-1 : Int32), pe) else (if (4 : Int32) < m then ((-1 : Int32), pe) else (nI pe, m.toNatClampNeg)))
set_option maxHeartbeats 8000000 in
set_option maxRecDepth 100000 in
theorem c_X6_people (l : Launch) (D : va_G) (b : Nat) (h : Nat) (a1 : Nat) (a2 : Nat) (a3 : Nat) (a4 : Nat) (a5 : Nat) (a6 : Nat) (k0 : Nat) (g0 : Nat) (t0 : Nat) (s0 : Nat) (u1 : Nat) (u2 : Nat) (u3 : Nat) (pe : Nat) (n : Nat) (td : Int32) (ys : Int32) (la : Int32) (ri : Int32) (kd : Nat → Int32) (dy : Nat → Int32) (nd : Nat → Int32) (co : Nat → Int32) (od : Nat → Int32) (wo : Nat → Int32) (im : Int32) (m : Int32) (h0 : va_D (fun _ => True) (wBN D b h a1 a2 a3 a4 a5 a6 k0 g0 t0 s0 u1 u2 u3 pe n td ys la ri kd dy nd co od wo im)) : ct l yX6_people cX6_people 3 (some .int) 0 0 D [.ref b, .int m] (wBN D b h a1 a2 a3 a4 a5 a6 k0 g0 t0 s0 u1 u2 u3 pe n td ys la ri kd dy nd co od wo im) (wBN D b h a1 a2 a3 a4 a5 a6 k0 g0 t0 s0 u1 u2 u3 (s_X6_people pe m).2 n td ys la ri kd dy nd co od wo im) (Ad (wBN D b h a1 a2 a3 a4 a5 a6 k0 g0 t0 s0 u1 u2 u3 pe n td ys la ri kd dy nd co od wo im)) (some (Value.int (s_X6_people pe m).1)) := by
  obtain ⟨V, hv⟩ : ∃ V, s_X6_people pe m = V := ⟨_, rfl⟩
  rw [hv]
  refine ct_intro (own := RX6) (lv := [(0, .ref b), (1, .int m)]) (by decide) rfl (Nat.le_of_ble_eq_true rfl) rfl ?_
  intro p_ e_ s_ m_ below_ meth_ c_ C
  have hv : (if m < (1 : Int32) then ((-1 : Int32), pe) else (if (4 : Int32) < m then ((-1 : Int32), pe) else (nI pe, m.toNatClampNeg))) = V := hv
  refine r_iln C dX6_people_0 rfl 1 rfl ?_
  refine r_ic C (v := (1 : Int32)) dX6_people_1 (by decide) ?_
  refine r_iclt C (tgt := 10) dX6_people_2 (by decide) (fun c1 => ?_) (fun c1 => ?_)
  · rw [if_pos c1] at hv
    refine r_ic C (v := (-1 : Int32)) dX6_people_10 (by decide) ?_
    exact r_iret rfl C (by rw [← hv]) (by rw [← hv]) dX6_people_11
  · rw [if_neg c1] at hv
    refine r_iln C dX6_people_5 rfl 1 rfl ?_
    refine r_ic C (v := (4 : Int32)) dX6_people_6 (by decide) ?_
    refine r_icle C (tgt := 12) dX6_people_7 (by decide) (fun c2 => ?_) (fun c2 => ?_)
    · rw [if_neg c2] at hv
      have e3 := p4_nat (by assumption) c2
      refine r_aln C dX6_people_12 rfl 0 rfl ?_
      refine gf_X6_10 C 0 rfl rfl dX6_people_13 ?_
      refine gf_X6_50 C 1 rfl rfl dX6_people_16 ?_
      refine r_isn C (lv' := [(2, .int (nI pe)), (0, .ref b), (1, .int m)]) dX6_people_19 rfl (by decide) rfl ?_
      refine r_aln C dX6_people_20 rfl 1 rfl ?_
      refine gf_X6_10 C 0 rfl rfl dX6_people_21 ?_
      refine r_iln C dX6_people_24 rfl 2 rfl ?_
      refine r_top e3.1 ?_
      refine pf_X6_50 C (ws2 := wBN D b h a1 a2 a3 a4 a5 a6 k0 g0 t0 s0 u1 u2 u3 m.toNatClampNeg n td ys la ri kd dy nd co od wo im) h0 rfl 1 rfl (Nat.le_of_ble_eq_true rfl) dX6_people_25 rfl rfl ?_
      refine r_iln C dX6_people_28 rfl 0 rfl ?_
      exact r_iret rfl C (by rw [← hv]) (by rw [← hv]) dX6_people_29
    · rw [if_pos c2] at hv
      refine r_ic C (v := (-1 : Int32)) dX6_people_10 (by decide) ?_
      exact r_iret rfl C (by rw [← hv]) (by rw [← hv]) dX6_people_11

def s_X6_deed (n : Nat) (kd : Nat → Int32) (dy : Nat → Int32) (nd : Nat → Int32) (co : Nat → Int32) (od : Nat → Int32) (wo : Nat → Int32) (kind : Int32) (day : Int32) (need : Int32) : Int32 × Nat × (Nat → Int32) × (Nat → Int32) × (Nat → Int32) × (Nat → Int32) × (Nat → Int32) × (Nat → Int32) := (if kind < (0 : Int32) then ((-1 : Int32), n, kd, dy, nd, co, od, wo) else (if (3 : Int32) < kind then ((-1 : Int32), n, kd, dy, nd, co, od, wo) else (if s_X6_isDay day = (0 : Int32) then ((-1 : Int32), n, kd, dy, nd, co, od, wo) else (if s_X6_isWithin need (s_X5_needable dy n day) = (0 : Int32) then ((-1 : Int32), n, kd, dy, nd, co, od, wo) else (if (s_X5_add n kd dy nd co od wo kind day need).1 = (0 : Int32) then ((-3 : Int32), (s_X5_add n kd dy nd co od wo kind day need).2.1, (s_X5_add n kd dy nd co od wo kind day need).2.2.1, (s_X5_add n kd dy nd co od wo kind day need).2.2.2.1, (s_X5_add n kd dy nd co od wo kind day need).2.2.2.2.1, (s_X5_add n kd dy nd co od wo kind day need).2.2.2.2.2.1, (s_X5_add n kd dy nd co od wo kind day need).2.2.2.2.2.2.1, (s_X5_add n kd dy nd co od wo kind day need).2.2.2.2.2.2.2) else ((nI ((s_X5_add n kd dy nd co od wo kind day need).2.1)) - (1 : Int32), (s_X5_add n kd dy nd co od wo kind day need).2.1, (s_X5_add n kd dy nd co od wo kind day need).2.2.1, (s_X5_add n kd dy nd co od wo kind day need).2.2.2.1, (s_X5_add n kd dy nd co od wo kind day need).2.2.2.2.1, (s_X5_add n kd dy nd co od wo kind day need).2.2.2.2.2.1, (s_X5_add n kd dy nd co od wo kind day need).2.2.2.2.2.2.1, (s_X5_add n kd dy nd co od wo kind day need).2.2.2.2.2.2.2))))))
set_option maxHeartbeats 8000000 in
set_option maxRecDepth 100000 in
theorem c_X6_deed (l : Launch) (D : va_G) (b : Nat) (h : Nat) (a1 : Nat) (a2 : Nat) (a3 : Nat) (a4 : Nat) (a5 : Nat) (a6 : Nat) (k0 : Nat) (g0 : Nat) (t0 : Nat) (s0 : Nat) (u1 : Nat) (u2 : Nat) (u3 : Nat) (pe : Nat) (n : Nat) (td : Int32) (ys : Int32) (la : Int32) (ri : Int32) (kd : Nat → Int32) (dy : Nat → Int32) (nd : Nat → Int32) (co : Nat → Int32) (od : Nat → Int32) (wo : Nat → Int32) (im : Int32) (kind : Int32) (day : Int32) (need : Int32) (hn : n ≤ 12) (h0 : va_D (fun _ => True) (wBN D b h a1 a2 a3 a4 a5 a6 k0 g0 t0 s0 u1 u2 u3 pe n td ys la ri kd dy nd co od wo im)) : ct l yX6_deed cX6_deed 4 (some .int) 1 24 D [.ref b, .int kind, .int day, .int need] (wBN D b h a1 a2 a3 a4 a5 a6 k0 g0 t0 s0 u1 u2 u3 pe n td ys la ri kd dy nd co od wo im) (wBN D b h a1 a2 a3 a4 a5 a6 k0 g0 t0 s0 u1 u2 u3 pe (s_X6_deed n kd dy nd co od wo kind day need).2.1 td ys la ri (s_X6_deed n kd dy nd co od wo kind day need).2.2.1 (s_X6_deed n kd dy nd co od wo kind day need).2.2.2.1 (s_X6_deed n kd dy nd co od wo kind day need).2.2.2.2.1 (s_X6_deed n kd dy nd co od wo kind day need).2.2.2.2.2.1 (s_X6_deed n kd dy nd co od wo kind day need).2.2.2.2.2.2.1 (s_X6_deed n kd dy nd co od wo kind day need).2.2.2.2.2.2.2 im) (Ad (wBN D b h a1 a2 a3 a4 a5 a6 k0 g0 t0 s0 u1 u2 u3 pe n td ys la ri kd dy nd co od wo im)) (some (Value.int (s_X6_deed n kd dy nd co od wo kind day need).1)) := by
  obtain ⟨V, hv⟩ : ∃ V, s_X6_deed n kd dy nd co od wo kind day need = V := ⟨_, rfl⟩
  rw [hv]
  refine ct_intro (own := RX6) (lv := [(0, .ref b), (1, .int kind), (2, .int day), (3, .int need)]) (by decide) rfl (Nat.le_of_ble_eq_true rfl) rfl ?_
  intro p_ e_ s_ m_ below_ meth_ c_ C
  have hv : (if kind < (0 : Int32) then ((-1 : Int32), n, kd, dy, nd, co, od, wo) else (if (3 : Int32) < kind then ((-1 : Int32), n, kd, dy, nd, co, od, wo) else (if s_X6_isDay day = (0 : Int32) then ((-1 : Int32), n, kd, dy, nd, co, od, wo) else (if s_X6_isWithin need (s_X5_needable dy n day) = (0 : Int32) then ((-1 : Int32), n, kd, dy, nd, co, od, wo) else (if (s_X5_add n kd dy nd co od wo kind day need).1 = (0 : Int32) then ((-3 : Int32), (s_X5_add n kd dy nd co od wo kind day need).2.1, (s_X5_add n kd dy nd co od wo kind day need).2.2.1, (s_X5_add n kd dy nd co od wo kind day need).2.2.2.1, (s_X5_add n kd dy nd co od wo kind day need).2.2.2.2.1, (s_X5_add n kd dy nd co od wo kind day need).2.2.2.2.2.1, (s_X5_add n kd dy nd co od wo kind day need).2.2.2.2.2.2.1, (s_X5_add n kd dy nd co od wo kind day need).2.2.2.2.2.2.2) else ((nI ((s_X5_add n kd dy nd co od wo kind day need).2.1)) - (1 : Int32), (s_X5_add n kd dy nd co od wo kind day need).2.1, (s_X5_add n kd dy nd co od wo kind day need).2.2.1, (s_X5_add n kd dy nd co od wo kind day need).2.2.2.1, (s_X5_add n kd dy nd co od wo kind day need).2.2.2.2.1, (s_X5_add n kd dy nd co od wo kind day need).2.2.2.2.2.1, (s_X5_add n kd dy nd co od wo kind day need).2.2.2.2.2.2.1, (s_X5_add n kd dy nd co od wo kind day need).2.2.2.2.2.2.2)))))) = V := hv
  refine r_iln C dX6_deed_0 rfl 1 rfl ?_
  refine r_iflt C (tgt := 38) dX6_deed_1 (by decide) (fun c1 => ?_) (fun c1 => ?_)
  · rw [if_pos c1] at hv
    refine r_ic C (v := (-1 : Int32)) dX6_deed_38 (by decide) ?_
    exact r_iret rfl C (by rw [← hv]) (by rw [← hv]) dX6_deed_39
  · rw [if_neg c1] at hv
    refine r_iln C dX6_deed_4 rfl 1 rfl ?_
    refine r_ic C (v := (3 : Int32)) dX6_deed_5 (by decide) ?_
    refine r_icgt C (tgt := 38) dX6_deed_6 (by decide) (fun c2 => ?_) (fun c2 => ?_)
    · rw [if_pos c2] at hv
      refine r_ic C (v := (-1 : Int32)) dX6_deed_38 (by decide) ?_
      exact r_iret rfl C (by rw [← hv]) (by rw [← hv]) dX6_deed_39
    · rw [if_neg c2] at hv
      refine r_iln C dX6_deed_9 rfl 2 rfl ?_
      refine aft_rd (st' := [.int (s_X6_isDay day)]) (run_S (rest := []) C (c_X6_isDay l D day ) ok_X6_isDay ws_X6_isDay wm_X6_54 [] rfl ⟨Nat.le_of_ble_eq_true rfl, Nat.le_of_ble_eq_true rfl⟩ rfl rfl (Nat.le_of_ble_eq_true rfl) dX6_deed_10) rfl ?_
      refine r_ifeq C (tgt := 38) dX6_deed_13 (by decide) (fun c3 => ?_) (fun c3 => ?_)
      · rw [if_pos c3] at hv
        refine r_ic C (v := (-1 : Int32)) dX6_deed_38 (by decide) ?_
        exact r_iret rfl C (by rw [← hv]) (by rw [← hv]) dX6_deed_39
      · rw [if_neg c3] at hv
        refine r_iln C dX6_deed_16 rfl 3 rfl ?_
        refine r_aln C dX6_deed_17 rfl 0 rfl ?_
        refine gf_X6_10 C 0 rfl rfl dX6_deed_18 ?_
        refine r_aln C dX6_deed_21 rfl 0 rfl ?_
        refine gf_X6_10 C 0 rfl rfl dX6_deed_22 ?_
        refine gf_X6_58 C 1 rfl rfl dX6_deed_25 ?_
        refine r_iln C dX6_deed_28 rfl 2 rfl ?_
        refine aft_rd (st' := [.int (s_X5_needable dy n day), .int need]) (run_VN (rest := [.int need]) C (c_X5_needable l D h a1 a2 a3 a4 a5 a6 pe n td ys la ri kd dy nd co od wo n day (by omega) (by omega)) ok_X5_needable wn_X5_needable wl_X5_needable wm_X6_61 [1, 2, 3, 4, 5, 6, 7] 0 rfl rfl rfl ⟨Nat.le_of_ble_eq_true rfl, Nat.le_of_ble_eq_true rfl⟩ rfl rfl (Nat.le_of_ble_eq_true rfl) dX6_deed_29) rfl ?_
        refine aft_rd (st' := [.int (s_X6_isWithin need (s_X5_needable dy n day))]) (run_S (rest := []) C (c_X6_isWithin l D need (s_X5_needable dy n day) ) ok_X6_isWithin ws_X6_isWithin wm_X6_65 [] rfl ⟨Nat.le_of_ble_eq_true rfl, Nat.le_of_ble_eq_true rfl⟩ rfl rfl (Nat.le_of_ble_eq_true rfl) dX6_deed_32) rfl ?_
        refine r_ifne C (tgt := 40) dX6_deed_35 (by decide) (fun c4 => ?_) (fun c4 => ?_)
        · rw [if_neg c4] at hv
          refine r_aln C dX6_deed_40 rfl 0 rfl ?_
          refine gf_X6_10 C 0 rfl rfl dX6_deed_41 ?_
          refine r_iln C dX6_deed_44 rfl 1 rfl ?_
          refine r_iln C dX6_deed_45 rfl 2 rfl ?_
          refine r_iln C dX6_deed_46 rfl 3 rfl ?_
          refine aft_wr (ws2 := wBN D b h a1 a2 a3 a4 a5 a6 k0 g0 t0 s0 u1 u2 u3 pe ((s_X5_add n kd dy nd co od wo kind day need).2.1) td ys la ri ((s_X5_add n kd dy nd co od wo kind day need).2.2.1) ((s_X5_add n kd dy nd co od wo kind day need).2.2.2.1) ((s_X5_add n kd dy nd co od wo kind day need).2.2.2.2.1) ((s_X5_add n kd dy nd co od wo kind day need).2.2.2.2.2.1) ((s_X5_add n kd dy nd co od wo kind day need).2.2.2.2.2.2.1) ((s_X5_add n kd dy nd co od wo kind day need).2.2.2.2.2.2.2) im) (st' := [.int ((s_X5_add n kd dy nd co od wo kind day need).1)]) h0 rfl [1, 2, 3, 4, 5, 6, 7] (run_VN (rest := []) C (c_X5_add l D h a1 a2 a3 a4 a5 a6 pe n td ys la ri kd dy nd co od wo kind day need (by omega) (dis_sub h0 [1, 2, 3, 4, 5, 6, 7] (by decide) rfl)) ok_X5_add wn_X5_add wl_X5_add wm_X6_69 [1, 2, 3, 4, 5, 6, 7] 0 rfl rfl rfl ⟨Nat.le_of_ble_eq_true rfl, Nat.le_of_ble_eq_true rfl⟩ rfl rfl (Nat.le_of_ble_eq_true rfl) dX6_deed_47) rfl rfl rfl rfl rfl ?_
          refine r_ifeq C (tgt := 65) dX6_deed_50 (by decide) (fun c5 => ?_) (fun c5 => ?_)
          · rw [if_pos c5] at hv
            refine r_bp C (v := (-3 : Int32)) dX6_deed_65 (by decide) ?_
            exact r_iret rfl C (by rw [← hv]) (by rw [← hv]) dX6_deed_67
          · rw [if_neg c5] at hv
            refine r_aln C dX6_deed_53 rfl 0 rfl ?_
            refine gf_X6_10 C 0 rfl rfl dX6_deed_54 ?_
            refine gf_X6_58 C 1 rfl rfl dX6_deed_57 ?_
            refine r_ic C (v := (1 : Int32)) dX6_deed_60 (by decide) ?_
            refine r_isub C dX6_deed_61 ?_
            refine r_goto C (tgt := 67) dX6_deed_62 (by decide) ?_
            exact r_iret rfl C (by rw [← hv]) (by rw [← hv]) dX6_deed_67
        · rw [if_pos c4] at hv
          refine r_ic C (v := (-1 : Int32)) dX6_deed_38 (by decide) ?_
          exact r_iret rfl C (by rw [← hv]) (by rw [← hv]) dX6_deed_39

def s_X6_told (n : Nat) (la : Int32) (ri : Int32) (kd : Nat → Int32) (dy : Nat → Int32) (nd : Nat → Int32) (co : Nat → Int32) (od : Nat → Int32) (deed : Int32) (what : Int32) : Int32 := (if s_X5_has n deed = (0 : Int32) then (-1 : Int32) else (if what = (0 : Int32) then kd deed.toNatClampNeg else (if what = (1 : Int32) then dy deed.toNatClampNeg else (if what = (2 : Int32) then nd deed.toNatClampNeg else (if what = (3 : Int32) then co deed.toNatClampNeg else (if what = (4 : Int32) then od deed.toNatClampNeg else (if what = (5 : Int32) then (if s_X6_isIn (s_X5_standing n la kd nd ri) deed = (0 : Int32) then (0 : Int32) else (1 : Int32)) else (if what = (6 : Int32) then (if s_X6_isIn ri deed = (0 : Int32) then (0 : Int32) else (1 : Int32)) else (-1 : Int32)))))))))
set_option maxHeartbeats 8000000 in
set_option maxRecDepth 100000 in
theorem c_X6_told (l : Launch) (D : va_G) (b : Nat) (h : Nat) (a1 : Nat) (a2 : Nat) (a3 : Nat) (a4 : Nat) (a5 : Nat) (a6 : Nat) (k0 : Nat) (g0 : Nat) (t0 : Nat) (s0 : Nat) (u1 : Nat) (u2 : Nat) (u3 : Nat) (pe : Nat) (n : Nat) (td : Int32) (ys : Int32) (la : Int32) (ri : Int32) (kd : Nat → Int32) (dy : Nat → Int32) (nd : Nat → Int32) (co : Nat → Int32) (od : Nat → Int32) (wo : Nat → Int32) (im : Int32) (deed : Int32) (what : Int32) (hn : n ≤ 12) : ct l yX6_told cX6_told 3 (some .int) 3 69 D [.ref b, .int deed, .int what] (wBN D b h a1 a2 a3 a4 a5 a6 k0 g0 t0 s0 u1 u2 u3 pe n td ys la ri kd dy nd co od wo im) (wBN D b h a1 a2 a3 a4 a5 a6 k0 g0 t0 s0 u1 u2 u3 pe n td ys la ri kd dy nd co od wo im) (fun _ => False) (some (Value.int (s_X6_told n la ri kd dy nd co od deed what))) := by
  obtain ⟨V, hv⟩ : ∃ V, s_X6_told n la ri kd dy nd co od deed what = V := ⟨_, rfl⟩
  rw [hv]
  refine ct_intro (own := RX6) (lv := [(0, .ref b), (1, .int deed), (2, .int what)]) (by decide) rfl (Nat.le_of_ble_eq_true rfl) rfl ?_
  intro p_ e_ s_ m_ below_ meth_ c_ C
  have hv : (if s_X5_has n deed = (0 : Int32) then (-1 : Int32) else (if what = (0 : Int32) then kd deed.toNatClampNeg else (if what = (1 : Int32) then dy deed.toNatClampNeg else (if what = (2 : Int32) then nd deed.toNatClampNeg else (if what = (3 : Int32) then co deed.toNatClampNeg else (if what = (4 : Int32) then od deed.toNatClampNeg else (if what = (5 : Int32) then (if s_X6_isIn (s_X5_standing n la kd nd ri) deed = (0 : Int32) then (0 : Int32) else (1 : Int32)) else (if what = (6 : Int32) then (if s_X6_isIn ri deed = (0 : Int32) then (0 : Int32) else (1 : Int32)) else (-1 : Int32))))))))) = V := hv
  refine r_aln C dX6_told_0 rfl 0 rfl ?_
  refine gf_X6_10 C 0 rfl rfl dX6_told_1 ?_
  refine r_iln C dX6_told_4 rfl 1 rfl ?_
  refine aft_rd (st' := [.int (s_X5_has n deed)]) (run_VN (rest := []) C (c_X5_has l D h a1 a2 a3 a4 a5 a6 pe n td ys la ri kd dy nd co od wo deed ) ok_X5_has wn_X5_has wl_X5_has wm_X6_73 [1, 2, 3, 4, 5, 6, 7] 0 rfl rfl rfl ⟨Nat.le_of_ble_eq_true rfl, Nat.le_of_ble_eq_true rfl⟩ rfl rfl (Nat.le_of_ble_eq_true rfl) dX6_told_5) rfl ?_
  refine r_ifne C (tgt := 13) dX6_told_8 (by decide) (fun c1 => ?_) (fun c1 => ?_)
  · rw [if_neg c1] at hv
    have e2 := has_nat hn c1
    refine r_iln C dX6_told_13 rfl 2 rfl ?_
    by_cases c3 : what = (0 : Int32)
    · rw [if_pos c3] at hv
      refine r_tabIn C (tgt := 56) dX6_told_14 (by rw [c3]; decide) (by rw [c3]; decide) (by rw [c3]; rfl) (by decide) ?_
      refine r_aln C dX6_told_56 rfl 0 rfl ?_
      refine gf_X6_10 C 0 rfl rfl dX6_told_57 ?_
      refine gf_X6_76 C 1 rfl rfl dX6_told_60 ?_
      refine r_iln C dX6_told_63 rfl 1 rfl ?_
      refine r_iald C 2 deed.toNatClampNeg rfl e2.1 (by omega) (by decide) rfl dX6_told_64 ?_
      exact r_iret rfl C (congrArg (fun z => some (Value.int z)) hv) rfl dX6_told_65
    · rw [if_neg c3] at hv
      by_cases c4 : what = (1 : Int32)
      · rw [if_pos c4] at hv
        refine r_tabIn C (tgt := 66) dX6_told_14 (by rw [c4]; decide) (by rw [c4]; decide) (by rw [c4]; rfl) (by decide) ?_
        refine r_aln C dX6_told_66 rfl 0 rfl ?_
        refine gf_X6_10 C 0 rfl rfl dX6_told_67 ?_
        refine gf_X6_79 C 1 rfl rfl dX6_told_70 ?_
        refine r_iln C dX6_told_73 rfl 1 rfl ?_
        refine r_iald C 3 deed.toNatClampNeg rfl e2.1 (by omega) (by decide) rfl dX6_told_74 ?_
        exact r_iret rfl C (congrArg (fun z => some (Value.int z)) hv) rfl dX6_told_75
      · rw [if_neg c4] at hv
        by_cases c5 : what = (2 : Int32)
        · rw [if_pos c5] at hv
          refine r_tabIn C (tgt := 76) dX6_told_14 (by rw [c5]; decide) (by rw [c5]; decide) (by rw [c5]; rfl) (by decide) ?_
          refine r_aln C dX6_told_76 rfl 0 rfl ?_
          refine gf_X6_10 C 0 rfl rfl dX6_told_77 ?_
          refine gf_X6_82 C 1 rfl rfl dX6_told_80 ?_
          refine r_iln C dX6_told_83 rfl 1 rfl ?_
          refine r_iald C 4 deed.toNatClampNeg rfl e2.1 (by omega) (by decide) rfl dX6_told_84 ?_
          exact r_iret rfl C (congrArg (fun z => some (Value.int z)) hv) rfl dX6_told_85
        · rw [if_neg c5] at hv
          by_cases c6 : what = (3 : Int32)
          · rw [if_pos c6] at hv
            refine r_tabIn C (tgt := 86) dX6_told_14 (by rw [c6]; decide) (by rw [c6]; decide) (by rw [c6]; rfl) (by decide) ?_
            refine r_aln C dX6_told_86 rfl 0 rfl ?_
            refine gf_X6_10 C 0 rfl rfl dX6_told_87 ?_
            refine gf_X6_85 C 1 rfl rfl dX6_told_90 ?_
            refine r_iln C dX6_told_93 rfl 1 rfl ?_
            refine r_iald C 5 deed.toNatClampNeg rfl e2.1 (by omega) (by decide) rfl dX6_told_94 ?_
            exact r_iret rfl C (congrArg (fun z => some (Value.int z)) hv) rfl dX6_told_95
          · rw [if_neg c6] at hv
            by_cases c7 : what = (4 : Int32)
            · rw [if_pos c7] at hv
              refine r_tabIn C (tgt := 96) dX6_told_14 (by rw [c7]; decide) (by rw [c7]; decide) (by rw [c7]; rfl) (by decide) ?_
              refine r_aln C dX6_told_96 rfl 0 rfl ?_
              refine gf_X6_10 C 0 rfl rfl dX6_told_97 ?_
              refine gf_X6_88 C 1 rfl rfl dX6_told_100 ?_
              refine r_iln C dX6_told_103 rfl 1 rfl ?_
              refine r_iald C 6 deed.toNatClampNeg rfl e2.1 (by omega) (by decide) rfl dX6_told_104 ?_
              exact r_iret rfl C (congrArg (fun z => some (Value.int z)) hv) rfl dX6_told_105
            · rw [if_neg c7] at hv
              by_cases c8 : what = (5 : Int32)
              · rw [if_pos c8] at hv
                refine r_tabIn C (tgt := 106) dX6_told_14 (by rw [c8]; decide) (by rw [c8]; decide) (by rw [c8]; rfl) (by decide) ?_
                refine r_aln C dX6_told_106 rfl 0 rfl ?_
                refine gf_X6_10 C 0 rfl rfl dX6_told_107 ?_
                refine r_aln C dX6_told_110 rfl 0 rfl ?_
                refine gf_X6_10 C 0 rfl rfl dX6_told_111 ?_
                refine gf_X6_91 C 1 rfl rfl dX6_told_114 ?_
                refine aft_rd (st' := [.int (s_X5_standing n la kd nd ri)]) (run_VN (rest := []) C (c_X5_standing l D h a1 a2 a3 a4 a5 a6 pe n td ys la ri kd dy nd co od wo ri (by omega)) ok_X5_standing wn_X5_standing wl_X5_standing wm_X6_94 [1, 2, 3, 4, 5, 6, 7] 0 rfl rfl rfl ⟨Nat.le_of_ble_eq_true rfl, Nat.le_of_ble_eq_true rfl⟩ rfl rfl (Nat.le_of_ble_eq_true rfl) dX6_told_117) rfl ?_
                refine r_iln C dX6_told_120 rfl 1 rfl ?_
                refine aft_rd (st' := [.int (s_X6_isIn (s_X5_standing n la kd nd ri) deed)]) (run_S (rest := []) C (c_X6_isIn l D (s_X5_standing n la kd nd ri) deed ) ok_X6_isIn ws_X6_isIn wm_X6_98 [] rfl ⟨Nat.le_of_ble_eq_true rfl, Nat.le_of_ble_eq_true rfl⟩ rfl rfl (Nat.le_of_ble_eq_true rfl) dX6_told_121) rfl ?_
                refine r_ifeq C (tgt := 131) dX6_told_124 (by decide) (fun c9 => ?_) (fun c9 => ?_)
                · rw [if_pos c9] at hv
                  refine r_ic C (v := (0 : Int32)) dX6_told_131 (by decide) ?_
                  exact r_iret rfl C (congrArg (fun z => some (Value.int z)) hv) rfl dX6_told_132
                · rw [if_neg c9] at hv
                  refine r_ic C (v := (1 : Int32)) dX6_told_127 (by decide) ?_
                  refine r_goto C (tgt := 132) dX6_told_128 (by decide) ?_
                  exact r_iret rfl C (congrArg (fun z => some (Value.int z)) hv) rfl dX6_told_132
              · rw [if_neg c8] at hv
                by_cases c10 : what = (6 : Int32)
                · rw [if_pos c10] at hv
                  refine r_tabIn C (tgt := 133) dX6_told_14 (by rw [c10]; decide) (by rw [c10]; decide) (by rw [c10]; rfl) (by decide) ?_
                  refine r_aln C dX6_told_133 rfl 0 rfl ?_
                  refine gf_X6_10 C 0 rfl rfl dX6_told_134 ?_
                  refine gf_X6_91 C 1 rfl rfl dX6_told_137 ?_
                  refine r_iln C dX6_told_140 rfl 1 rfl ?_
                  refine aft_rd (st' := [.int (s_X6_isIn ri deed)]) (run_S (rest := []) C (c_X6_isIn l D ri deed ) ok_X6_isIn ws_X6_isIn wm_X6_98 [] rfl ⟨Nat.le_of_ble_eq_true rfl, Nat.le_of_ble_eq_true rfl⟩ rfl rfl (Nat.le_of_ble_eq_true rfl) dX6_told_141) rfl ?_
                  refine r_ifeq C (tgt := 151) dX6_told_144 (by decide) (fun c11 => ?_) (fun c11 => ?_)
                  · rw [if_pos c11] at hv
                    refine r_ic C (v := (0 : Int32)) dX6_told_151 (by decide) ?_
                    exact r_iret rfl C (congrArg (fun z => some (Value.int z)) hv) rfl dX6_told_152
                  · rw [if_neg c11] at hv
                    refine r_ic C (v := (1 : Int32)) dX6_told_147 (by decide) ?_
                    refine r_goto C (tgt := 152) dX6_told_148 (by decide) ?_
                    exact r_iret rfl C (congrArg (fun z => some (Value.int z)) hv) rfl dX6_told_152
                · rw [if_neg c10] at hv
                  have nc3 : what.toInt ≠ 0 := fun z => c3 (i32_eq _ _ 0 (by decide) z)
                  have nc4 : what.toInt ≠ 1 := fun z => c4 (i32_eq _ _ 1 (by decide) z)
                  have nc5 : what.toInt ≠ 2 := fun z => c5 (i32_eq _ _ 2 (by decide) z)
                  have nc6 : what.toInt ≠ 3 := fun z => c6 (i32_eq _ _ 3 (by decide) z)
                  have nc7 : what.toInt ≠ 4 := fun z => c7 (i32_eq _ _ 4 (by decide) z)
                  have nc8 : what.toInt ≠ 5 := fun z => c8 (i32_eq _ _ 5 (by decide) z)
                  have nc10 : what.toInt ≠ 6 := fun z => c10 (i32_eq _ _ 6 (by decide) z)
                  refine r_tabOut C (tgt := 153) dX6_told_14 (by omega) (by decide) ?_
                  refine r_ic C (v := (-1 : Int32)) dX6_told_153 (by decide) ?_
                  exact r_iret rfl C (congrArg (fun z => some (Value.int z)) hv) rfl dX6_told_154
  · rw [if_pos c1] at hv
    refine r_ic C (v := (-1 : Int32)) dX6_told_11 (by decide) ?_
    exact r_iret rfl C (congrArg (fun z => some (Value.int z)) hv) rfl dX6_told_12

def s_X6_set (n : Nat) (co : Nat → Int32) (od : Nat → Int32) (deed : Int32) (what : Int32) (v : Int32) : Int32 × (Nat → Int32) × (Nat → Int32) := (if what = (0 : Int32) then (if s_X5_has n deed = (0 : Int32) then ((-1 : Int32), co, od) else (if s_X6_isChoice what = (0 : Int32) then ((-1 : Int32), co, od) else (if v < (0 : Int32) then ((-1 : Int32), co, od) else (if (9 : Int32) < v then ((-1 : Int32), co, od) else (co deed.toNatClampNeg, upd co deed.toNatClampNeg v, od))))) else (if s_X5_has n deed = (0 : Int32) then ((-1 : Int32), co, od) else (if s_X6_isChoice what = (0 : Int32) then ((-1 : Int32), co, od) else (if v < (0 : Int32) then ((-1 : Int32), co, od) else (if (4 : Int32) < v then ((-1 : Int32), co, od) else (od deed.toNatClampNeg, co, upd od deed.toNatClampNeg v))))))
set_option maxHeartbeats 8000000 in
set_option maxRecDepth 100000 in
theorem c_X6_set (l : Launch) (D : va_G) (b : Nat) (h : Nat) (a1 : Nat) (a2 : Nat) (a3 : Nat) (a4 : Nat) (a5 : Nat) (a6 : Nat) (k0 : Nat) (g0 : Nat) (t0 : Nat) (s0 : Nat) (u1 : Nat) (u2 : Nat) (u3 : Nat) (pe : Nat) (n : Nat) (td : Int32) (ys : Int32) (la : Int32) (ri : Int32) (kd : Nat → Int32) (dy : Nat → Int32) (nd : Nat → Int32) (co : Nat → Int32) (od : Nat → Int32) (wo : Nat → Int32) (im : Int32) (deed : Int32) (what : Int32) (v : Int32) (hn : n ≤ 12) (h0 : va_D (fun _ => True) (wBN D b h a1 a2 a3 a4 a5 a6 k0 g0 t0 s0 u1 u2 u3 pe n td ys la ri kd dy nd co od wo im)) : ct l yX6_set cX6_set 7 (some .int) 1 21 D [.ref b, .int deed, .int what, .int v] (wBN D b h a1 a2 a3 a4 a5 a6 k0 g0 t0 s0 u1 u2 u3 pe n td ys la ri kd dy nd co od wo im) (wBN D b h a1 a2 a3 a4 a5 a6 k0 g0 t0 s0 u1 u2 u3 pe n td ys la ri kd dy nd (s_X6_set n co od deed what v).2.1 (s_X6_set n co od deed what v).2.2 wo im) (Ad (wBN D b h a1 a2 a3 a4 a5 a6 k0 g0 t0 s0 u1 u2 u3 pe n td ys la ri kd dy nd co od wo im)) (some (Value.int (s_X6_set n co od deed what v).1)) := by
  obtain ⟨V, hv⟩ : ∃ V, s_X6_set n co od deed what v = V := ⟨_, rfl⟩
  rw [hv]
  refine ct_intro (own := RX6) (lv := [(0, .ref b), (1, .int deed), (2, .int what), (3, .int v)]) (by decide) rfl (Nat.le_of_ble_eq_true rfl) rfl ?_
  intro p_ e_ s_ m_ below_ meth_ c_ C
  have hv : (if what = (0 : Int32) then (if s_X5_has n deed = (0 : Int32) then ((-1 : Int32), co, od) else (if s_X6_isChoice what = (0 : Int32) then ((-1 : Int32), co, od) else (if v < (0 : Int32) then ((-1 : Int32), co, od) else (if (9 : Int32) < v then ((-1 : Int32), co, od) else (co deed.toNatClampNeg, upd co deed.toNatClampNeg v, od))))) else (if s_X5_has n deed = (0 : Int32) then ((-1 : Int32), co, od) else (if s_X6_isChoice what = (0 : Int32) then ((-1 : Int32), co, od) else (if v < (0 : Int32) then ((-1 : Int32), co, od) else (if (4 : Int32) < v then ((-1 : Int32), co, od) else (od deed.toNatClampNeg, co, upd od deed.toNatClampNeg v)))))) = V := hv
  refine r_iln C dX6_set_0 rfl 2 rfl ?_
  refine r_ifne C (tgt := 9) dX6_set_1 (by decide) (fun c1 => ?_) (fun c1 => ?_)
  · rw [if_neg c1] at hv
    refine r_ic C (v := (4 : Int32)) dX6_set_9 (by decide) ?_
    refine r_is C (lv' := [(4, .int (4 : Int32)), (0, .ref b), (1, .int deed), (2, .int what), (3, .int v)]) dX6_set_10 (by decide) rfl ?_
    refine r_aln C dX6_set_12 rfl 1 rfl ?_
    refine gf_X6_10 C 0 rfl rfl dX6_set_13 ?_
    refine r_iln C dX6_set_16 rfl 2 rfl ?_
    refine aft_rd (st' := [.int (s_X5_has n deed)]) (run_VN (rest := []) C (c_X5_has l D h a1 a2 a3 a4 a5 a6 pe n td ys la ri kd dy nd co od wo deed ) ok_X5_has wn_X5_has wl_X5_has wm_X6_73 [1, 2, 3, 4, 5, 6, 7] 0 rfl rfl rfl ⟨Nat.le_of_ble_eq_true rfl, Nat.le_of_ble_eq_true rfl⟩ rfl rfl (Nat.le_of_ble_eq_true rfl) dX6_set_17) rfl ?_
    refine r_ifeq C (tgt := 40) dX6_set_20 (by decide) (fun c2 => ?_) (fun c2 => ?_)
    · rw [if_pos c2] at hv
      refine r_ic C (v := (-1 : Int32)) dX6_set_40 (by decide) ?_
      exact r_iret rfl C (by rw [← hv]) (by rw [← hv]) dX6_set_41
    · rw [if_neg c2] at hv
      have e3 := has_nat hn c2
      refine r_iln C dX6_set_23 rfl 3 rfl ?_
      refine aft_rd (st' := [.int (s_X6_isChoice what)]) (run_S (rest := []) C (c_X6_isChoice l D what ) ok_X6_isChoice ws_X6_isChoice wm_X6_101 [] rfl ⟨Nat.le_of_ble_eq_true rfl, Nat.le_of_ble_eq_true rfl⟩ rfl rfl (Nat.le_of_ble_eq_true rfl) dX6_set_24) rfl ?_
      refine r_ifeq C (tgt := 40) dX6_set_27 (by decide) (fun c4 => ?_) (fun c4 => ?_)
      · rw [if_pos c4] at hv
        refine r_ic C (v := (-1 : Int32)) dX6_set_40 (by decide) ?_
        exact r_iret rfl C (by rw [← hv]) (by rw [← hv]) dX6_set_41
      · rw [if_neg c4] at hv
        refine r_iln C dX6_set_30 rfl 4 rfl ?_
        refine r_iflt C (tgt := 40) dX6_set_31 (by decide) (fun c5 => ?_) (fun c5 => ?_)
        · rw [if_pos c5] at hv
          refine r_ic C (v := (-1 : Int32)) dX6_set_40 (by decide) ?_
          exact r_iret rfl C (by rw [← hv]) (by rw [← hv]) dX6_set_41
        · rw [if_neg c5] at hv
          refine r_iln C dX6_set_34 rfl 4 rfl ?_
          refine r_il C dX6_set_35 0 rfl ?_
          refine r_icle C (tgt := 42) dX6_set_37 (by decide) (fun c6 => ?_) (fun c6 => ?_)
          · rw [if_neg c6] at hv
            refine r_iln C dX6_set_42 rfl 3 rfl ?_
            refine r_ifne C (tgt := 56) dX6_set_43 (by decide) (fun c7 => ?_) (fun c7 => ?_)
            · skip
              refine r_aln C dX6_set_56 rfl 1 rfl ?_
              refine gf_X6_10 C 0 rfl rfl dX6_set_57 ?_
              refine gf_X6_88 C 1 rfl rfl dX6_set_60 ?_
              refine r_as C (lv' := [(5, .ref a5), (4, .int (4 : Int32)), (0, .ref b), (1, .int deed), (2, .int what), (3, .int v)]) dX6_set_63 (by decide) rfl ?_
              refine r_al C dX6_set_65 0 rfl ?_
              refine r_iln C dX6_set_67 rfl 3 rfl ?_
              refine r_iald C 6 deed.toNatClampNeg rfl e3.1 (by omega) (by decide) rfl dX6_set_68 ?_
              refine r_is C (lv' := [(6, .int (od deed.toNatClampNeg)), (5, .ref a5), (4, .int (4 : Int32)), (0, .ref b), (1, .int deed), (2, .int what), (3, .int v)]) dX6_set_69 (by decide) rfl ?_
              refine r_al C dX6_set_71 1 rfl ?_
              refine r_iln C dX6_set_73 rfl 4 rfl ?_
              refine r_iln C dX6_set_74 rfl 6 rfl ?_
              refine r_iast C (ws2 := wBN D b h a1 a2 a3 a4 a5 a6 k0 g0 t0 s0 u1 u2 u3 pe n td ys la ri kd dy nd co (upd od deed.toNatClampNeg v) wo im) h0 rfl 6 deed.toNatClampNeg rfl e3.1 (by omega) (by decide) dX6_set_75 rfl rfl ?_
              refine r_il C dX6_set_76 0 rfl ?_
              exact r_iret rfl C (by rw [← hv]) (by rw [← hv]) dX6_set_78
            · exact absurd c7 c1
          · rw [if_pos c6] at hv
            refine r_ic C (v := (-1 : Int32)) dX6_set_40 (by decide) ?_
            exact r_iret rfl C (by rw [← hv]) (by rw [← hv]) dX6_set_41
  · rw [if_pos c1] at hv
    refine r_bp C (v := (9 : Int32)) dX6_set_4 (by decide) ?_
    refine r_goto C (tgt := 10) dX6_set_6 (by decide) ?_
    refine r_is C (lv' := [(4, .int (9 : Int32)), (0, .ref b), (1, .int deed), (2, .int what), (3, .int v)]) dX6_set_10 (by decide) rfl ?_
    refine r_aln C dX6_set_12 rfl 1 rfl ?_
    refine gf_X6_10 C 0 rfl rfl dX6_set_13 ?_
    refine r_iln C dX6_set_16 rfl 2 rfl ?_
    refine aft_rd (st' := [.int (s_X5_has n deed)]) (run_VN (rest := []) C (c_X5_has l D h a1 a2 a3 a4 a5 a6 pe n td ys la ri kd dy nd co od wo deed ) ok_X5_has wn_X5_has wl_X5_has wm_X6_73 [1, 2, 3, 4, 5, 6, 7] 0 rfl rfl rfl ⟨Nat.le_of_ble_eq_true rfl, Nat.le_of_ble_eq_true rfl⟩ rfl rfl (Nat.le_of_ble_eq_true rfl) dX6_set_17) rfl ?_
    refine r_ifeq C (tgt := 40) dX6_set_20 (by decide) (fun c8 => ?_) (fun c8 => ?_)
    · rw [if_pos c8] at hv
      refine r_ic C (v := (-1 : Int32)) dX6_set_40 (by decide) ?_
      exact r_iret rfl C (by rw [← hv]) (by rw [← hv]) dX6_set_41
    · rw [if_neg c8] at hv
      have e9 := has_nat hn c8
      refine r_iln C dX6_set_23 rfl 3 rfl ?_
      refine aft_rd (st' := [.int (s_X6_isChoice what)]) (run_S (rest := []) C (c_X6_isChoice l D what ) ok_X6_isChoice ws_X6_isChoice wm_X6_101 [] rfl ⟨Nat.le_of_ble_eq_true rfl, Nat.le_of_ble_eq_true rfl⟩ rfl rfl (Nat.le_of_ble_eq_true rfl) dX6_set_24) rfl ?_
      refine r_ifeq C (tgt := 40) dX6_set_27 (by decide) (fun c10 => ?_) (fun c10 => ?_)
      · rw [if_pos c10] at hv
        refine r_ic C (v := (-1 : Int32)) dX6_set_40 (by decide) ?_
        exact r_iret rfl C (by rw [← hv]) (by rw [← hv]) dX6_set_41
      · rw [if_neg c10] at hv
        refine r_iln C dX6_set_30 rfl 4 rfl ?_
        refine r_iflt C (tgt := 40) dX6_set_31 (by decide) (fun c11 => ?_) (fun c11 => ?_)
        · rw [if_pos c11] at hv
          refine r_ic C (v := (-1 : Int32)) dX6_set_40 (by decide) ?_
          exact r_iret rfl C (by rw [← hv]) (by rw [← hv]) dX6_set_41
        · rw [if_neg c11] at hv
          refine r_iln C dX6_set_34 rfl 4 rfl ?_
          refine r_il C dX6_set_35 0 rfl ?_
          refine r_icle C (tgt := 42) dX6_set_37 (by decide) (fun c12 => ?_) (fun c12 => ?_)
          · rw [if_neg c12] at hv
            refine r_iln C dX6_set_42 rfl 3 rfl ?_
            refine r_ifne C (tgt := 56) dX6_set_43 (by decide) (fun c13 => ?_) (fun c13 => ?_)
            · exact absurd c1 c13
            · skip
              refine r_aln C dX6_set_46 rfl 1 rfl ?_
              refine gf_X6_10 C 0 rfl rfl dX6_set_47 ?_
              refine gf_X6_85 C 1 rfl rfl dX6_set_50 ?_
              refine r_goto C (tgt := 63) dX6_set_53 (by decide) ?_
              refine r_as C (lv' := [(5, .ref a4), (4, .int (9 : Int32)), (0, .ref b), (1, .int deed), (2, .int what), (3, .int v)]) dX6_set_63 (by decide) rfl ?_
              refine r_al C dX6_set_65 0 rfl ?_
              refine r_iln C dX6_set_67 rfl 3 rfl ?_
              refine r_iald C 5 deed.toNatClampNeg rfl e9.1 (by omega) (by decide) rfl dX6_set_68 ?_
              refine r_is C (lv' := [(6, .int (co deed.toNatClampNeg)), (5, .ref a4), (4, .int (9 : Int32)), (0, .ref b), (1, .int deed), (2, .int what), (3, .int v)]) dX6_set_69 (by decide) rfl ?_
              refine r_al C dX6_set_71 1 rfl ?_
              refine r_iln C dX6_set_73 rfl 4 rfl ?_
              refine r_iln C dX6_set_74 rfl 6 rfl ?_
              refine r_iast C (ws2 := wBN D b h a1 a2 a3 a4 a5 a6 k0 g0 t0 s0 u1 u2 u3 pe n td ys la ri kd dy nd (upd co deed.toNatClampNeg v) od wo im) h0 rfl 5 deed.toNatClampNeg rfl e9.1 (by omega) (by decide) dX6_set_75 rfl rfl ?_
              refine r_il C dX6_set_76 0 rfl ?_
              exact r_iret rfl C (by rw [← hv]) (by rw [← hv]) dX6_set_78
          · rw [if_pos c12] at hv
            refine r_ic C (v := (-1 : Int32)) dX6_set_40 (by decide) ?_
            exact r_iret rfl C (by rw [← hv]) (by rw [← hv]) dX6_set_41

def s_X6_worth (n : Nat) (wo : Nat → Int32) (deed : Int32) (person : Int32) (v : Int32) : Int32 × (Nat → Int32) := (if s_X5_has n deed = (0 : Int32) then ((-100001 : Int32), wo) else (if s_X6_isEverPerson person = (0 : Int32) then ((-100001 : Int32), wo) else (if v < (-9 : Int32) then ((-100001 : Int32), wo) else (if (9 : Int32) < v then ((-100001 : Int32), wo) else (s_X5_worthTo wo deed.toNatClampNeg person.toNatClampNeg, upd wo ((deed.toNatClampNeg * 4) + person.toNatClampNeg) v)))))
set_option maxHeartbeats 8000000 in
set_option maxRecDepth 100000 in
theorem c_X6_worth (l : Launch) (D : va_G) (b : Nat) (h : Nat) (a1 : Nat) (a2 : Nat) (a3 : Nat) (a4 : Nat) (a5 : Nat) (a6 : Nat) (k0 : Nat) (g0 : Nat) (t0 : Nat) (s0 : Nat) (u1 : Nat) (u2 : Nat) (u3 : Nat) (pe : Nat) (n : Nat) (td : Int32) (ys : Int32) (la : Int32) (ri : Int32) (kd : Nat → Int32) (dy : Nat → Int32) (nd : Nat → Int32) (co : Nat → Int32) (od : Nat → Int32) (wo : Nat → Int32) (im : Int32) (deed : Int32) (person : Int32) (v : Int32) (hn : n ≤ 12) (h0 : va_D (fun _ => True) (wBN D b h a1 a2 a3 a4 a5 a6 k0 g0 t0 s0 u1 u2 u3 pe n td ys la ri kd dy nd co od wo im)) : ct l yX6_worth cX6_worth 5 (some .int) 1 22 D [.ref b, .int deed, .int person, .int v] (wBN D b h a1 a2 a3 a4 a5 a6 k0 g0 t0 s0 u1 u2 u3 pe n td ys la ri kd dy nd co od wo im) (wBN D b h a1 a2 a3 a4 a5 a6 k0 g0 t0 s0 u1 u2 u3 pe n td ys la ri kd dy nd co od (s_X6_worth n wo deed person v).2 im) (Ad (wBN D b h a1 a2 a3 a4 a5 a6 k0 g0 t0 s0 u1 u2 u3 pe n td ys la ri kd dy nd co od wo im)) (some (Value.int (s_X6_worth n wo deed person v).1)) := by
  obtain ⟨V, hv⟩ : ∃ V, s_X6_worth n wo deed person v = V := ⟨_, rfl⟩
  rw [hv]
  refine ct_intro (own := RX6) (lv := [(0, .ref b), (1, .int deed), (2, .int person), (3, .int v)]) (by decide) rfl (Nat.le_of_ble_eq_true rfl) rfl ?_
  intro p_ e_ s_ m_ below_ meth_ c_ C
  have hv : (if s_X5_has n deed = (0 : Int32) then ((-100001 : Int32), wo) else (if s_X6_isEverPerson person = (0 : Int32) then ((-100001 : Int32), wo) else (if v < (-9 : Int32) then ((-100001 : Int32), wo) else (if (9 : Int32) < v then ((-100001 : Int32), wo) else (s_X5_worthTo wo deed.toNatClampNeg person.toNatClampNeg, upd wo ((deed.toNatClampNeg * 4) + person.toNatClampNeg) v))))) = V := hv
  refine r_aln C dX6_worth_0 rfl 0 rfl ?_
  refine gf_X6_10 C 0 rfl rfl dX6_worth_1 ?_
  refine r_iln C dX6_worth_4 rfl 1 rfl ?_
  refine aft_rd (st' := [.int (s_X5_has n deed)]) (run_VN (rest := []) C (c_X5_has l D h a1 a2 a3 a4 a5 a6 pe n td ys la ri kd dy nd co od wo deed ) ok_X5_has wn_X5_has wl_X5_has wm_X6_73 [1, 2, 3, 4, 5, 6, 7] 0 rfl rfl rfl ⟨Nat.le_of_ble_eq_true rfl, Nat.le_of_ble_eq_true rfl⟩ rfl rfl (Nat.le_of_ble_eq_true rfl) dX6_worth_5) rfl ?_
  refine r_ifeq C (tgt := 30) dX6_worth_8 (by decide) (fun c1 => ?_) (fun c1 => ?_)
  · rw [if_pos c1] at hv
    refine r_ldc C wc_X6_107 dX6_worth_30 ?_
    exact r_iret rfl C (by rw [← hv]) (by rw [← hv]) dX6_worth_32
  · rw [if_neg c1] at hv
    have e2 := has_nat hn c1
    refine r_iln C dX6_worth_11 rfl 2 rfl ?_
    refine aft_rd (st' := [.int (s_X6_isEverPerson person)]) (run_S (rest := []) C (c_X6_isEverPerson l D person ) ok_X6_isEverPerson ws_X6_isEverPerson wm_X6_104 [] rfl ⟨Nat.le_of_ble_eq_true rfl, Nat.le_of_ble_eq_true rfl⟩ rfl rfl (Nat.le_of_ble_eq_true rfl) dX6_worth_12) rfl ?_
    refine r_ifeq C (tgt := 30) dX6_worth_15 (by decide) (fun c3 => ?_) (fun c3 => ?_)
    · rw [if_pos c3] at hv
      refine r_ldc C wc_X6_107 dX6_worth_30 ?_
      exact r_iret rfl C (by rw [← hv]) (by rw [← hv]) dX6_worth_32
    · rw [if_neg c3] at hv
      have e4 := isEver_nat c3
      refine r_iln C dX6_worth_18 rfl 3 rfl ?_
      refine r_bp C (v := (-9 : Int32)) dX6_worth_19 (by decide) ?_
      refine r_iclt C (tgt := 30) dX6_worth_21 (by decide) (fun c5 => ?_) (fun c5 => ?_)
      · rw [if_pos c5] at hv
        refine r_ldc C wc_X6_107 dX6_worth_30 ?_
        exact r_iret rfl C (by rw [← hv]) (by rw [← hv]) dX6_worth_32
      · rw [if_neg c5] at hv
        refine r_iln C dX6_worth_24 rfl 3 rfl ?_
        refine r_bp C (v := (9 : Int32)) dX6_worth_25 (by decide) ?_
        refine r_icle C (tgt := 33) dX6_worth_27 (by decide) (fun c6 => ?_) (fun c6 => ?_)
        · rw [if_neg c6] at hv
          refine r_aln C dX6_worth_33 rfl 0 rfl ?_
          refine gf_X6_10 C 0 rfl rfl dX6_worth_34 ?_
          refine r_iln C dX6_worth_37 rfl 1 rfl ?_
          refine r_iln C dX6_worth_38 rfl 2 rfl ?_
          refine r_stk (st2 := [.int person, .int (nI deed.toNatClampNeg), .ref h]) (congrArg (fun (z : Int32) => ([.int person, .int z, .ref h] : List Value)) e2.1) ?_
          refine r_stk (st2 := [.int (nI person.toNatClampNeg), .int (nI deed.toNatClampNeg), .ref h]) (congrArg (fun (z : Int32) => ([.int z, .int (nI deed.toNatClampNeg), .ref h] : List Value)) e4.1) ?_
          refine aft_rd (st' := [.int (s_X5_worthTo wo deed.toNatClampNeg person.toNatClampNeg)]) (run_VN (rest := []) C (c_X5_worthTo l D h a1 a2 a3 a4 a5 a6 pe n td ys la ri kd dy nd co od wo deed.toNatClampNeg person.toNatClampNeg (by omega) (by omega)) ok_X5_worthTo wn_X5_worthTo wl_X5_worthTo wm_X6_108 [1, 2, 3, 4, 5, 6, 7] 0 rfl rfl rfl ⟨Nat.le_of_ble_eq_true rfl, Nat.le_of_ble_eq_true rfl⟩ rfl rfl (Nat.le_of_ble_eq_true rfl) dX6_worth_39) rfl ?_
          refine r_is C (lv' := [(4, .int (s_X5_worthTo wo deed.toNatClampNeg person.toNatClampNeg)), (0, .ref b), (1, .int deed), (2, .int person), (3, .int v)]) dX6_worth_42 (by decide) rfl ?_
          refine r_aln C dX6_worth_44 rfl 1 rfl ?_
          refine gf_X6_10 C 0 rfl rfl dX6_worth_45 ?_
          refine gf_X6_111 C 1 rfl rfl dX6_worth_48 ?_
          refine r_iln C dX6_worth_51 rfl 2 rfl ?_
          refine r_ic C (v := (4 : Int32)) dX6_worth_52 (by decide) ?_
          refine r_imul C dX6_worth_53 ?_
          refine r_iln C dX6_worth_54 rfl 3 rfl ?_
          refine r_iadd C dX6_worth_55 ?_
          refine r_iln C dX6_worth_56 rfl 4 rfl ?_
          refine r_iast C (ws2 := wBN D b h a1 a2 a3 a4 a5 a6 k0 g0 t0 s0 u1 u2 u3 pe n td ys la ri kd dy nd co od (upd wo ((deed.toNatClampNeg * 4) + person.toNatClampNeg) v) im) h0 rfl 7 ((deed.toNatClampNeg * 4) + person.toNatClampNeg) rfl (nv_add (nv_mul e2.1 rfl) e4.1) (by omega) (by decide) dX6_worth_57 rfl rfl ?_
          refine r_il C dX6_worth_58 0 rfl ?_
          exact r_iret rfl C (by rw [← hv]) (by rw [← hv]) dX6_worth_60
        · rw [if_pos c6] at hv
          refine r_ldc C wc_X6_107 dX6_worth_30 ?_
          exact r_iret rfl C (by rw [← hv]) (by rw [← hv]) dX6_worth_32

def s_X6_worthOf (n : Nat) (wo : Nat → Int32) (deed : Int32) (person : Int32) : Int32 := (if s_X5_has n deed = (0 : Int32) then (-100001 : Int32) else (if s_X6_isEverPerson person = (0 : Int32) then (-100001 : Int32) else s_X5_worthTo wo deed.toNatClampNeg person.toNatClampNeg))
set_option maxHeartbeats 8000000 in
set_option maxRecDepth 100000 in
theorem c_X6_worthOf (l : Launch) (D : va_G) (b : Nat) (h : Nat) (a1 : Nat) (a2 : Nat) (a3 : Nat) (a4 : Nat) (a5 : Nat) (a6 : Nat) (k0 : Nat) (g0 : Nat) (t0 : Nat) (s0 : Nat) (u1 : Nat) (u2 : Nat) (u3 : Nat) (pe : Nat) (n : Nat) (td : Int32) (ys : Int32) (la : Int32) (ri : Int32) (kd : Nat → Int32) (dy : Nat → Int32) (nd : Nat → Int32) (co : Nat → Int32) (od : Nat → Int32) (wo : Nat → Int32) (im : Int32) (deed : Int32) (person : Int32) (hn : n ≤ 12) : ct l yX6_worthOf cX6_worthOf 3 (some .int) 1 22 D [.ref b, .int deed, .int person] (wBN D b h a1 a2 a3 a4 a5 a6 k0 g0 t0 s0 u1 u2 u3 pe n td ys la ri kd dy nd co od wo im) (wBN D b h a1 a2 a3 a4 a5 a6 k0 g0 t0 s0 u1 u2 u3 pe n td ys la ri kd dy nd co od wo im) (fun _ => False) (some (Value.int (s_X6_worthOf n wo deed person))) := by
  obtain ⟨V, hv⟩ : ∃ V, s_X6_worthOf n wo deed person = V := ⟨_, rfl⟩
  rw [hv]
  refine ct_intro (own := RX6) (lv := [(0, .ref b), (1, .int deed), (2, .int person)]) (by decide) rfl (Nat.le_of_ble_eq_true rfl) rfl ?_
  intro p_ e_ s_ m_ below_ meth_ c_ C
  have hv : (if s_X5_has n deed = (0 : Int32) then (-100001 : Int32) else (if s_X6_isEverPerson person = (0 : Int32) then (-100001 : Int32) else s_X5_worthTo wo deed.toNatClampNeg person.toNatClampNeg)) = V := hv
  refine r_aln C dX6_worthOf_0 rfl 0 rfl ?_
  refine gf_X6_10 C 0 rfl rfl dX6_worthOf_1 ?_
  refine r_iln C dX6_worthOf_4 rfl 1 rfl ?_
  refine aft_rd (st' := [.int (s_X5_has n deed)]) (run_VN (rest := []) C (c_X5_has l D h a1 a2 a3 a4 a5 a6 pe n td ys la ri kd dy nd co od wo deed ) ok_X5_has wn_X5_has wl_X5_has wm_X6_73 [1, 2, 3, 4, 5, 6, 7] 0 rfl rfl rfl ⟨Nat.le_of_ble_eq_true rfl, Nat.le_of_ble_eq_true rfl⟩ rfl rfl (Nat.le_of_ble_eq_true rfl) dX6_worthOf_5) rfl ?_
  refine r_ifeq C (tgt := 18) dX6_worthOf_8 (by decide) (fun c1 => ?_) (fun c1 => ?_)
  · rw [if_pos c1] at hv
    refine r_ldc C wc_X6_107 dX6_worthOf_18 ?_
    exact r_iret rfl C (congrArg (fun z => some (Value.int z)) hv) rfl dX6_worthOf_20
  · rw [if_neg c1] at hv
    have e2 := has_nat hn c1
    refine r_iln C dX6_worthOf_11 rfl 2 rfl ?_
    refine aft_rd (st' := [.int (s_X6_isEverPerson person)]) (run_S (rest := []) C (c_X6_isEverPerson l D person ) ok_X6_isEverPerson ws_X6_isEverPerson wm_X6_104 [] rfl ⟨Nat.le_of_ble_eq_true rfl, Nat.le_of_ble_eq_true rfl⟩ rfl rfl (Nat.le_of_ble_eq_true rfl) dX6_worthOf_12) rfl ?_
    refine r_ifne C (tgt := 21) dX6_worthOf_15 (by decide) (fun c3 => ?_) (fun c3 => ?_)
    · rw [if_neg c3] at hv
      have e4 := isEver_nat c3
      refine r_aln C dX6_worthOf_21 rfl 0 rfl ?_
      refine gf_X6_10 C 0 rfl rfl dX6_worthOf_22 ?_
      refine r_iln C dX6_worthOf_25 rfl 1 rfl ?_
      refine r_iln C dX6_worthOf_26 rfl 2 rfl ?_
      refine r_stk (st2 := [.int person, .int (nI deed.toNatClampNeg), .ref h]) (congrArg (fun (z : Int32) => ([.int person, .int z, .ref h] : List Value)) e2.1) ?_
      refine r_stk (st2 := [.int (nI person.toNatClampNeg), .int (nI deed.toNatClampNeg), .ref h]) (congrArg (fun (z : Int32) => ([.int z, .int (nI deed.toNatClampNeg), .ref h] : List Value)) e4.1) ?_
      refine aft_rd (st' := [.int (s_X5_worthTo wo deed.toNatClampNeg person.toNatClampNeg)]) (run_VN (rest := []) C (c_X5_worthTo l D h a1 a2 a3 a4 a5 a6 pe n td ys la ri kd dy nd co od wo deed.toNatClampNeg person.toNatClampNeg (by omega) (by omega)) ok_X5_worthTo wn_X5_worthTo wl_X5_worthTo wm_X6_108 [1, 2, 3, 4, 5, 6, 7] 0 rfl rfl rfl ⟨Nat.le_of_ble_eq_true rfl, Nat.le_of_ble_eq_true rfl⟩ rfl rfl (Nat.le_of_ble_eq_true rfl) dX6_worthOf_27) rfl ?_
      exact r_iret rfl C (congrArg (fun z => some (Value.int z)) hv) rfl dX6_worthOf_30
    · rw [if_pos c3] at hv
      refine r_ldc C wc_X6_107 dX6_worthOf_18 ?_
      exact r_iret rfl C (congrArg (fun z => some (Value.int z)) hv) rfl dX6_worthOf_20

def s_X6_last (n : Nat) (la : Int32) (set : Int32) : Int32 × Int32 := (if s_X6_isWithin set (s_X5_all n) = (0 : Int32) then ((-1 : Int32), la) else (la, set))
set_option maxHeartbeats 8000000 in
set_option maxRecDepth 100000 in
theorem c_X6_last (l : Launch) (D : va_G) (b : Nat) (h : Nat) (a1 : Nat) (a2 : Nat) (a3 : Nat) (a4 : Nat) (a5 : Nat) (a6 : Nat) (k0 : Nat) (g0 : Nat) (t0 : Nat) (s0 : Nat) (u1 : Nat) (u2 : Nat) (u3 : Nat) (pe : Nat) (n : Nat) (td : Int32) (ys : Int32) (la : Int32) (ri : Int32) (kd : Nat → Int32) (dy : Nat → Int32) (nd : Nat → Int32) (co : Nat → Int32) (od : Nat → Int32) (wo : Nat → Int32) (im : Int32) (set : Int32) (hn : n ≤ 12) (h0 : va_D (fun _ => True) (wBN D b h a1 a2 a3 a4 a5 a6 k0 g0 t0 s0 u1 u2 u3 pe n td ys la ri kd dy nd co od wo im)) : ct l yX6_last cX6_last 3 (some .int) 1 21 D [.ref b, .int set] (wBN D b h a1 a2 a3 a4 a5 a6 k0 g0 t0 s0 u1 u2 u3 pe n td ys la ri kd dy nd co od wo im) (wBN D b h a1 a2 a3 a4 a5 a6 k0 g0 t0 s0 u1 u2 u3 pe n td ys (s_X6_last n la set).2 ri kd dy nd co od wo im) (Ad (wBN D b h a1 a2 a3 a4 a5 a6 k0 g0 t0 s0 u1 u2 u3 pe n td ys la ri kd dy nd co od wo im)) (some (Value.int (s_X6_last n la set).1)) := by
  obtain ⟨V, hv⟩ : ∃ V, s_X6_last n la set = V := ⟨_, rfl⟩
  rw [hv]
  refine ct_intro (own := RX6) (lv := [(0, .ref b), (1, .int set)]) (by decide) rfl (Nat.le_of_ble_eq_true rfl) rfl ?_
  intro p_ e_ s_ m_ below_ meth_ c_ C
  have hv : (if s_X6_isWithin set (s_X5_all n) = (0 : Int32) then ((-1 : Int32), la) else (la, set)) = V := hv
  refine r_iln C dX6_last_0 rfl 1 rfl ?_
  refine r_aln C dX6_last_1 rfl 0 rfl ?_
  refine gf_X6_10 C 0 rfl rfl dX6_last_2 ?_
  refine aft_rd (st' := [.int (s_X5_all n), .int set]) (run_VN (rest := [.int set]) C (c_X5_all l D h a1 a2 a3 a4 a5 a6 pe n td ys la ri kd dy nd co od wo ) ok_X5_all wn_X5_all wl_X5_all wm_X6_114 [1, 2, 3, 4, 5, 6, 7] 0 rfl rfl rfl ⟨Nat.le_of_ble_eq_true rfl, Nat.le_of_ble_eq_true rfl⟩ rfl rfl (Nat.le_of_ble_eq_true rfl) dX6_last_5) rfl ?_
  refine aft_rd (st' := [.int (s_X6_isWithin set (s_X5_all n))]) (run_S (rest := []) C (c_X6_isWithin l D set (s_X5_all n) ) ok_X6_isWithin ws_X6_isWithin wm_X6_65 [] rfl ⟨Nat.le_of_ble_eq_true rfl, Nat.le_of_ble_eq_true rfl⟩ rfl rfl (Nat.le_of_ble_eq_true rfl) dX6_last_8) rfl ?_
  refine r_ifne C (tgt := 16) dX6_last_11 (by decide) (fun c1 => ?_) (fun c1 => ?_)
  · rw [if_neg c1] at hv
    refine r_aln C dX6_last_16 rfl 0 rfl ?_
    refine gf_X6_10 C 0 rfl rfl dX6_last_17 ?_
    refine gf_X6_118 C 1 rfl rfl dX6_last_20 ?_
    refine r_isn C (lv' := [(2, .int la), (0, .ref b), (1, .int set)]) dX6_last_23 rfl (by decide) rfl ?_
    refine r_aln C dX6_last_24 rfl 1 rfl ?_
    refine gf_X6_10 C 0 rfl rfl dX6_last_25 ?_
    refine r_iln C dX6_last_28 rfl 2 rfl ?_
    refine pf_X6_118 C (ws2 := wBN D b h a1 a2 a3 a4 a5 a6 k0 g0 t0 s0 u1 u2 u3 pe n td ys set ri kd dy nd co od wo im) h0 rfl 1 rfl (Nat.le_of_ble_eq_true rfl) dX6_last_29 rfl rfl ?_
    refine r_iln C dX6_last_32 rfl 0 rfl ?_
    exact r_iret rfl C (by rw [← hv]) (by rw [← hv]) dX6_last_33
  · rw [if_pos c1] at hv
    refine r_ic C (v := (-1 : Int32)) dX6_last_14 (by decide) ?_
    exact r_iret rfl C (by rw [← hv]) (by rw [← hv]) dX6_last_15

def s_X6_count (pe : Nat) (n : Nat) (td : Int32) (ys : Int32) (la : Int32) (ri : Int32) (kd : Nat → Int32) (nd : Nat → Int32) (what : Int32) : Int32 := (if what = (0 : Int32) then nI pe else (if what = (1 : Int32) then nI n else (if what = (2 : Int32) then td + (1 : Int32) else (if what = (3 : Int32) then ys else (if what = (4 : Int32) then s_X5_standing n la kd nd ri else (if what = (5 : Int32) then ri else (if what = (6 : Int32) then la else (-1 : Int32))))))))
set_option maxHeartbeats 8000000 in
set_option maxRecDepth 100000 in
theorem c_X6_count (l : Launch) (D : va_G) (b : Nat) (h : Nat) (a1 : Nat) (a2 : Nat) (a3 : Nat) (a4 : Nat) (a5 : Nat) (a6 : Nat) (k0 : Nat) (g0 : Nat) (t0 : Nat) (s0 : Nat) (u1 : Nat) (u2 : Nat) (u3 : Nat) (pe : Nat) (n : Nat) (td : Int32) (ys : Int32) (la : Int32) (ri : Int32) (kd : Nat → Int32) (dy : Nat → Int32) (nd : Nat → Int32) (co : Nat → Int32) (od : Nat → Int32) (wo : Nat → Int32) (im : Int32) (what : Int32) (hn : n ≤ 12) : ct l yX6_count cX6_count 2 (some .int) 3 69 D [.ref b, .int what] (wBN D b h a1 a2 a3 a4 a5 a6 k0 g0 t0 s0 u1 u2 u3 pe n td ys la ri kd dy nd co od wo im) (wBN D b h a1 a2 a3 a4 a5 a6 k0 g0 t0 s0 u1 u2 u3 pe n td ys la ri kd dy nd co od wo im) (fun _ => False) (some (Value.int (s_X6_count pe n td ys la ri kd nd what))) := by
  obtain ⟨V, hv⟩ : ∃ V, s_X6_count pe n td ys la ri kd nd what = V := ⟨_, rfl⟩
  rw [hv]
  refine ct_intro (own := RX6) (lv := [(0, .ref b), (1, .int what)]) (by decide) rfl (Nat.le_of_ble_eq_true rfl) rfl ?_
  intro p_ e_ s_ m_ below_ meth_ c_ C
  have hv : (if what = (0 : Int32) then nI pe else (if what = (1 : Int32) then nI n else (if what = (2 : Int32) then td + (1 : Int32) else (if what = (3 : Int32) then ys else (if what = (4 : Int32) then s_X5_standing n la kd nd ri else (if what = (5 : Int32) then ri else (if what = (6 : Int32) then la else (-1 : Int32)))))))) = V := hv
  refine r_iln C dX6_count_0 rfl 1 rfl ?_
  by_cases c1 : what = (0 : Int32)
  · rw [if_pos c1] at hv
    refine r_tabIn C (tgt := 44) dX6_count_1 (by rw [c1]; decide) (by rw [c1]; decide) (by rw [c1]; rfl) (by decide) ?_
    refine r_aln C dX6_count_44 rfl 0 rfl ?_
    refine gf_X6_10 C 0 rfl rfl dX6_count_45 ?_
    refine gf_X6_50 C 1 rfl rfl dX6_count_48 ?_
    exact r_iret rfl C (congrArg (fun z => some (Value.int z)) hv) rfl dX6_count_51
  · rw [if_neg c1] at hv
    by_cases c2 : what = (1 : Int32)
    · rw [if_pos c2] at hv
      refine r_tabIn C (tgt := 52) dX6_count_1 (by rw [c2]; decide) (by rw [c2]; decide) (by rw [c2]; rfl) (by decide) ?_
      refine r_aln C dX6_count_52 rfl 0 rfl ?_
      refine gf_X6_10 C 0 rfl rfl dX6_count_53 ?_
      refine gf_X6_58 C 1 rfl rfl dX6_count_56 ?_
      exact r_iret rfl C (congrArg (fun z => some (Value.int z)) hv) rfl dX6_count_59
    · rw [if_neg c2] at hv
      by_cases c3 : what = (2 : Int32)
      · rw [if_pos c3] at hv
        refine r_tabIn C (tgt := 60) dX6_count_1 (by rw [c3]; decide) (by rw [c3]; decide) (by rw [c3]; rfl) (by decide) ?_
        refine r_aln C dX6_count_60 rfl 0 rfl ?_
        refine gf_X6_10 C 0 rfl rfl dX6_count_61 ?_
        refine gf_X6_141 C 1 rfl rfl dX6_count_64 ?_
        refine r_ic C (v := (1 : Int32)) dX6_count_67 (by decide) ?_
        refine r_iadd C dX6_count_68 ?_
        exact r_iret rfl C (congrArg (fun z => some (Value.int z)) hv) rfl dX6_count_69
      · rw [if_neg c3] at hv
        by_cases c4 : what = (3 : Int32)
        · rw [if_pos c4] at hv
          refine r_tabIn C (tgt := 70) dX6_count_1 (by rw [c4]; decide) (by rw [c4]; decide) (by rw [c4]; rfl) (by decide) ?_
          refine r_aln C dX6_count_70 rfl 0 rfl ?_
          refine gf_X6_10 C 0 rfl rfl dX6_count_71 ?_
          refine gf_X6_134 C 1 rfl rfl dX6_count_74 ?_
          exact r_iret rfl C (congrArg (fun z => some (Value.int z)) hv) rfl dX6_count_77
        · rw [if_neg c4] at hv
          by_cases c5 : what = (4 : Int32)
          · rw [if_pos c5] at hv
            refine r_tabIn C (tgt := 78) dX6_count_1 (by rw [c5]; decide) (by rw [c5]; decide) (by rw [c5]; rfl) (by decide) ?_
            refine r_aln C dX6_count_78 rfl 0 rfl ?_
            refine gf_X6_10 C 0 rfl rfl dX6_count_79 ?_
            refine r_aln C dX6_count_82 rfl 0 rfl ?_
            refine gf_X6_10 C 0 rfl rfl dX6_count_83 ?_
            refine gf_X6_91 C 1 rfl rfl dX6_count_86 ?_
            refine aft_rd (st' := [.int (s_X5_standing n la kd nd ri)]) (run_VN (rest := []) C (c_X5_standing l D h a1 a2 a3 a4 a5 a6 pe n td ys la ri kd dy nd co od wo ri (by omega)) ok_X5_standing wn_X5_standing wl_X5_standing wm_X6_94 [1, 2, 3, 4, 5, 6, 7] 0 rfl rfl rfl ⟨Nat.le_of_ble_eq_true rfl, Nat.le_of_ble_eq_true rfl⟩ rfl rfl (Nat.le_of_ble_eq_true rfl) dX6_count_89) rfl ?_
            exact r_iret rfl C (congrArg (fun z => some (Value.int z)) hv) rfl dX6_count_92
          · rw [if_neg c5] at hv
            by_cases c6 : what = (5 : Int32)
            · rw [if_pos c6] at hv
              refine r_tabIn C (tgt := 93) dX6_count_1 (by rw [c6]; decide) (by rw [c6]; decide) (by rw [c6]; rfl) (by decide) ?_
              refine r_aln C dX6_count_93 rfl 0 rfl ?_
              refine gf_X6_10 C 0 rfl rfl dX6_count_94 ?_
              refine gf_X6_91 C 1 rfl rfl dX6_count_97 ?_
              exact r_iret rfl C (congrArg (fun z => some (Value.int z)) hv) rfl dX6_count_100
            · rw [if_neg c6] at hv
              by_cases c7 : what = (6 : Int32)
              · rw [if_pos c7] at hv
                refine r_tabIn C (tgt := 101) dX6_count_1 (by rw [c7]; decide) (by rw [c7]; decide) (by rw [c7]; rfl) (by decide) ?_
                refine r_aln C dX6_count_101 rfl 0 rfl ?_
                refine gf_X6_10 C 0 rfl rfl dX6_count_102 ?_
                refine gf_X6_118 C 1 rfl rfl dX6_count_105 ?_
                exact r_iret rfl C (congrArg (fun z => some (Value.int z)) hv) rfl dX6_count_108
              · rw [if_neg c7] at hv
                have nc1 : what.toInt ≠ 0 := fun z => c1 (i32_eq _ _ 0 (by decide) z)
                have nc2 : what.toInt ≠ 1 := fun z => c2 (i32_eq _ _ 1 (by decide) z)
                have nc3 : what.toInt ≠ 2 := fun z => c3 (i32_eq _ _ 2 (by decide) z)
                have nc4 : what.toInt ≠ 3 := fun z => c4 (i32_eq _ _ 3 (by decide) z)
                have nc5 : what.toInt ≠ 4 := fun z => c5 (i32_eq _ _ 4 (by decide) z)
                have nc6 : what.toInt ≠ 5 := fun z => c6 (i32_eq _ _ 5 (by decide) z)
                have nc7 : what.toInt ≠ 6 := fun z => c7 (i32_eq _ _ 6 (by decide) z)
                refine r_tabOut C (tgt := 109) dX6_count_1 (by omega) (by decide) ?_
                refine r_ic C (v := (-1 : Int32)) dX6_count_109 (by decide) ?_
                exact r_iret rfl C (congrArg (fun z => some (Value.int z)) hv) rfl dX6_count_110

def s_X6_right (n : Nat) (td : Int32) (la : Int32) (ri : Int32) (kd : Nat → Int32) (dy : Nat → Int32) (nd : Nat → Int32) (deed : Int32) : Int32 × Int32 := (if s_X5_has n deed = (0 : Int32) then ((-1 : Int32), ri) else (if ri &&& (s_X5_ofDay n dy td) = (0 : Int32) then (if dy deed.toNatClampNeg = td then (if s_X6_isIn (s_X5_standing n la kd nd ri) deed = (0 : Int32) then ((-2 : Int32), ri) else ((s_X5_standing n la kd nd ri) &&& ((s_X5_standing n la kd nd (ri ||| ((1 : Int32) <<< (deed &&& 31)))) ^^^ (-1 : Int32)), ri ||| ((1 : Int32) <<< (deed &&& 31)))) else ((-2 : Int32), ri)) else (if dy deed.toNatClampNeg = td then (if s_X6_isIn (s_X5_standing n la kd nd ri) deed = (0 : Int32) then ((-2 : Int32), ri) else ((-2 : Int32), ri)) else ((-2 : Int32), ri))))
set_option maxHeartbeats 8000000 in
set_option maxRecDepth 100000 in
theorem c_X6_right (l : Launch) (D : va_G) (b : Nat) (h : Nat) (a1 : Nat) (a2 : Nat) (a3 : Nat) (a4 : Nat) (a5 : Nat) (a6 : Nat) (k0 : Nat) (g0 : Nat) (t0 : Nat) (s0 : Nat) (u1 : Nat) (u2 : Nat) (u3 : Nat) (pe : Nat) (n : Nat) (td : Int32) (ys : Int32) (la : Int32) (ri : Int32) (kd : Nat → Int32) (dy : Nat → Int32) (nd : Nat → Int32) (co : Nat → Int32) (od : Nat → Int32) (wo : Nat → Int32) (im : Int32) (deed : Int32) (hn : n ≤ 12) (h0 : va_D (fun _ => True) (wBN D b h a1 a2 a3 a4 a5 a6 k0 g0 t0 s0 u1 u2 u3 pe n td ys la ri kd dy nd co od wo im)) : ct l yX6_right cX6_right 4 (some .int) 3 69 D [.ref b, .int deed] (wBN D b h a1 a2 a3 a4 a5 a6 k0 g0 t0 s0 u1 u2 u3 pe n td ys la ri kd dy nd co od wo im) (wBN D b h a1 a2 a3 a4 a5 a6 k0 g0 t0 s0 u1 u2 u3 pe n td ys la (s_X6_right n td la ri kd dy nd deed).2 kd dy nd co od wo im) (Ad (wBN D b h a1 a2 a3 a4 a5 a6 k0 g0 t0 s0 u1 u2 u3 pe n td ys la ri kd dy nd co od wo im)) (some (Value.int (s_X6_right n td la ri kd dy nd deed).1)) := by
  obtain ⟨V, hv⟩ : ∃ V, s_X6_right n td la ri kd dy nd deed = V := ⟨_, rfl⟩
  rw [hv]
  refine ct_intro (own := RX6) (lv := [(0, .ref b), (1, .int deed)]) (by decide) rfl (Nat.le_of_ble_eq_true rfl) rfl ?_
  intro p_ e_ s_ m_ below_ meth_ c_ C
  have hv : (if s_X5_has n deed = (0 : Int32) then ((-1 : Int32), ri) else (if ri &&& (s_X5_ofDay n dy td) = (0 : Int32) then (if dy deed.toNatClampNeg = td then (if s_X6_isIn (s_X5_standing n la kd nd ri) deed = (0 : Int32) then ((-2 : Int32), ri) else ((s_X5_standing n la kd nd ri) &&& ((s_X5_standing n la kd nd (ri ||| ((1 : Int32) <<< (deed &&& 31)))) ^^^ (-1 : Int32)), ri ||| ((1 : Int32) <<< (deed &&& 31)))) else ((-2 : Int32), ri)) else (if dy deed.toNatClampNeg = td then (if s_X6_isIn (s_X5_standing n la kd nd ri) deed = (0 : Int32) then ((-2 : Int32), ri) else ((-2 : Int32), ri)) else ((-2 : Int32), ri)))) = V := hv
  refine r_aln C dX6_right_0 rfl 0 rfl ?_
  refine gf_X6_10 C 0 rfl rfl dX6_right_1 ?_
  refine r_iln C dX6_right_4 rfl 1 rfl ?_
  refine aft_rd (st' := [.int (s_X5_has n deed)]) (run_VN (rest := []) C (c_X5_has l D h a1 a2 a3 a4 a5 a6 pe n td ys la ri kd dy nd co od wo deed ) ok_X5_has wn_X5_has wl_X5_has wm_X6_73 [1, 2, 3, 4, 5, 6, 7] 0 rfl rfl rfl ⟨Nat.le_of_ble_eq_true rfl, Nat.le_of_ble_eq_true rfl⟩ rfl rfl (Nat.le_of_ble_eq_true rfl) dX6_right_5) rfl ?_
  refine r_ifne C (tgt := 13) dX6_right_8 (by decide) (fun c1 => ?_) (fun c1 => ?_)
  · rw [if_neg c1] at hv
    have e2 := has_nat hn c1
    refine r_aln C dX6_right_13 rfl 0 rfl ?_
    refine gf_X6_10 C 0 rfl rfl dX6_right_14 ?_
    refine r_aln C dX6_right_17 rfl 0 rfl ?_
    refine gf_X6_10 C 0 rfl rfl dX6_right_18 ?_
    refine gf_X6_91 C 1 rfl rfl dX6_right_21 ?_
    refine aft_rd (st' := [.int (s_X5_standing n la kd nd ri)]) (run_VN (rest := []) C (c_X5_standing l D h a1 a2 a3 a4 a5 a6 pe n td ys la ri kd dy nd co od wo ri (by omega)) ok_X5_standing wn_X5_standing wl_X5_standing wm_X6_94 [1, 2, 3, 4, 5, 6, 7] 0 rfl rfl rfl ⟨Nat.le_of_ble_eq_true rfl, Nat.le_of_ble_eq_true rfl⟩ rfl rfl (Nat.le_of_ble_eq_true rfl) dX6_right_24) rfl ?_
    refine r_isn C (lv' := [(2, .int (s_X5_standing n la kd nd ri)), (0, .ref b), (1, .int deed)]) dX6_right_27 rfl (by decide) rfl ?_
    refine r_aln C dX6_right_28 rfl 1 rfl ?_
    refine gf_X6_10 C 0 rfl rfl dX6_right_29 ?_
    refine gf_X6_91 C 1 rfl rfl dX6_right_32 ?_
    refine r_aln C dX6_right_35 rfl 1 rfl ?_
    refine gf_X6_10 C 0 rfl rfl dX6_right_36 ?_
    refine r_aln C dX6_right_39 rfl 1 rfl ?_
    refine gf_X6_10 C 0 rfl rfl dX6_right_40 ?_
    refine gf_X6_141 C 1 rfl rfl dX6_right_43 ?_
    refine aft_rd (st' := [.int (s_X5_ofDay n dy td), .int ri]) (run_VN (rest := [.int ri]) C (c_X5_ofDay l D h a1 a2 a3 a4 a5 a6 pe n td ys la ri kd dy nd co od wo td (by omega)) ok_X5_ofDay wn_X5_ofDay wl_X5_ofDay wm_X6_144 [1, 2, 3, 4, 5, 6, 7] 0 rfl rfl rfl ⟨Nat.le_of_ble_eq_true rfl, Nat.le_of_ble_eq_true rfl⟩ rfl rfl (Nat.le_of_ble_eq_true rfl) dX6_right_46) rfl ?_
    refine r_iand C dX6_right_49 ?_
    refine r_ifeq C (tgt := 57) dX6_right_50 (by decide) (fun c3 => ?_) (fun c3 => ?_)
    · rw [if_pos c3] at hv
      refine r_ic C (v := (0 : Int32)) dX6_right_57 (by decide) ?_
      refine r_isn C (lv' := [(3, .int (0 : Int32)), (2, .int (s_X5_standing n la kd nd ri)), (0, .ref b), (1, .int deed)]) dX6_right_58 rfl (by decide) rfl ?_
      refine r_aln C dX6_right_59 rfl 2 rfl ?_
      refine gf_X6_10 C 0 rfl rfl dX6_right_60 ?_
      refine gf_X6_79 C 1 rfl rfl dX6_right_63 ?_
      refine r_iln C dX6_right_66 rfl 3 rfl ?_
      refine r_iald C 3 deed.toNatClampNeg rfl e2.1 (by omega) (by decide) rfl dX6_right_67 ?_
      refine r_aln C dX6_right_68 rfl 2 rfl ?_
      refine gf_X6_10 C 0 rfl rfl dX6_right_69 ?_
      refine gf_X6_141 C 1 rfl rfl dX6_right_72 ?_
      refine r_icne C (tgt := 90) dX6_right_75 (by decide) (fun c4 => ?_) (fun c4 => ?_)
      · rw [if_neg c4] at hv
        refine r_bp C (v := (-2 : Int32)) dX6_right_90 (by decide) ?_
        exact r_iret rfl C (by rw [← hv]) (by rw [← hv]) dX6_right_92
      · rw [if_pos c4] at hv
        refine r_iln C dX6_right_78 rfl 1 rfl ?_
        refine r_iln C dX6_right_79 rfl 3 rfl ?_
        refine aft_rd (st' := [.int (s_X6_isIn (s_X5_standing n la kd nd ri) deed)]) (run_S (rest := []) C (c_X6_isIn l D (s_X5_standing n la kd nd ri) deed ) ok_X6_isIn ws_X6_isIn wm_X6_98 [] rfl ⟨Nat.le_of_ble_eq_true rfl, Nat.le_of_ble_eq_true rfl⟩ rfl rfl (Nat.le_of_ble_eq_true rfl) dX6_right_80) rfl ?_
        refine r_ifeq C (tgt := 90) dX6_right_83 (by decide) (fun c5 => ?_) (fun c5 => ?_)
        · rw [if_pos c5] at hv
          refine r_bp C (v := (-2 : Int32)) dX6_right_90 (by decide) ?_
          exact r_iret rfl C (by rw [← hv]) (by rw [← hv]) dX6_right_92
        · rw [if_neg c5] at hv
          refine r_iln C dX6_right_86 rfl 0 rfl ?_
          refine r_ifeq C (tgt := 93) dX6_right_87 (by decide) (fun c6 => ?_) (fun c6 => ?_)
          · skip
            refine r_aln C dX6_right_93 rfl 2 rfl ?_
            refine gf_X6_10 C 0 rfl rfl dX6_right_94 ?_
            refine r_dup C dX6_right_97 rfl ?_
            refine gf_X6_91 C 1 rfl rfl dX6_right_98 ?_
            refine r_ic C (v := (1 : Int32)) dX6_right_101 (by decide) ?_
            refine r_iln C dX6_right_102 rfl 3 rfl ?_
            refine r_ishl C dX6_right_103 ?_
            refine r_ior C dX6_right_104 ?_
            refine pf_X6_91 C (ws2 := wBN D b h a1 a2 a3 a4 a5 a6 k0 g0 t0 s0 u1 u2 u3 pe n td ys la (ri ||| ((1 : Int32) <<< (deed &&& 31))) kd dy nd co od wo im) h0 rfl 1 rfl (Nat.le_of_ble_eq_true rfl) dX6_right_105 rfl rfl ?_
            refine r_iln C dX6_right_108 rfl 1 rfl ?_
            refine r_aln C dX6_right_109 rfl 2 rfl ?_
            refine gf_X6_10 C 0 rfl rfl dX6_right_110 ?_
            refine r_aln C dX6_right_113 rfl 2 rfl ?_
            refine gf_X6_10 C 0 rfl rfl dX6_right_114 ?_
            refine gf_X6_91 C 1 rfl rfl dX6_right_117 ?_
            refine aft_rd (st' := [.int (s_X5_standing n la kd nd (ri ||| ((1 : Int32) <<< (deed &&& 31)))), .int (s_X5_standing n la kd nd ri)]) (run_VN (rest := [.int (s_X5_standing n la kd nd ri)]) C (c_X5_standing l D h a1 a2 a3 a4 a5 a6 pe n td ys la (ri ||| ((1 : Int32) <<< (deed &&& 31))) kd dy nd co od wo (ri ||| ((1 : Int32) <<< (deed &&& 31))) (by omega)) ok_X5_standing wn_X5_standing wl_X5_standing wm_X6_94 [1, 2, 3, 4, 5, 6, 7] 0 rfl rfl rfl ⟨Nat.le_of_ble_eq_true rfl, Nat.le_of_ble_eq_true rfl⟩ rfl rfl (Nat.le_of_ble_eq_true rfl) dX6_right_120) rfl ?_
            refine r_ic C (v := (-1 : Int32)) dX6_right_123 (by decide) ?_
            refine r_ixor C dX6_right_124 ?_
            refine r_iand C dX6_right_125 ?_
            exact r_iret rfl C (by rw [← hv]) (by rw [← hv]) dX6_right_126
          · exact absurd (by decide) c6
    · rw [if_neg c3] at hv
      refine r_ic C (v := (1 : Int32)) dX6_right_53 (by decide) ?_
      refine r_goto C (tgt := 58) dX6_right_54 (by decide) ?_
      refine r_isn C (lv' := [(3, .int (1 : Int32)), (2, .int (s_X5_standing n la kd nd ri)), (0, .ref b), (1, .int deed)]) dX6_right_58 rfl (by decide) rfl ?_
      refine r_aln C dX6_right_59 rfl 2 rfl ?_
      refine gf_X6_10 C 0 rfl rfl dX6_right_60 ?_
      refine gf_X6_79 C 1 rfl rfl dX6_right_63 ?_
      refine r_iln C dX6_right_66 rfl 3 rfl ?_
      refine r_iald C 3 deed.toNatClampNeg rfl e2.1 (by omega) (by decide) rfl dX6_right_67 ?_
      refine r_aln C dX6_right_68 rfl 2 rfl ?_
      refine gf_X6_10 C 0 rfl rfl dX6_right_69 ?_
      refine gf_X6_141 C 1 rfl rfl dX6_right_72 ?_
      refine r_icne C (tgt := 90) dX6_right_75 (by decide) (fun c7 => ?_) (fun c7 => ?_)
      · rw [if_neg c7] at hv
        refine r_bp C (v := (-2 : Int32)) dX6_right_90 (by decide) ?_
        exact r_iret rfl C (by rw [← hv]) (by rw [← hv]) dX6_right_92
      · rw [if_pos c7] at hv
        refine r_iln C dX6_right_78 rfl 1 rfl ?_
        refine r_iln C dX6_right_79 rfl 3 rfl ?_
        refine aft_rd (st' := [.int (s_X6_isIn (s_X5_standing n la kd nd ri) deed)]) (run_S (rest := []) C (c_X6_isIn l D (s_X5_standing n la kd nd ri) deed ) ok_X6_isIn ws_X6_isIn wm_X6_98 [] rfl ⟨Nat.le_of_ble_eq_true rfl, Nat.le_of_ble_eq_true rfl⟩ rfl rfl (Nat.le_of_ble_eq_true rfl) dX6_right_80) rfl ?_
        refine r_ifeq C (tgt := 90) dX6_right_83 (by decide) (fun c8 => ?_) (fun c8 => ?_)
        · rw [if_pos c8] at hv
          refine r_bp C (v := (-2 : Int32)) dX6_right_90 (by decide) ?_
          exact r_iret rfl C (by rw [← hv]) (by rw [← hv]) dX6_right_92
        · rw [if_neg c8] at hv
          refine r_iln C dX6_right_86 rfl 0 rfl ?_
          refine r_ifeq C (tgt := 93) dX6_right_87 (by decide) (fun c9 => ?_) (fun c9 => ?_)
          · exact absurd c9 (by decide)
          · skip
            refine r_bp C (v := (-2 : Int32)) dX6_right_90 (by decide) ?_
            exact r_iret rfl C (by rw [← hv]) (by rw [← hv]) dX6_right_92
  · rw [if_pos c1] at hv
    refine r_ic C (v := (-1 : Int32)) dX6_right_11 (by decide) ?_
    exact r_iret rfl C (by rw [← hv]) (by rw [← hv]) dX6_right_12

def s_X6_back (td : Int32) : Int32 × Int32 := (if td < (0 : Int32) then ((-100002 : Int32), td) else (td - (1 : Int32), td - (1 : Int32)))
set_option maxHeartbeats 8000000 in
set_option maxRecDepth 100000 in
theorem c_X6_back (l : Launch) (D : va_G) (b : Nat) (h : Nat) (a1 : Nat) (a2 : Nat) (a3 : Nat) (a4 : Nat) (a5 : Nat) (a6 : Nat) (k0 : Nat) (g0 : Nat) (t0 : Nat) (s0 : Nat) (u1 : Nat) (u2 : Nat) (u3 : Nat) (pe : Nat) (n : Nat) (td : Int32) (ys : Int32) (la : Int32) (ri : Int32) (kd : Nat → Int32) (dy : Nat → Int32) (nd : Nat → Int32) (co : Nat → Int32) (od : Nat → Int32) (wo : Nat → Int32) (im : Int32) (h0 : va_D (fun _ => True) (wBN D b h a1 a2 a3 a4 a5 a6 k0 g0 t0 s0 u1 u2 u3 pe n td ys la ri kd dy nd co od wo im)) : ct l yX6_back cX6_back 1 (some .int) 0 0 D [.ref b] (wBN D b h a1 a2 a3 a4 a5 a6 k0 g0 t0 s0 u1 u2 u3 pe n td ys la ri kd dy nd co od wo im) (wBN D b h a1 a2 a3 a4 a5 a6 k0 g0 t0 s0 u1 u2 u3 pe n (s_X6_back td).2 ys la ri kd dy nd co od wo im) (Ad (wBN D b h a1 a2 a3 a4 a5 a6 k0 g0 t0 s0 u1 u2 u3 pe n td ys la ri kd dy nd co od wo im)) (some (Value.int (s_X6_back td).1)) := by
  obtain ⟨V, hv⟩ : ∃ V, s_X6_back td = V := ⟨_, rfl⟩
  rw [hv]
  refine ct_intro (own := RX6) (lv := [(0, .ref b)]) (by decide) rfl (Nat.le_of_ble_eq_true rfl) rfl ?_
  intro p_ e_ s_ m_ below_ meth_ c_ C
  have hv : (if td < (0 : Int32) then ((-100002 : Int32), td) else (td - (1 : Int32), td - (1 : Int32))) = V := hv
  refine r_aln C dX6_back_0 rfl 0 rfl ?_
  refine gf_X6_10 C 0 rfl rfl dX6_back_1 ?_
  refine gf_X6_141 C 1 rfl rfl dX6_back_4 ?_
  refine r_ifge C (tgt := 13) dX6_back_7 (by decide) (fun c1 => ?_) (fun c1 => ?_)
  · rw [if_neg c1] at hv
    refine r_aln C dX6_back_13 rfl 0 rfl ?_
    refine gf_X6_10 C 0 rfl rfl dX6_back_14 ?_
    refine r_dup C dX6_back_17 rfl ?_
    refine gf_X6_141 C 1 rfl rfl dX6_back_18 ?_
    refine r_ic C (v := (1 : Int32)) dX6_back_21 (by decide) ?_
    refine r_isub C dX6_back_22 ?_
    refine pf_X6_141 C (ws2 := wBN D b h a1 a2 a3 a4 a5 a6 k0 g0 t0 s0 u1 u2 u3 pe n (td - (1 : Int32)) ys la ri kd dy nd co od wo im) h0 rfl 1 rfl (Nat.le_of_ble_eq_true rfl) dX6_back_23 rfl rfl ?_
    refine r_aln C dX6_back_26 rfl 0 rfl ?_
    refine gf_X6_10 C 0 rfl rfl dX6_back_27 ?_
    refine gf_X6_141 C 1 rfl rfl dX6_back_30 ?_
    exact r_iret rfl C (by rw [← hv]) (by rw [← hv]) dX6_back_33
  · rw [if_pos c1] at hv
    refine r_ldc C wc_X6_147 dX6_back_10 ?_
    exact r_iret rfl C (by rw [← hv]) (by rw [← hv]) dX6_back_12

def s_X6_year (n : Nat) (td : Int32) (ys : Int32) (la : Int32) (ri : Int32) (kd : Nat → Int32) (nd : Nat → Int32) : Int32 × Int32 × Int32 × Int32 × Int32 := (if ys < (9999 : Int32) then (s_J6_bitCount_0f7a4 (s_X5_standing n (s_X5_standing n la kd nd ri) kd nd (0 : Int32)), (11 : Int32), ys + (1 : Int32), s_X5_standing n la kd nd ri, (0 : Int32)) else ((-3 : Int32), td, ys, la, ri))
set_option maxHeartbeats 8000000 in
set_option maxRecDepth 100000 in
theorem c_X6_year (l : Launch) (D : va_G) (b : Nat) (h : Nat) (a1 : Nat) (a2 : Nat) (a3 : Nat) (a4 : Nat) (a5 : Nat) (a6 : Nat) (k0 : Nat) (g0 : Nat) (t0 : Nat) (s0 : Nat) (u1 : Nat) (u2 : Nat) (u3 : Nat) (pe : Nat) (n : Nat) (td : Int32) (ys : Int32) (la : Int32) (ri : Int32) (kd : Nat → Int32) (dy : Nat → Int32) (nd : Nat → Int32) (co : Nat → Int32) (od : Nat → Int32) (wo : Nat → Int32) (im : Int32) (hn : n ≤ 12) (h0 : va_D (fun _ => True) (wBN D b h a1 a2 a3 a4 a5 a6 k0 g0 t0 s0 u1 u2 u3 pe n td ys la ri kd dy nd co od wo im)) : ct l yX6_year cX6_year 1 (some .int) 4 89 D [.ref b] (wBN D b h a1 a2 a3 a4 a5 a6 k0 g0 t0 s0 u1 u2 u3 pe n td ys la ri kd dy nd co od wo im) (wBN D b h a1 a2 a3 a4 a5 a6 k0 g0 t0 s0 u1 u2 u3 pe n (s_X6_year n td ys la ri kd nd).2.1 (s_X6_year n td ys la ri kd nd).2.2.1 (s_X6_year n td ys la ri kd nd).2.2.2.1 (s_X6_year n td ys la ri kd nd).2.2.2.2 kd dy nd co od wo im) (Ad (wBN D b h a1 a2 a3 a4 a5 a6 k0 g0 t0 s0 u1 u2 u3 pe n td ys la ri kd dy nd co od wo im)) (some (Value.int (s_X6_year n td ys la ri kd nd).1)) := by
  obtain ⟨V, hv⟩ : ∃ V, s_X6_year n td ys la ri kd nd = V := ⟨_, rfl⟩
  rw [hv]
  refine ct_intro (own := RX6) (lv := [(0, .ref b)]) (by decide) rfl (Nat.le_of_ble_eq_true rfl) rfl ?_
  intro p_ e_ s_ m_ below_ meth_ c_ C
  have hv : (if ys < (9999 : Int32) then (s_J6_bitCount_0f7a4 (s_X5_standing n (s_X5_standing n la kd nd ri) kd nd (0 : Int32)), (11 : Int32), ys + (1 : Int32), s_X5_standing n la kd nd ri, (0 : Int32)) else ((-3 : Int32), td, ys, la, ri)) = V := hv
  refine r_aln C dX6_year_0 rfl 0 rfl ?_
  refine gf_X6_10 C 0 rfl rfl dX6_year_1 ?_
  refine gf_X6_134 C 1 rfl rfl dX6_year_4 ?_
  refine r_sp C (v := (9999 : Int32)) dX6_year_7 (by decide) ?_
  refine r_iclt C (tgt := 16) dX6_year_10 (by decide) (fun c1 => ?_) (fun c1 => ?_)
  · rw [if_pos c1] at hv
    refine r_aln C dX6_year_16 rfl 0 rfl ?_
    refine gf_X6_10 C 0 rfl rfl dX6_year_17 ?_
    refine aft_wr (ws2 := wBN D b h a1 a2 a3 a4 a5 a6 k0 g0 t0 s0 u1 u2 u3 pe n (11 : Int32) (ys + (1 : Int32)) (s_X5_standing n la kd nd ri) (0 : Int32) kd dy nd co od wo im) (st' := []) h0 rfl [1, 2, 3, 4, 5, 6, 7] (run_VN (rest := []) C (c_X5_beginNext l D h a1 a2 a3 a4 a5 a6 pe n td ys la ri kd dy nd co od wo (by omega) (dis_sub h0 [1, 2, 3, 4, 5, 6, 7] (by decide) rfl)) ok_X5_beginNext wn_X5_beginNext wl_X5_beginNext wm_X6_148 [1, 2, 3, 4, 5, 6, 7] 0 rfl rfl rfl ⟨Nat.le_of_ble_eq_true rfl, Nat.le_of_ble_eq_true rfl⟩ rfl rfl (Nat.le_of_ble_eq_true rfl) dX6_year_20) rfl rfl rfl rfl rfl ?_
    refine r_aln C dX6_year_23 rfl 0 rfl ?_
    refine gf_X6_10 C 0 rfl rfl dX6_year_24 ?_
    refine r_aln C dX6_year_27 rfl 0 rfl ?_
    refine gf_X6_10 C 0 rfl rfl dX6_year_28 ?_
    refine gf_X6_91 C 1 rfl rfl dX6_year_31 ?_
    refine aft_rd (st' := [.int (s_X5_standing n (s_X5_standing n la kd nd ri) kd nd (0 : Int32))]) (run_VN (rest := []) C (c_X5_standing l D h a1 a2 a3 a4 a5 a6 pe n (11 : Int32) (ys + (1 : Int32)) (s_X5_standing n la kd nd ri) (0 : Int32) kd dy nd co od wo (0 : Int32) (by omega)) ok_X5_standing wn_X5_standing wl_X5_standing wm_X6_94 [1, 2, 3, 4, 5, 6, 7] 0 rfl rfl rfl ⟨Nat.le_of_ble_eq_true rfl, Nat.le_of_ble_eq_true rfl⟩ rfl rfl (Nat.le_of_ble_eq_true rfl) dX6_year_34) rfl ?_
    refine aft_rd (st' := [.int (s_J6_bitCount_0f7a4 (s_X5_standing n (s_X5_standing n la kd nd ri) kd nd (0 : Int32)))]) (run_S (rest := []) C (c_J6_bitCount_0f7a4 l D (s_X5_standing n (s_X5_standing n la kd nd ri) kd nd (0 : Int32)) ) ok_J6_bitCount_0f7a4 ws_J6_bitCount_0f7a4 wm_X6_151 [] rfl ⟨Nat.le_of_ble_eq_true rfl, Nat.le_of_ble_eq_true rfl⟩ rfl rfl (Nat.le_of_ble_eq_true rfl) dX6_year_37) rfl ?_
    exact r_iret rfl C (by rw [← hv]) (by rw [← hv]) dX6_year_40
  · rw [if_neg c1] at hv
    refine r_bp C (v := (-3 : Int32)) dX6_year_13 (by decide) ?_
    exact r_iret rfl C (by rw [← hv]) (by rw [← hv]) dX6_year_15

def s_X6_value (pe : Nat) (n : Nat) (la : Int32) (ri : Int32) (kd : Nat → Int32) (nd : Nat → Int32) (co : Nat → Int32) (wo : Nat → Int32) (person : Int32) : Int32 := (if person = (-1 : Int32) then s_X5_sumBy pe n la kd nd co wo ri else (if s_X5_isPerson pe person = (0 : Int32) then (-100001 : Int32) else s_X5_valueBy pe n la kd nd co wo person.toNatClampNeg ri))
set_option maxHeartbeats 8000000 in
set_option maxRecDepth 100000 in
theorem c_X6_value (l : Launch) (D : va_G) (b : Nat) (h : Nat) (a1 : Nat) (a2 : Nat) (a3 : Nat) (a4 : Nat) (a5 : Nat) (a6 : Nat) (k0 : Nat) (g0 : Nat) (t0 : Nat) (s0 : Nat) (u1 : Nat) (u2 : Nat) (u3 : Nat) (pe : Nat) (n : Nat) (td : Int32) (ys : Int32) (la : Int32) (ri : Int32) (kd : Nat → Int32) (dy : Nat → Int32) (nd : Nat → Int32) (co : Nat → Int32) (od : Nat → Int32) (wo : Nat → Int32) (im : Int32) (person : Int32) (hn : n ≤ 12) (hp : 1 ≤ pe ∧ pe ≤ 4) : ct l yX6_value cX6_value 2 (some .int) 4 95 D [.ref b, .int person] (wBN D b h a1 a2 a3 a4 a5 a6 k0 g0 t0 s0 u1 u2 u3 pe n td ys la ri kd dy nd co od wo im) (wBN D b h a1 a2 a3 a4 a5 a6 k0 g0 t0 s0 u1 u2 u3 pe n td ys la ri kd dy nd co od wo im) (fun _ => False) (some (Value.int (s_X6_value pe n la ri kd nd co wo person))) := by
  obtain ⟨V, hv⟩ : ∃ V, s_X6_value pe n la ri kd nd co wo person = V := ⟨_, rfl⟩
  rw [hv]
  refine ct_intro (own := RX6) (lv := [(0, .ref b), (1, .int person)]) (by decide) rfl (Nat.le_of_ble_eq_true rfl) rfl ?_
  intro p_ e_ s_ m_ below_ meth_ c_ C
  have hv : (if person = (-1 : Int32) then s_X5_sumBy pe n la kd nd co wo ri else (if s_X5_isPerson pe person = (0 : Int32) then (-100001 : Int32) else s_X5_valueBy pe n la kd nd co wo person.toNatClampNeg ri)) = V := hv
  refine r_iln C dX6_value_0 rfl 1 rfl ?_
  refine r_ic C (v := (-1 : Int32)) dX6_value_1 (by decide) ?_
  refine r_icne C (tgt := 20) dX6_value_2 (by decide) (fun c1 => ?_) (fun c1 => ?_)
  · rw [if_neg c1] at hv
    refine r_aln C dX6_value_20 rfl 0 rfl ?_
    refine gf_X6_10 C 0 rfl rfl dX6_value_21 ?_
    refine r_iln C dX6_value_24 rfl 1 rfl ?_
    refine aft_rd (st' := [.int (s_X5_isPerson pe person)]) (run_VN (rest := []) C (c_X5_isPerson l D h a1 a2 a3 a4 a5 a6 pe n td ys la ri kd dy nd co od wo person ) ok_X5_isPerson wn_X5_isPerson wl_X5_isPerson wm_X6_159 [1, 2, 3, 4, 5, 6, 7] 0 rfl rfl rfl ⟨Nat.le_of_ble_eq_true rfl, Nat.le_of_ble_eq_true rfl⟩ rfl rfl (Nat.le_of_ble_eq_true rfl) dX6_value_25) rfl ?_
    refine r_ifne C (tgt := 34) dX6_value_28 (by decide) (fun c2 => ?_) (fun c2 => ?_)
    · rw [if_neg c2] at hv
      have e3 := isPerson_nat hp c2
      refine r_aln C dX6_value_34 rfl 0 rfl ?_
      refine gf_X6_10 C 0 rfl rfl dX6_value_35 ?_
      refine r_iln C dX6_value_38 rfl 1 rfl ?_
      refine r_aln C dX6_value_39 rfl 0 rfl ?_
      refine gf_X6_10 C 0 rfl rfl dX6_value_40 ?_
      refine gf_X6_91 C 1 rfl rfl dX6_value_43 ?_
      refine r_stk (st2 := [.int ri, .int (nI person.toNatClampNeg), .ref h]) (congrArg (fun (z : Int32) => ([.int ri, .int z, .ref h] : List Value)) e3.1) ?_
      refine aft_rd (st' := [.int (s_X5_valueBy pe n la kd nd co wo person.toNatClampNeg ri)]) (run_VN (rest := []) C (c_X5_valueBy l D h a1 a2 a3 a4 a5 a6 pe n td ys la ri kd dy nd co od wo person.toNatClampNeg ri (by omega) (by omega) (by omega)) ok_X5_valueBy wn_X5_valueBy wl_X5_valueBy wm_X6_162 [1, 2, 3, 4, 5, 6, 7] 0 rfl rfl rfl ⟨Nat.le_of_ble_eq_true rfl, Nat.le_of_ble_eq_true rfl⟩ rfl rfl (Nat.le_of_ble_eq_true rfl) dX6_value_46) rfl ?_
      exact r_iret rfl C (congrArg (fun z => some (Value.int z)) hv) rfl dX6_value_49
    · rw [if_pos c2] at hv
      refine r_ldc C wc_X6_107 dX6_value_31 ?_
      exact r_iret rfl C (congrArg (fun z => some (Value.int z)) hv) rfl dX6_value_33
  · rw [if_pos c1] at hv
    refine r_aln C dX6_value_5 rfl 0 rfl ?_
    refine gf_X6_10 C 0 rfl rfl dX6_value_6 ?_
    refine r_aln C dX6_value_9 rfl 0 rfl ?_
    refine gf_X6_10 C 0 rfl rfl dX6_value_10 ?_
    refine gf_X6_91 C 1 rfl rfl dX6_value_13 ?_
    refine aft_rd (st' := [.int (s_X5_sumBy pe n la kd nd co wo ri)]) (run_VN (rest := []) C (c_X5_sumBy l D h a1 a2 a3 a4 a5 a6 pe n td ys la ri kd dy nd co od wo ri (by omega) (by omega)) ok_X5_sumBy wn_X5_sumBy wl_X5_sumBy wm_X6_156 [1, 2, 3, 4, 5, 6, 7] 0 rfl rfl rfl ⟨Nat.le_of_ble_eq_true rfl, Nat.le_of_ble_eq_true rfl⟩ rfl rfl (Nat.le_of_ble_eq_true rfl) dX6_value_16) rfl ?_
    exact r_iret rfl C (congrArg (fun z => some (Value.int z)) hv) rfl dX6_value_19

def s_X6_bears (pe : Nat) (n : Nat) (wo : Nat → Int32) (deed : Int32) : Int32 := (if s_X5_has n deed = (0 : Int32) then (-1 : Int32) else s_X5_bearer pe wo deed.toNatClampNeg)
set_option maxHeartbeats 8000000 in
set_option maxRecDepth 100000 in
theorem c_X6_bears (l : Launch) (D : va_G) (b : Nat) (h : Nat) (a1 : Nat) (a2 : Nat) (a3 : Nat) (a4 : Nat) (a5 : Nat) (a6 : Nat) (k0 : Nat) (g0 : Nat) (t0 : Nat) (s0 : Nat) (u1 : Nat) (u2 : Nat) (u3 : Nat) (pe : Nat) (n : Nat) (td : Int32) (ys : Int32) (la : Int32) (ri : Int32) (kd : Nat → Int32) (dy : Nat → Int32) (nd : Nat → Int32) (co : Nat → Int32) (od : Nat → Int32) (wo : Nat → Int32) (im : Int32) (deed : Int32) (hn : n ≤ 12) (hp : 1 ≤ pe ∧ pe ≤ 4) : ct l yX6_bears cX6_bears 2 (some .int) 2 46 D [.ref b, .int deed] (wBN D b h a1 a2 a3 a4 a5 a6 k0 g0 t0 s0 u1 u2 u3 pe n td ys la ri kd dy nd co od wo im) (wBN D b h a1 a2 a3 a4 a5 a6 k0 g0 t0 s0 u1 u2 u3 pe n td ys la ri kd dy nd co od wo im) (fun _ => False) (some (Value.int (s_X6_bears pe n wo deed))) := by
  obtain ⟨V, hv⟩ : ∃ V, s_X6_bears pe n wo deed = V := ⟨_, rfl⟩
  rw [hv]
  refine ct_intro (own := RX6) (lv := [(0, .ref b), (1, .int deed)]) (by decide) rfl (Nat.le_of_ble_eq_true rfl) rfl ?_
  intro p_ e_ s_ m_ below_ meth_ c_ C
  have hv : (if s_X5_has n deed = (0 : Int32) then (-1 : Int32) else s_X5_bearer pe wo deed.toNatClampNeg) = V := hv
  refine r_aln C dX6_bears_0 rfl 0 rfl ?_
  refine gf_X6_10 C 0 rfl rfl dX6_bears_1 ?_
  refine r_iln C dX6_bears_4 rfl 1 rfl ?_
  refine aft_rd (st' := [.int (s_X5_has n deed)]) (run_VN (rest := []) C (c_X5_has l D h a1 a2 a3 a4 a5 a6 pe n td ys la ri kd dy nd co od wo deed ) ok_X5_has wn_X5_has wl_X5_has wm_X6_73 [1, 2, 3, 4, 5, 6, 7] 0 rfl rfl rfl ⟨Nat.le_of_ble_eq_true rfl, Nat.le_of_ble_eq_true rfl⟩ rfl rfl (Nat.le_of_ble_eq_true rfl) dX6_bears_5) rfl ?_
  refine r_ifeq C (tgt := 22) dX6_bears_8 (by decide) (fun c1 => ?_) (fun c1 => ?_)
  · rw [if_pos c1] at hv
    refine r_ic C (v := (-1 : Int32)) dX6_bears_22 (by decide) ?_
    exact r_iret rfl C (congrArg (fun z => some (Value.int z)) hv) rfl dX6_bears_23
  · rw [if_neg c1] at hv
    have e2 := has_nat hn c1
    refine r_aln C dX6_bears_11 rfl 0 rfl ?_
    refine gf_X6_10 C 0 rfl rfl dX6_bears_12 ?_
    refine r_iln C dX6_bears_15 rfl 1 rfl ?_
    refine r_stk (st2 := [.int (nI deed.toNatClampNeg), .ref h]) (congrArg (fun (z : Int32) => ([.int z, .ref h] : List Value)) e2.1) ?_
    refine aft_rd (st' := [.int (s_X5_bearer pe wo deed.toNatClampNeg)]) (run_VN (rest := []) C (c_X5_bearer l D h a1 a2 a3 a4 a5 a6 pe n td ys la ri kd dy nd co od wo deed.toNatClampNeg (by omega) (by omega)) ok_X5_bearer wn_X5_bearer wl_X5_bearer wm_X6_165 [1, 2, 3, 4, 5, 6, 7] 0 rfl rfl rfl ⟨Nat.le_of_ble_eq_true rfl, Nat.le_of_ble_eq_true rfl⟩ rfl rfl (Nat.le_of_ble_eq_true rfl) dX6_bears_16) rfl ?_
    refine r_goto C (tgt := 23) dX6_bears_19 (by decide) ?_
    exact r_iret rfl C (congrArg (fun z => some (Value.int z)) hv) rfl dX6_bears_23

def s_X6_best (pe : Nat) (n : Nat) (la : Int32) (kd : Nat → Int32) (dy : Nat → Int32) (nd : Nat → Int32) (co : Nat → Int32) (wo : Nat → Int32) (k : Int32) (fair : Int32) (what : Int32) : Int32 := (if s_X6_isWalkLength k = (0 : Int32) then (-100001 : Int32) else (if s_X6_isChoice fair = (0 : Int32) then (-100001 : Int32) else (if s_X6_isChoice what = (0 : Int32) then (-100001 : Int32) else (if fair = (1 : Int32) then (if what = (0 : Int32) then s_X5_sumBy pe n la kd nd co wo (s_X4_most pe n la kd dy nd co wo k (1 : Int32)) else s_X4_most pe n la kd dy nd co wo k (1 : Int32)) else (if what = (0 : Int32) then s_X5_sumBy pe n la kd nd co wo (s_X4_most pe n la kd dy nd co wo k (0 : Int32)) else s_X4_most pe n la kd dy nd co wo k (0 : Int32))))))
set_option maxHeartbeats 8000000 in
set_option maxRecDepth 100000 in
theorem c_X6_best (l : Launch) (D : va_G) (b : Nat) (h : Nat) (a1 : Nat) (a2 : Nat) (a3 : Nat) (a4 : Nat) (a5 : Nat) (a6 : Nat) (k0 : Nat) (g0 : Nat) (t0 : Nat) (s0 : Nat) (u1 : Nat) (u2 : Nat) (u3 : Nat) (pe : Nat) (n : Nat) (td : Int32) (ys : Int32) (la : Int32) (ri : Int32) (kd : Nat → Int32) (dy : Nat → Int32) (nd : Nat → Int32) (co : Nat → Int32) (od : Nat → Int32) (wo : Nat → Int32) (im : Int32) (k : Int32) (fair : Int32) (what : Int32) (hn : n ≤ 12) (hp : 1 ≤ pe ∧ pe ≤ 4) : ct l yX6_best cX6_best 5 (some .int) 6 143 D [.ref b, .int k, .int fair, .int what] (wBN D b h a1 a2 a3 a4 a5 a6 k0 g0 t0 s0 u1 u2 u3 pe n td ys la ri kd dy nd co od wo im) (wBN D b h a1 a2 a3 a4 a5 a6 k0 g0 t0 s0 u1 u2 u3 pe n td ys la ri kd dy nd co od wo im) (fun _ => False) (some (Value.int (s_X6_best pe n la kd dy nd co wo k fair what))) := by
  obtain ⟨V, hv⟩ : ∃ V, s_X6_best pe n la kd dy nd co wo k fair what = V := ⟨_, rfl⟩
  rw [hv]
  refine ct_intro (own := RX6) (lv := [(0, .ref b), (1, .int k), (2, .int fair), (3, .int what)]) (by decide) rfl (Nat.le_of_ble_eq_true rfl) rfl ?_
  intro p_ e_ s_ m_ below_ meth_ c_ C
  have hv : (if s_X6_isWalkLength k = (0 : Int32) then (-100001 : Int32) else (if s_X6_isChoice fair = (0 : Int32) then (-100001 : Int32) else (if s_X6_isChoice what = (0 : Int32) then (-100001 : Int32) else (if fair = (1 : Int32) then (if what = (0 : Int32) then s_X5_sumBy pe n la kd nd co wo (s_X4_most pe n la kd dy nd co wo k (1 : Int32)) else s_X4_most pe n la kd dy nd co wo k (1 : Int32)) else (if what = (0 : Int32) then s_X5_sumBy pe n la kd nd co wo (s_X4_most pe n la kd dy nd co wo k (0 : Int32)) else s_X4_most pe n la kd dy nd co wo k (0 : Int32)))))) = V := hv
  refine r_iln C dX6_best_0 rfl 1 rfl ?_
  refine aft_rd (st' := [.int (s_X6_isWalkLength k)]) (run_S (rest := []) C (c_X6_isWalkLength l D k ) ok_X6_isWalkLength ws_X6_isWalkLength wm_X6_168 [] rfl ⟨Nat.le_of_ble_eq_true rfl, Nat.le_of_ble_eq_true rfl⟩ rfl rfl (Nat.le_of_ble_eq_true rfl) dX6_best_1) rfl ?_
  refine r_ifeq C (tgt := 21) dX6_best_4 (by decide) (fun c1 => ?_) (fun c1 => ?_)
  · rw [if_pos c1] at hv
    refine r_ldc C wc_X6_107 dX6_best_21 ?_
    exact r_iret rfl C (congrArg (fun z => some (Value.int z)) hv) rfl dX6_best_23
  · rw [if_neg c1] at hv
    refine r_iln C dX6_best_7 rfl 2 rfl ?_
    refine aft_rd (st' := [.int (s_X6_isChoice fair)]) (run_S (rest := []) C (c_X6_isChoice l D fair ) ok_X6_isChoice ws_X6_isChoice wm_X6_101 [] rfl ⟨Nat.le_of_ble_eq_true rfl, Nat.le_of_ble_eq_true rfl⟩ rfl rfl (Nat.le_of_ble_eq_true rfl) dX6_best_8) rfl ?_
    refine r_ifeq C (tgt := 21) dX6_best_11 (by decide) (fun c2 => ?_) (fun c2 => ?_)
    · rw [if_pos c2] at hv
      refine r_ldc C wc_X6_107 dX6_best_21 ?_
      exact r_iret rfl C (congrArg (fun z => some (Value.int z)) hv) rfl dX6_best_23
    · rw [if_neg c2] at hv
      refine r_iln C dX6_best_14 rfl 3 rfl ?_
      refine aft_rd (st' := [.int (s_X6_isChoice what)]) (run_S (rest := []) C (c_X6_isChoice l D what ) ok_X6_isChoice ws_X6_isChoice wm_X6_101 [] rfl ⟨Nat.le_of_ble_eq_true rfl, Nat.le_of_ble_eq_true rfl⟩ rfl rfl (Nat.le_of_ble_eq_true rfl) dX6_best_15) rfl ?_
      refine r_ifne C (tgt := 24) dX6_best_18 (by decide) (fun c3 => ?_) (fun c3 => ?_)
      · rw [if_neg c3] at hv
        refine r_aln C dX6_best_24 rfl 0 rfl ?_
        refine gf_X6_10 C 0 rfl rfl dX6_best_25 ?_
        refine r_iln C dX6_best_28 rfl 1 rfl ?_
        refine r_iln C dX6_best_29 rfl 2 rfl ?_
        refine r_ic C (v := (1 : Int32)) dX6_best_30 (by decide) ?_
        refine r_icne C (tgt := 38) dX6_best_31 (by decide) (fun c4 => ?_) (fun c4 => ?_)
        · rw [if_neg c4] at hv
          refine r_ic C (v := (0 : Int32)) dX6_best_38 (by decide) ?_
          refine aft_rd (st' := [.int (s_X4_most pe n la kd dy nd co wo k (0 : Int32))]) (run_SN (rest := []) C (c_X4_most l D h a1 a2 a3 a4 a5 a6 pe n td ys la ri kd dy nd co od wo k (0 : Int32) (by omega) (by omega)) ok_X4_most ws_X4_most wm_X6_171 [1, 2, 3, 4, 5, 6, 7] rfl ⟨Nat.le_of_ble_eq_true rfl, Nat.le_of_ble_eq_true rfl⟩ rfl rfl (Nat.le_of_ble_eq_true rfl) dX6_best_39) rfl ?_
          refine r_is C (lv' := [(4, .int (s_X4_most pe n la kd dy nd co wo k (0 : Int32))), (0, .ref b), (1, .int k), (2, .int fair), (3, .int what)]) dX6_best_42 (by decide) rfl ?_
          refine r_iln C dX6_best_44 rfl 4 rfl ?_
          refine r_ifne C (tgt := 60) dX6_best_45 (by decide) (fun c5 => ?_) (fun c5 => ?_)
          · rw [if_neg c5] at hv
            refine r_il C dX6_best_60 0 rfl ?_
            exact r_iret rfl C (congrArg (fun z => some (Value.int z)) hv) rfl dX6_best_62
          · rw [if_pos c5] at hv
            refine r_aln C dX6_best_48 rfl 1 rfl ?_
            refine gf_X6_10 C 0 rfl rfl dX6_best_49 ?_
            refine r_il C dX6_best_52 0 rfl ?_
            refine aft_rd (st' := [.int (s_X5_sumBy pe n la kd nd co wo (s_X4_most pe n la kd dy nd co wo k (0 : Int32)))]) (run_VN (rest := []) C (c_X5_sumBy l D h a1 a2 a3 a4 a5 a6 pe n td ys la ri kd dy nd co od wo (s_X4_most pe n la kd dy nd co wo k (0 : Int32)) (by omega) (by omega)) ok_X5_sumBy wn_X5_sumBy wl_X5_sumBy wm_X6_156 [1, 2, 3, 4, 5, 6, 7] 0 rfl rfl rfl ⟨Nat.le_of_ble_eq_true rfl, Nat.le_of_ble_eq_true rfl⟩ rfl rfl (Nat.le_of_ble_eq_true rfl) dX6_best_54) rfl ?_
            refine r_goto C (tgt := 62) dX6_best_57 (by decide) ?_
            exact r_iret rfl C (congrArg (fun z => some (Value.int z)) hv) rfl dX6_best_62
        · rw [if_pos c4] at hv
          refine r_ic C (v := (1 : Int32)) dX6_best_34 (by decide) ?_
          refine r_goto C (tgt := 39) dX6_best_35 (by decide) ?_
          refine aft_rd (st' := [.int (s_X4_most pe n la kd dy nd co wo k (1 : Int32))]) (run_SN (rest := []) C (c_X4_most l D h a1 a2 a3 a4 a5 a6 pe n td ys la ri kd dy nd co od wo k (1 : Int32) (by omega) (by omega)) ok_X4_most ws_X4_most wm_X6_171 [1, 2, 3, 4, 5, 6, 7] rfl ⟨Nat.le_of_ble_eq_true rfl, Nat.le_of_ble_eq_true rfl⟩ rfl rfl (Nat.le_of_ble_eq_true rfl) dX6_best_39) rfl ?_
          refine r_is C (lv' := [(4, .int (s_X4_most pe n la kd dy nd co wo k (1 : Int32))), (0, .ref b), (1, .int k), (2, .int fair), (3, .int what)]) dX6_best_42 (by decide) rfl ?_
          refine r_iln C dX6_best_44 rfl 4 rfl ?_
          refine r_ifne C (tgt := 60) dX6_best_45 (by decide) (fun c6 => ?_) (fun c6 => ?_)
          · rw [if_neg c6] at hv
            refine r_il C dX6_best_60 0 rfl ?_
            exact r_iret rfl C (congrArg (fun z => some (Value.int z)) hv) rfl dX6_best_62
          · rw [if_pos c6] at hv
            refine r_aln C dX6_best_48 rfl 1 rfl ?_
            refine gf_X6_10 C 0 rfl rfl dX6_best_49 ?_
            refine r_il C dX6_best_52 0 rfl ?_
            refine aft_rd (st' := [.int (s_X5_sumBy pe n la kd nd co wo (s_X4_most pe n la kd dy nd co wo k (1 : Int32)))]) (run_VN (rest := []) C (c_X5_sumBy l D h a1 a2 a3 a4 a5 a6 pe n td ys la ri kd dy nd co od wo (s_X4_most pe n la kd dy nd co wo k (1 : Int32)) (by omega) (by omega)) ok_X5_sumBy wn_X5_sumBy wl_X5_sumBy wm_X6_156 [1, 2, 3, 4, 5, 6, 7] 0 rfl rfl rfl ⟨Nat.le_of_ble_eq_true rfl, Nat.le_of_ble_eq_true rfl⟩ rfl rfl (Nat.le_of_ble_eq_true rfl) dX6_best_54) rfl ?_
            refine r_goto C (tgt := 62) dX6_best_57 (by decide) ?_
            exact r_iret rfl C (congrArg (fun z => some (Value.int z)) hv) rfl dX6_best_62
      · rw [if_pos c3] at hv
        refine r_ldc C wc_X6_107 dX6_best_21 ?_
        exact r_iret rfl C (congrArg (fun z => some (Value.int z)) hv) rfl dX6_best_23

def s_X6_wanted (n : Nat) (la : Int32) (kd : Nat → Int32) (dy : Nat → Int32) (nd : Nat → Int32) (must : Int32) (no : Int32) : Int32 := (if s_X6_isWithin must (s_X5_all n) = (0 : Int32) then (-1 : Int32) else (if s_X6_isWithin no (s_X5_all n) = (0 : Int32) then (-1 : Int32) else (if must &&& no = (0 : Int32) then s_X4_fewest n la kd dy nd must no else (-1 : Int32))))
set_option maxHeartbeats 8000000 in
set_option maxRecDepth 100000 in
theorem c_X6_wanted (l : Launch) (D : va_G) (b : Nat) (h : Nat) (a1 : Nat) (a2 : Nat) (a3 : Nat) (a4 : Nat) (a5 : Nat) (a6 : Nat) (k0 : Nat) (g0 : Nat) (t0 : Nat) (s0 : Nat) (u1 : Nat) (u2 : Nat) (u3 : Nat) (pe : Nat) (n : Nat) (td : Int32) (ys : Int32) (la : Int32) (ri : Int32) (kd : Nat → Int32) (dy : Nat → Int32) (nd : Nat → Int32) (co : Nat → Int32) (od : Nat → Int32) (wo : Nat → Int32) (im : Int32) (must : Int32) (no : Int32) (hn : n ≤ 12) : ct l yX6_wanted cX6_wanted 3 (some .int) 4 96 D [.ref b, .int must, .int no] (wBN D b h a1 a2 a3 a4 a5 a6 k0 g0 t0 s0 u1 u2 u3 pe n td ys la ri kd dy nd co od wo im) (wBN D b h a1 a2 a3 a4 a5 a6 k0 g0 t0 s0 u1 u2 u3 pe n td ys la ri kd dy nd co od wo im) (fun _ => False) (some (Value.int (s_X6_wanted n la kd dy nd must no))) := by
  obtain ⟨V, hv⟩ : ∃ V, s_X6_wanted n la kd dy nd must no = V := ⟨_, rfl⟩
  rw [hv]
  refine ct_intro (own := RX6) (lv := [(0, .ref b), (1, .int must), (2, .int no)]) (by decide) rfl (Nat.le_of_ble_eq_true rfl) rfl ?_
  intro p_ e_ s_ m_ below_ meth_ c_ C
  have hv : (if s_X6_isWithin must (s_X5_all n) = (0 : Int32) then (-1 : Int32) else (if s_X6_isWithin no (s_X5_all n) = (0 : Int32) then (-1 : Int32) else (if must &&& no = (0 : Int32) then s_X4_fewest n la kd dy nd must no else (-1 : Int32)))) = V := hv
  refine r_iln C dX6_wanted_0 rfl 1 rfl ?_
  refine r_aln C dX6_wanted_1 rfl 0 rfl ?_
  refine gf_X6_10 C 0 rfl rfl dX6_wanted_2 ?_
  refine aft_rd (st' := [.int (s_X5_all n), .int must]) (run_VN (rest := [.int must]) C (c_X5_all l D h a1 a2 a3 a4 a5 a6 pe n td ys la ri kd dy nd co od wo ) ok_X5_all wn_X5_all wl_X5_all wm_X6_114 [1, 2, 3, 4, 5, 6, 7] 0 rfl rfl rfl ⟨Nat.le_of_ble_eq_true rfl, Nat.le_of_ble_eq_true rfl⟩ rfl rfl (Nat.le_of_ble_eq_true rfl) dX6_wanted_5) rfl ?_
  refine aft_rd (st' := [.int (s_X6_isWithin must (s_X5_all n))]) (run_S (rest := []) C (c_X6_isWithin l D must (s_X5_all n) ) ok_X6_isWithin ws_X6_isWithin wm_X6_65 [] rfl ⟨Nat.le_of_ble_eq_true rfl, Nat.le_of_ble_eq_true rfl⟩ rfl rfl (Nat.le_of_ble_eq_true rfl) dX6_wanted_8) rfl ?_
  refine r_ifeq C (tgt := 34) dX6_wanted_11 (by decide) (fun c1 => ?_) (fun c1 => ?_)
  · rw [if_pos c1] at hv
    refine r_ic C (v := (-1 : Int32)) dX6_wanted_34 (by decide) ?_
    exact r_iret rfl C (congrArg (fun z => some (Value.int z)) hv) rfl dX6_wanted_35
  · rw [if_neg c1] at hv
    refine r_iln C dX6_wanted_14 rfl 2 rfl ?_
    refine r_aln C dX6_wanted_15 rfl 0 rfl ?_
    refine gf_X6_10 C 0 rfl rfl dX6_wanted_16 ?_
    refine aft_rd (st' := [.int (s_X5_all n), .int no]) (run_VN (rest := [.int no]) C (c_X5_all l D h a1 a2 a3 a4 a5 a6 pe n td ys la ri kd dy nd co od wo ) ok_X5_all wn_X5_all wl_X5_all wm_X6_114 [1, 2, 3, 4, 5, 6, 7] 0 rfl rfl rfl ⟨Nat.le_of_ble_eq_true rfl, Nat.le_of_ble_eq_true rfl⟩ rfl rfl (Nat.le_of_ble_eq_true rfl) dX6_wanted_19) rfl ?_
    refine aft_rd (st' := [.int (s_X6_isWithin no (s_X5_all n))]) (run_S (rest := []) C (c_X6_isWithin l D no (s_X5_all n) ) ok_X6_isWithin ws_X6_isWithin wm_X6_65 [] rfl ⟨Nat.le_of_ble_eq_true rfl, Nat.le_of_ble_eq_true rfl⟩ rfl rfl (Nat.le_of_ble_eq_true rfl) dX6_wanted_22) rfl ?_
    refine r_ifeq C (tgt := 34) dX6_wanted_25 (by decide) (fun c2 => ?_) (fun c2 => ?_)
    · rw [if_pos c2] at hv
      refine r_ic C (v := (-1 : Int32)) dX6_wanted_34 (by decide) ?_
      exact r_iret rfl C (congrArg (fun z => some (Value.int z)) hv) rfl dX6_wanted_35
    · rw [if_neg c2] at hv
      refine r_iln C dX6_wanted_28 rfl 1 rfl ?_
      refine r_iln C dX6_wanted_29 rfl 2 rfl ?_
      refine r_iand C dX6_wanted_30 ?_
      refine r_ifeq C (tgt := 36) dX6_wanted_31 (by decide) (fun c3 => ?_) (fun c3 => ?_)
      · rw [if_pos c3] at hv
        refine r_aln C dX6_wanted_36 rfl 0 rfl ?_
        refine gf_X6_10 C 0 rfl rfl dX6_wanted_37 ?_
        refine r_iln C dX6_wanted_40 rfl 1 rfl ?_
        refine r_iln C dX6_wanted_41 rfl 2 rfl ?_
        refine aft_rd (st' := [.int (s_X4_fewest n la kd dy nd must no)]) (run_SN (rest := []) C (c_X4_fewest l D h a1 a2 a3 a4 a5 a6 pe n td ys la ri kd dy nd co od wo must no (by omega)) ok_X4_fewest ws_X4_fewest wm_X6_177 [1, 2, 3, 4, 5, 6, 7] rfl ⟨Nat.le_of_ble_eq_true rfl, Nat.le_of_ble_eq_true rfl⟩ rfl rfl (Nat.le_of_ble_eq_true rfl) dX6_wanted_42) rfl ?_
        exact r_iret rfl C (congrArg (fun z => some (Value.int z)) hv) rfl dX6_wanted_45
      · rw [if_neg c3] at hv
        refine r_ic C (v := (-1 : Int32)) dX6_wanted_34 (by decide) ?_
        exact r_iret rfl C (congrArg (fun z => some (Value.int z)) hv) rfl dX6_wanted_35

def s_X6_self (pe : Nat) (n : Nat) (la : Int32) (kd : Nat → Int32) (dy : Nat → Int32) (nd : Nat → Int32) (co : Nat → Int32) (wo : Nat → Int32) : Int32 := s_X4_selfish pe n la kd dy nd co wo (-1 : Int32)
set_option maxHeartbeats 8000000 in
set_option maxRecDepth 100000 in
theorem c_X6_self (l : Launch) (D : va_G) (b : Nat) (h : Nat) (a1 : Nat) (a2 : Nat) (a3 : Nat) (a4 : Nat) (a5 : Nat) (a6 : Nat) (k0 : Nat) (g0 : Nat) (t0 : Nat) (s0 : Nat) (u1 : Nat) (u2 : Nat) (u3 : Nat) (pe : Nat) (n : Nat) (td : Int32) (ys : Int32) (la : Int32) (ri : Int32) (kd : Nat → Int32) (dy : Nat → Int32) (nd : Nat → Int32) (co : Nat → Int32) (od : Nat → Int32) (wo : Nat → Int32) (im : Int32) (hn : n ≤ 12) (hp : 1 ≤ pe ∧ pe ≤ 4) : ct l yX6_self cX6_self 1 (some .int) 34 924 D [.ref b] (wBN D b h a1 a2 a3 a4 a5 a6 k0 g0 t0 s0 u1 u2 u3 pe n td ys la ri kd dy nd co od wo im) (wBN D b h a1 a2 a3 a4 a5 a6 k0 g0 t0 s0 u1 u2 u3 pe n td ys la ri kd dy nd co od wo im) (fun _ => False) (some (Value.int (s_X6_self pe n la kd dy nd co wo))) := by
  obtain ⟨V, hv⟩ : ∃ V, s_X6_self pe n la kd dy nd co wo = V := ⟨_, rfl⟩
  rw [hv]
  refine ct_intro (own := RX6) (lv := [(0, .ref b)]) (by decide) rfl (Nat.le_of_ble_eq_true rfl) rfl ?_
  intro p_ e_ s_ m_ below_ meth_ c_ C
  have hv : s_X4_selfish pe n la kd dy nd co wo (-1 : Int32) = V := hv
  refine r_aln C dX6_self_0 rfl 0 rfl ?_
  refine gf_X6_10 C 0 rfl rfl dX6_self_1 ?_
  refine r_ic C (v := (-1 : Int32)) dX6_self_4 (by decide) ?_
  refine aft_rd (st' := [.int (s_X4_selfish pe n la kd dy nd co wo (-1 : Int32))]) (run_SN (rest := []) C (c_X4_selfish l D h a1 a2 a3 a4 a5 a6 pe n td ys la ri kd dy nd co od wo (-1 : Int32) (by omega) (by omega)) ok_X4_selfish ws_X4_selfish wm_X6_181 [1, 2, 3, 4, 5, 6, 7] rfl ⟨Nat.le_of_ble_eq_true rfl, Nat.le_of_ble_eq_true rfl⟩ rfl rfl (Nat.le_of_ble_eq_true rfl) dX6_self_5) rfl ?_
  exact r_iret rfl C (congrArg (fun z => some (Value.int z)) hv) rfl dX6_self_8

def s_X6_turn (pe : Nat) (n : Nat) (la : Int32) (kd : Nat → Int32) (dy : Nat → Int32) (nd : Nat → Int32) (co : Nat → Int32) (wo : Nat → Int32) (person : Int32) : Int32 := (if s_X5_isPerson pe person = (0 : Int32) then (-100001 : Int32) else (s_X5_valueBy pe n la kd nd co wo person.toNatClampNeg (s_X4_selfish pe n la kd dy nd co wo (-1 : Int32))) - (s_X5_valueBy pe n la kd nd co wo person.toNatClampNeg (s_X4_selfish pe n la kd dy nd co wo person)))
set_option maxHeartbeats 8000000 in
set_option maxRecDepth 100000 in
theorem c_X6_turn (l : Launch) (D : va_G) (b : Nat) (h : Nat) (a1 : Nat) (a2 : Nat) (a3 : Nat) (a4 : Nat) (a5 : Nat) (a6 : Nat) (k0 : Nat) (g0 : Nat) (t0 : Nat) (s0 : Nat) (u1 : Nat) (u2 : Nat) (u3 : Nat) (pe : Nat) (n : Nat) (td : Int32) (ys : Int32) (la : Int32) (ri : Int32) (kd : Nat → Int32) (dy : Nat → Int32) (nd : Nat → Int32) (co : Nat → Int32) (od : Nat → Int32) (wo : Nat → Int32) (im : Int32) (person : Int32) (hn : n ≤ 12) (hp : 1 ≤ pe ∧ pe ≤ 4) : ct l yX6_turn cX6_turn 3 (some .int) 34 924 D [.ref b, .int person] (wBN D b h a1 a2 a3 a4 a5 a6 k0 g0 t0 s0 u1 u2 u3 pe n td ys la ri kd dy nd co od wo im) (wBN D b h a1 a2 a3 a4 a5 a6 k0 g0 t0 s0 u1 u2 u3 pe n td ys la ri kd dy nd co od wo im) (fun _ => False) (some (Value.int (s_X6_turn pe n la kd dy nd co wo person))) := by
  obtain ⟨V, hv⟩ : ∃ V, s_X6_turn pe n la kd dy nd co wo person = V := ⟨_, rfl⟩
  rw [hv]
  refine ct_intro (own := RX6) (lv := [(0, .ref b), (1, .int person)]) (by decide) rfl (Nat.le_of_ble_eq_true rfl) rfl ?_
  intro p_ e_ s_ m_ below_ meth_ c_ C
  have hv : (if s_X5_isPerson pe person = (0 : Int32) then (-100001 : Int32) else (s_X5_valueBy pe n la kd nd co wo person.toNatClampNeg (s_X4_selfish pe n la kd dy nd co wo (-1 : Int32))) - (s_X5_valueBy pe n la kd nd co wo person.toNatClampNeg (s_X4_selfish pe n la kd dy nd co wo person))) = V := hv
  refine r_aln C dX6_turn_0 rfl 0 rfl ?_
  refine gf_X6_10 C 0 rfl rfl dX6_turn_1 ?_
  refine r_iln C dX6_turn_4 rfl 1 rfl ?_
  refine aft_rd (st' := [.int (s_X5_isPerson pe person)]) (run_VN (rest := []) C (c_X5_isPerson l D h a1 a2 a3 a4 a5 a6 pe n td ys la ri kd dy nd co od wo person ) ok_X5_isPerson wn_X5_isPerson wl_X5_isPerson wm_X6_159 [1, 2, 3, 4, 5, 6, 7] 0 rfl rfl rfl ⟨Nat.le_of_ble_eq_true rfl, Nat.le_of_ble_eq_true rfl⟩ rfl rfl (Nat.le_of_ble_eq_true rfl) dX6_turn_5) rfl ?_
  refine r_ifne C (tgt := 14) dX6_turn_8 (by decide) (fun c1 => ?_) (fun c1 => ?_)
  · rw [if_neg c1] at hv
    have e2 := isPerson_nat hp c1
    refine r_aln C dX6_turn_14 rfl 0 rfl ?_
    refine gf_X6_10 C 0 rfl rfl dX6_turn_15 ?_
    refine r_iln C dX6_turn_18 rfl 1 rfl ?_
    refine r_aln C dX6_turn_19 rfl 0 rfl ?_
    refine gf_X6_10 C 0 rfl rfl dX6_turn_20 ?_
    refine r_ic C (v := (-1 : Int32)) dX6_turn_23 (by decide) ?_
    refine aft_rd (st' := [.int (s_X4_selfish pe n la kd dy nd co wo (-1 : Int32)), .int person, .ref h]) (run_SN (rest := [.int person, .ref h]) C (c_X4_selfish l D h a1 a2 a3 a4 a5 a6 pe n td ys la ri kd dy nd co od wo (-1 : Int32) (by omega) (by omega)) ok_X4_selfish ws_X4_selfish wm_X6_181 [1, 2, 3, 4, 5, 6, 7] rfl ⟨Nat.le_of_ble_eq_true rfl, Nat.le_of_ble_eq_true rfl⟩ rfl rfl (Nat.le_of_ble_eq_true rfl) dX6_turn_24) rfl ?_
    refine r_stk (st2 := [.int (s_X4_selfish pe n la kd dy nd co wo (-1 : Int32)), .int (nI person.toNatClampNeg), .ref h]) (congrArg (fun (z : Int32) => ([.int (s_X4_selfish pe n la kd dy nd co wo (-1 : Int32)), .int z, .ref h] : List Value)) e2.1) ?_
    refine aft_rd (st' := [.int (s_X5_valueBy pe n la kd nd co wo person.toNatClampNeg (s_X4_selfish pe n la kd dy nd co wo (-1 : Int32)))]) (run_VN (rest := []) C (c_X5_valueBy l D h a1 a2 a3 a4 a5 a6 pe n td ys la ri kd dy nd co od wo person.toNatClampNeg (s_X4_selfish pe n la kd dy nd co wo (-1 : Int32)) (by omega) (by omega) (by omega)) ok_X5_valueBy wn_X5_valueBy wl_X5_valueBy wm_X6_162 [1, 2, 3, 4, 5, 6, 7] 0 rfl rfl rfl ⟨Nat.le_of_ble_eq_true rfl, Nat.le_of_ble_eq_true rfl⟩ rfl rfl (Nat.le_of_ble_eq_true rfl) dX6_turn_27) rfl ?_
    refine r_isn C (lv' := [(2, .int (s_X5_valueBy pe n la kd nd co wo person.toNatClampNeg (s_X4_selfish pe n la kd dy nd co wo (-1 : Int32)))), (0, .ref b), (1, .int person)]) dX6_turn_30 rfl (by decide) rfl ?_
    refine r_iln C dX6_turn_31 rfl 0 rfl ?_
    refine r_aln C dX6_turn_32 rfl 1 rfl ?_
    refine gf_X6_10 C 0 rfl rfl dX6_turn_33 ?_
    refine r_iln C dX6_turn_36 rfl 2 rfl ?_
    refine r_aln C dX6_turn_37 rfl 1 rfl ?_
    refine gf_X6_10 C 0 rfl rfl dX6_turn_38 ?_
    refine r_iln C dX6_turn_41 rfl 2 rfl ?_
    refine aft_rd (st' := [.int (s_X4_selfish pe n la kd dy nd co wo person), .int person, .ref h, .int (s_X5_valueBy pe n la kd nd co wo person.toNatClampNeg (s_X4_selfish pe n la kd dy nd co wo (-1 : Int32)))]) (run_SN (rest := [.int person, .ref h, .int (s_X5_valueBy pe n la kd nd co wo person.toNatClampNeg (s_X4_selfish pe n la kd dy nd co wo (-1 : Int32)))]) C (c_X4_selfish l D h a1 a2 a3 a4 a5 a6 pe n td ys la ri kd dy nd co od wo person (by omega) (by omega)) ok_X4_selfish ws_X4_selfish wm_X6_181 [1, 2, 3, 4, 5, 6, 7] rfl ⟨Nat.le_of_ble_eq_true rfl, Nat.le_of_ble_eq_true rfl⟩ rfl rfl (Nat.le_of_ble_eq_true rfl) dX6_turn_42) rfl ?_
    refine r_stk (st2 := [.int (s_X4_selfish pe n la kd dy nd co wo person), .int (nI person.toNatClampNeg), .ref h, .int (s_X5_valueBy pe n la kd nd co wo person.toNatClampNeg (s_X4_selfish pe n la kd dy nd co wo (-1 : Int32)))]) (congrArg (fun (z : Int32) => ([.int (s_X4_selfish pe n la kd dy nd co wo person), .int z, .ref h, .int (s_X5_valueBy pe n la kd nd co wo person.toNatClampNeg (s_X4_selfish pe n la kd dy nd co wo (-1 : Int32)))] : List Value)) e2.1) ?_
    refine aft_rd (st' := [.int (s_X5_valueBy pe n la kd nd co wo person.toNatClampNeg (s_X4_selfish pe n la kd dy nd co wo person)), .int (s_X5_valueBy pe n la kd nd co wo person.toNatClampNeg (s_X4_selfish pe n la kd dy nd co wo (-1 : Int32)))]) (run_VN (rest := [.int (s_X5_valueBy pe n la kd nd co wo person.toNatClampNeg (s_X4_selfish pe n la kd dy nd co wo (-1 : Int32)))]) C (c_X5_valueBy l D h a1 a2 a3 a4 a5 a6 pe n td ys la ri kd dy nd co od wo person.toNatClampNeg (s_X4_selfish pe n la kd dy nd co wo person) (by omega) (by omega) (by omega)) ok_X5_valueBy wn_X5_valueBy wl_X5_valueBy wm_X6_162 [1, 2, 3, 4, 5, 6, 7] 0 rfl rfl rfl ⟨Nat.le_of_ble_eq_true rfl, Nat.le_of_ble_eq_true rfl⟩ rfl rfl (Nat.le_of_ble_eq_true rfl) dX6_turn_45) rfl ?_
    refine r_isub C dX6_turn_48 ?_
    exact r_iret rfl C (congrArg (fun z => some (Value.int z)) hv) rfl dX6_turn_49
  · rw [if_pos c1] at hv
    refine r_ldc C wc_X6_107 dX6_turn_11 ?_
    exact r_iret rfl C (congrArg (fun z => some (Value.int z)) hv) rfl dX6_turn_13

def s_X6_bargain (pe : Nat) (n : Nat) (la : Int32) (ri : Int32) (kd : Nat → Int32) (nd : Nat → Int32) (co : Nat → Int32) (wo : Nat → Int32) (deed : Int32) (first : Int32) (other : Int32) (what : Int32) : Int32 := (if s_X5_has n deed = (0 : Int32) then (-1 : Int32) else (if s_X5_isPerson pe first = (0 : Int32) then (-1 : Int32) else (if s_X5_isPerson pe other = (0 : Int32) then (-1 : Int32) else (if first = other then (-1 : Int32) else (if s_X6_isChoice what = (0 : Int32) then (-1 : Int32) else (if s_X6_isIn (s_X5_standing n la kd nd ri) deed = (0 : Int32) then (-2 : Int32) else (if (s_X5_valueBy pe n la kd nd co wo first.toNatClampNeg (ri ||| ((1 : Int32) <<< (deed &&& 31)))) - (s_X5_valueBy pe n la kd nd co wo first.toNatClampNeg ri) < (s_X5_valueBy pe n la kd nd co wo other.toNatClampNeg ri) - (s_X5_valueBy pe n la kd nd co wo other.toNatClampNeg (ri ||| ((1 : Int32) <<< (deed &&& 31)))) then (-4 : Int32) else (if (0 : Int32) < (s_X5_valueBy pe n la kd nd co wo first.toNatClampNeg (ri ||| ((1 : Int32) <<< (deed &&& 31)))) - (s_X5_valueBy pe n la kd nd co wo first.toNatClampNeg ri) then (if what = (0 : Int32) then (if (s_X5_valueBy pe n la kd nd co wo other.toNatClampNeg ri) - (s_X5_valueBy pe n la kd nd co wo other.toNatClampNeg (ri ||| ((1 : Int32) <<< (deed &&& 31)))) < (0 : Int32) then (0 : Int32) else (s_X5_valueBy pe n la kd nd co wo other.toNatClampNeg ri) - (s_X5_valueBy pe n la kd nd co wo other.toNatClampNeg (ri ||| ((1 : Int32) <<< (deed &&& 31))))) else (s_X5_valueBy pe n la kd nd co wo first.toNatClampNeg (ri ||| ((1 : Int32) <<< (deed &&& 31)))) - (s_X5_valueBy pe n la kd nd co wo first.toNatClampNeg ri)) else (-4 : Int32)))))))))
set_option maxHeartbeats 8000000 in
set_option maxRecDepth 100000 in
theorem c_X6_bargain (l : Launch) (D : va_G) (b : Nat) (h : Nat) (a1 : Nat) (a2 : Nat) (a3 : Nat) (a4 : Nat) (a5 : Nat) (a6 : Nat) (k0 : Nat) (g0 : Nat) (t0 : Nat) (s0 : Nat) (u1 : Nat) (u2 : Nat) (u3 : Nat) (pe : Nat) (n : Nat) (td : Int32) (ys : Int32) (la : Int32) (ri : Int32) (kd : Nat → Int32) (dy : Nat → Int32) (nd : Nat → Int32) (co : Nat → Int32) (od : Nat → Int32) (wo : Nat → Int32) (im : Int32) (deed : Int32) (first : Int32) (other : Int32) (what : Int32) (hn : n ≤ 12) (hp : 1 ≤ pe ∧ pe ≤ 4) : ct l yX6_bargain cX6_bargain 8 (some .int) 4 93 D [.ref b, .int deed, .int first, .int other, .int what] (wBN D b h a1 a2 a3 a4 a5 a6 k0 g0 t0 s0 u1 u2 u3 pe n td ys la ri kd dy nd co od wo im) (wBN D b h a1 a2 a3 a4 a5 a6 k0 g0 t0 s0 u1 u2 u3 pe n td ys la ri kd dy nd co od wo im) (fun _ => False) (some (Value.int (s_X6_bargain pe n la ri kd nd co wo deed first other what))) := by
  obtain ⟨V, hv⟩ : ∃ V, s_X6_bargain pe n la ri kd nd co wo deed first other what = V := ⟨_, rfl⟩
  rw [hv]
  refine ct_intro (own := RX6) (lv := [(0, .ref b), (1, .int deed), (2, .int first), (3, .int other), (4, .int what)]) (by decide) rfl (Nat.le_of_ble_eq_true rfl) rfl ?_
  intro p_ e_ s_ m_ below_ meth_ c_ C
  have hv : (if s_X5_has n deed = (0 : Int32) then (-1 : Int32) else (if s_X5_isPerson pe first = (0 : Int32) then (-1 : Int32) else (if s_X5_isPerson pe other = (0 : Int32) then (-1 : Int32) else (if first = other then (-1 : Int32) else (if s_X6_isChoice what = (0 : Int32) then (-1 : Int32) else (if s_X6_isIn (s_X5_standing n la kd nd ri) deed = (0 : Int32) then (-2 : Int32) else (if (s_X5_valueBy pe n la kd nd co wo first.toNatClampNeg (ri ||| ((1 : Int32) <<< (deed &&& 31)))) - (s_X5_valueBy pe n la kd nd co wo first.toNatClampNeg ri) < (s_X5_valueBy pe n la kd nd co wo other.toNatClampNeg ri) - (s_X5_valueBy pe n la kd nd co wo other.toNatClampNeg (ri ||| ((1 : Int32) <<< (deed &&& 31)))) then (-4 : Int32) else (if (0 : Int32) < (s_X5_valueBy pe n la kd nd co wo first.toNatClampNeg (ri ||| ((1 : Int32) <<< (deed &&& 31)))) - (s_X5_valueBy pe n la kd nd co wo first.toNatClampNeg ri) then (if what = (0 : Int32) then (if (s_X5_valueBy pe n la kd nd co wo other.toNatClampNeg ri) - (s_X5_valueBy pe n la kd nd co wo other.toNatClampNeg (ri ||| ((1 : Int32) <<< (deed &&& 31)))) < (0 : Int32) then (0 : Int32) else (s_X5_valueBy pe n la kd nd co wo other.toNatClampNeg ri) - (s_X5_valueBy pe n la kd nd co wo other.toNatClampNeg (ri ||| ((1 : Int32) <<< (deed &&& 31))))) else (s_X5_valueBy pe n la kd nd co wo first.toNatClampNeg (ri ||| ((1 : Int32) <<< (deed &&& 31)))) - (s_X5_valueBy pe n la kd nd co wo first.toNatClampNeg ri)) else (-4 : Int32))))))))) = V := hv
  refine r_aln C dX6_bargain_0 rfl 0 rfl ?_
  refine gf_X6_10 C 0 rfl rfl dX6_bargain_1 ?_
  refine r_iln C dX6_bargain_4 rfl 1 rfl ?_
  refine aft_rd (st' := [.int (s_X5_has n deed)]) (run_VN (rest := []) C (c_X5_has l D h a1 a2 a3 a4 a5 a6 pe n td ys la ri kd dy nd co od wo deed ) ok_X5_has wn_X5_has wl_X5_has wm_X6_73 [1, 2, 3, 4, 5, 6, 7] 0 rfl rfl rfl ⟨Nat.le_of_ble_eq_true rfl, Nat.le_of_ble_eq_true rfl⟩ rfl rfl (Nat.le_of_ble_eq_true rfl) dX6_bargain_5) rfl ?_
  refine r_ifeq C (tgt := 46) dX6_bargain_8 (by decide) (fun c1 => ?_) (fun c1 => ?_)
  · rw [if_pos c1] at hv
    refine r_ic C (v := (-1 : Int32)) dX6_bargain_46 (by decide) ?_
    exact r_iret rfl C (congrArg (fun z => some (Value.int z)) hv) rfl dX6_bargain_47
  · rw [if_neg c1] at hv
    have e2 := has_nat hn c1
    refine r_aln C dX6_bargain_11 rfl 0 rfl ?_
    refine gf_X6_10 C 0 rfl rfl dX6_bargain_12 ?_
    refine r_iln C dX6_bargain_15 rfl 2 rfl ?_
    refine aft_rd (st' := [.int (s_X5_isPerson pe first)]) (run_VN (rest := []) C (c_X5_isPerson l D h a1 a2 a3 a4 a5 a6 pe n td ys la ri kd dy nd co od wo first ) ok_X5_isPerson wn_X5_isPerson wl_X5_isPerson wm_X6_159 [1, 2, 3, 4, 5, 6, 7] 0 rfl rfl rfl ⟨Nat.le_of_ble_eq_true rfl, Nat.le_of_ble_eq_true rfl⟩ rfl rfl (Nat.le_of_ble_eq_true rfl) dX6_bargain_16) rfl ?_
    refine r_ifeq C (tgt := 46) dX6_bargain_19 (by decide) (fun c3 => ?_) (fun c3 => ?_)
    · rw [if_pos c3] at hv
      refine r_ic C (v := (-1 : Int32)) dX6_bargain_46 (by decide) ?_
      exact r_iret rfl C (congrArg (fun z => some (Value.int z)) hv) rfl dX6_bargain_47
    · rw [if_neg c3] at hv
      have e4 := isPerson_nat hp c3
      refine r_aln C dX6_bargain_22 rfl 0 rfl ?_
      refine gf_X6_10 C 0 rfl rfl dX6_bargain_23 ?_
      refine r_iln C dX6_bargain_26 rfl 3 rfl ?_
      refine aft_rd (st' := [.int (s_X5_isPerson pe other)]) (run_VN (rest := []) C (c_X5_isPerson l D h a1 a2 a3 a4 a5 a6 pe n td ys la ri kd dy nd co od wo other ) ok_X5_isPerson wn_X5_isPerson wl_X5_isPerson wm_X6_159 [1, 2, 3, 4, 5, 6, 7] 0 rfl rfl rfl ⟨Nat.le_of_ble_eq_true rfl, Nat.le_of_ble_eq_true rfl⟩ rfl rfl (Nat.le_of_ble_eq_true rfl) dX6_bargain_27) rfl ?_
      refine r_ifeq C (tgt := 46) dX6_bargain_30 (by decide) (fun c5 => ?_) (fun c5 => ?_)
      · rw [if_pos c5] at hv
        refine r_ic C (v := (-1 : Int32)) dX6_bargain_46 (by decide) ?_
        exact r_iret rfl C (congrArg (fun z => some (Value.int z)) hv) rfl dX6_bargain_47
      · rw [if_neg c5] at hv
        have e6 := isPerson_nat hp c5
        refine r_iln C dX6_bargain_33 rfl 2 rfl ?_
        refine r_iln C dX6_bargain_34 rfl 3 rfl ?_
        refine r_iceq C (tgt := 46) dX6_bargain_35 (by decide) (fun c7 => ?_) (fun c7 => ?_)
        · rw [if_pos c7] at hv
          refine r_ic C (v := (-1 : Int32)) dX6_bargain_46 (by decide) ?_
          exact r_iret rfl C (congrArg (fun z => some (Value.int z)) hv) rfl dX6_bargain_47
        · rw [if_neg c7] at hv
          refine r_il C dX6_bargain_38 4 rfl ?_
          refine aft_rd (st' := [.int (s_X6_isChoice what)]) (run_S (rest := []) C (c_X6_isChoice l D what ) ok_X6_isChoice ws_X6_isChoice wm_X6_101 [] rfl ⟨Nat.le_of_ble_eq_true rfl, Nat.le_of_ble_eq_true rfl⟩ rfl rfl (Nat.le_of_ble_eq_true rfl) dX6_bargain_40) rfl ?_
          refine r_ifne C (tgt := 48) dX6_bargain_43 (by decide) (fun c8 => ?_) (fun c8 => ?_)
          · rw [if_neg c8] at hv
            refine r_aln C dX6_bargain_48 rfl 0 rfl ?_
            refine gf_X6_10 C 0 rfl rfl dX6_bargain_49 ?_
            refine r_aln C dX6_bargain_52 rfl 0 rfl ?_
            refine gf_X6_10 C 0 rfl rfl dX6_bargain_53 ?_
            refine gf_X6_91 C 1 rfl rfl dX6_bargain_56 ?_
            refine aft_rd (st' := [.int (s_X5_standing n la kd nd ri)]) (run_VN (rest := []) C (c_X5_standing l D h a1 a2 a3 a4 a5 a6 pe n td ys la ri kd dy nd co od wo ri (by omega)) ok_X5_standing wn_X5_standing wl_X5_standing wm_X6_94 [1, 2, 3, 4, 5, 6, 7] 0 rfl rfl rfl ⟨Nat.le_of_ble_eq_true rfl, Nat.le_of_ble_eq_true rfl⟩ rfl rfl (Nat.le_of_ble_eq_true rfl) dX6_bargain_59) rfl ?_
            refine r_iln C dX6_bargain_62 rfl 1 rfl ?_
            refine aft_rd (st' := [.int (s_X6_isIn (s_X5_standing n la kd nd ri) deed)]) (run_S (rest := []) C (c_X6_isIn l D (s_X5_standing n la kd nd ri) deed ) ok_X6_isIn ws_X6_isIn wm_X6_98 [] rfl ⟨Nat.le_of_ble_eq_true rfl, Nat.le_of_ble_eq_true rfl⟩ rfl rfl (Nat.le_of_ble_eq_true rfl) dX6_bargain_63) rfl ?_
            refine r_ifne C (tgt := 72) dX6_bargain_66 (by decide) (fun c9 => ?_) (fun c9 => ?_)
            · rw [if_neg c9] at hv
              refine r_aln C dX6_bargain_72 rfl 0 rfl ?_
              refine gf_X6_10 C 0 rfl rfl dX6_bargain_73 ?_
              refine gf_X6_91 C 1 rfl rfl dX6_bargain_76 ?_
              refine r_ic C (v := (1 : Int32)) dX6_bargain_79 (by decide) ?_
              refine r_iln C dX6_bargain_80 rfl 1 rfl ?_
              refine r_ishl C dX6_bargain_81 ?_
              refine r_ior C dX6_bargain_82 ?_
              refine r_is C (lv' := [(5, .int (ri ||| ((1 : Int32) <<< (deed &&& 31)))), (0, .ref b), (1, .int deed), (2, .int first), (3, .int other), (4, .int what)]) dX6_bargain_83 (by decide) rfl ?_
              refine r_aln C dX6_bargain_85 rfl 1 rfl ?_
              refine gf_X6_10 C 0 rfl rfl dX6_bargain_86 ?_
              refine r_iln C dX6_bargain_89 rfl 3 rfl ?_
              refine r_il C dX6_bargain_90 0 rfl ?_
              refine r_stk (st2 := [.int (ri ||| ((1 : Int32) <<< (deed &&& 31))), .int (nI first.toNatClampNeg), .ref h]) (congrArg (fun (z : Int32) => ([.int (ri ||| ((1 : Int32) <<< (deed &&& 31))), .int z, .ref h] : List Value)) e4.1) ?_
              refine aft_rd (st' := [.int (s_X5_valueBy pe n la kd nd co wo first.toNatClampNeg (ri ||| ((1 : Int32) <<< (deed &&& 31))))]) (run_VN (rest := []) C (c_X5_valueBy l D h a1 a2 a3 a4 a5 a6 pe n td ys la ri kd dy nd co od wo first.toNatClampNeg (ri ||| ((1 : Int32) <<< (deed &&& 31))) (by omega) (by omega) (by omega)) ok_X5_valueBy wn_X5_valueBy wl_X5_valueBy wm_X6_162 [1, 2, 3, 4, 5, 6, 7] 0 rfl rfl rfl ⟨Nat.le_of_ble_eq_true rfl, Nat.le_of_ble_eq_true rfl⟩ rfl rfl (Nat.le_of_ble_eq_true rfl) dX6_bargain_92) rfl ?_
              refine r_aln C dX6_bargain_95 rfl 1 rfl ?_
              refine gf_X6_10 C 0 rfl rfl dX6_bargain_96 ?_
              refine r_iln C dX6_bargain_99 rfl 3 rfl ?_
              refine r_aln C dX6_bargain_100 rfl 1 rfl ?_
              refine gf_X6_10 C 0 rfl rfl dX6_bargain_101 ?_
              refine gf_X6_91 C 1 rfl rfl dX6_bargain_104 ?_
              refine r_stk (st2 := [.int ri, .int (nI first.toNatClampNeg), .ref h, .int (s_X5_valueBy pe n la kd nd co wo first.toNatClampNeg (ri ||| ((1 : Int32) <<< (deed &&& 31))))]) (congrArg (fun (z : Int32) => ([.int ri, .int z, .ref h, .int (s_X5_valueBy pe n la kd nd co wo first.toNatClampNeg (ri ||| ((1 : Int32) <<< (deed &&& 31))))] : List Value)) e4.1) ?_
              refine aft_rd (st' := [.int (s_X5_valueBy pe n la kd nd co wo first.toNatClampNeg ri), .int (s_X5_valueBy pe n la kd nd co wo first.toNatClampNeg (ri ||| ((1 : Int32) <<< (deed &&& 31))))]) (run_VN (rest := [.int (s_X5_valueBy pe n la kd nd co wo first.toNatClampNeg (ri ||| ((1 : Int32) <<< (deed &&& 31))))]) C (c_X5_valueBy l D h a1 a2 a3 a4 a5 a6 pe n td ys la ri kd dy nd co od wo first.toNatClampNeg ri (by omega) (by omega) (by omega)) ok_X5_valueBy wn_X5_valueBy wl_X5_valueBy wm_X6_162 [1, 2, 3, 4, 5, 6, 7] 0 rfl rfl rfl ⟨Nat.le_of_ble_eq_true rfl, Nat.le_of_ble_eq_true rfl⟩ rfl rfl (Nat.le_of_ble_eq_true rfl) dX6_bargain_107) rfl ?_
              refine r_isub C dX6_bargain_110 ?_
              refine r_is C (lv' := [(6, .int ((s_X5_valueBy pe n la kd nd co wo first.toNatClampNeg (ri ||| ((1 : Int32) <<< (deed &&& 31)))) - (s_X5_valueBy pe n la kd nd co wo first.toNatClampNeg ri))), (5, .int (ri ||| ((1 : Int32) <<< (deed &&& 31)))), (0, .ref b), (1, .int deed), (2, .int first), (3, .int other), (4, .int what)]) dX6_bargain_111 (by decide) rfl ?_
              refine r_aln C dX6_bargain_113 rfl 2 rfl ?_
              refine gf_X6_10 C 0 rfl rfl dX6_bargain_114 ?_
              refine r_iln C dX6_bargain_117 rfl 5 rfl ?_
              refine r_aln C dX6_bargain_118 rfl 2 rfl ?_
              refine gf_X6_10 C 0 rfl rfl dX6_bargain_119 ?_
              refine gf_X6_91 C 1 rfl rfl dX6_bargain_122 ?_
              refine r_stk (st2 := [.int ri, .int (nI other.toNatClampNeg), .ref h]) (congrArg (fun (z : Int32) => ([.int ri, .int z, .ref h] : List Value)) e6.1) ?_
              refine aft_rd (st' := [.int (s_X5_valueBy pe n la kd nd co wo other.toNatClampNeg ri)]) (run_VN (rest := []) C (c_X5_valueBy l D h a1 a2 a3 a4 a5 a6 pe n td ys la ri kd dy nd co od wo other.toNatClampNeg ri (by omega) (by omega) (by omega)) ok_X5_valueBy wn_X5_valueBy wl_X5_valueBy wm_X6_162 [1, 2, 3, 4, 5, 6, 7] 0 rfl rfl rfl ⟨Nat.le_of_ble_eq_true rfl, Nat.le_of_ble_eq_true rfl⟩ rfl rfl (Nat.le_of_ble_eq_true rfl) dX6_bargain_125) rfl ?_
              refine r_aln C dX6_bargain_128 rfl 2 rfl ?_
              refine gf_X6_10 C 0 rfl rfl dX6_bargain_129 ?_
              refine r_iln C dX6_bargain_132 rfl 5 rfl ?_
              refine r_il C dX6_bargain_133 1 rfl ?_
              refine r_stk (st2 := [.int (ri ||| ((1 : Int32) <<< (deed &&& 31))), .int (nI other.toNatClampNeg), .ref h, .int (s_X5_valueBy pe n la kd nd co wo other.toNatClampNeg ri)]) (congrArg (fun (z : Int32) => ([.int (ri ||| ((1 : Int32) <<< (deed &&& 31))), .int z, .ref h, .int (s_X5_valueBy pe n la kd nd co wo other.toNatClampNeg ri)] : List Value)) e6.1) ?_
              refine aft_rd (st' := [.int (s_X5_valueBy pe n la kd nd co wo other.toNatClampNeg (ri ||| ((1 : Int32) <<< (deed &&& 31)))), .int (s_X5_valueBy pe n la kd nd co wo other.toNatClampNeg ri)]) (run_VN (rest := [.int (s_X5_valueBy pe n la kd nd co wo other.toNatClampNeg ri)]) C (c_X5_valueBy l D h a1 a2 a3 a4 a5 a6 pe n td ys la ri kd dy nd co od wo other.toNatClampNeg (ri ||| ((1 : Int32) <<< (deed &&& 31))) (by omega) (by omega) (by omega)) ok_X5_valueBy wn_X5_valueBy wl_X5_valueBy wm_X6_162 [1, 2, 3, 4, 5, 6, 7] 0 rfl rfl rfl ⟨Nat.le_of_ble_eq_true rfl, Nat.le_of_ble_eq_true rfl⟩ rfl rfl (Nat.le_of_ble_eq_true rfl) dX6_bargain_135) rfl ?_
              refine r_isub C dX6_bargain_138 ?_
              refine r_is C (lv' := [(7, .int ((s_X5_valueBy pe n la kd nd co wo other.toNatClampNeg ri) - (s_X5_valueBy pe n la kd nd co wo other.toNatClampNeg (ri ||| ((1 : Int32) <<< (deed &&& 31)))))), (6, .int ((s_X5_valueBy pe n la kd nd co wo first.toNatClampNeg (ri ||| ((1 : Int32) <<< (deed &&& 31)))) - (s_X5_valueBy pe n la kd nd co wo first.toNatClampNeg ri))), (5, .int (ri ||| ((1 : Int32) <<< (deed &&& 31)))), (0, .ref b), (1, .int deed), (2, .int first), (3, .int other), (4, .int what)]) dX6_bargain_139 (by decide) rfl ?_
              refine r_il C dX6_bargain_141 1 rfl ?_
              refine r_il C dX6_bargain_143 0 rfl ?_
              refine r_iclt C (tgt := 153) dX6_bargain_145 (by decide) (fun c10 => ?_) (fun c10 => ?_)
              · rw [if_pos c10] at hv
                refine r_bp C (v := (-4 : Int32)) dX6_bargain_153 (by decide) ?_
                exact r_iret rfl C (congrArg (fun z => some (Value.int z)) hv) rfl dX6_bargain_155
              · rw [if_neg c10] at hv
                refine r_il C dX6_bargain_148 1 rfl ?_
                refine r_ifgt C (tgt := 156) dX6_bargain_150 (by decide) (fun c11 => ?_) (fun c11 => ?_)
                · rw [if_pos c11] at hv
                  refine r_il C dX6_bargain_156 7 rfl ?_
                  refine r_ifne C (tgt := 170) dX6_bargain_158 (by decide) (fun c12 => ?_) (fun c12 => ?_)
                  · rw [if_neg c12] at hv
                    refine r_il C dX6_bargain_170 1 rfl ?_
                    exact r_iret rfl C (congrArg (fun z => some (Value.int z)) hv) rfl dX6_bargain_172
                  · rw [if_pos c12] at hv
                    refine r_il C dX6_bargain_161 0 rfl ?_
                    refine r_ic C (v := (0 : Int32)) dX6_bargain_163 (by decide) ?_
                    refine r_mmax C wm_X6_185 (by decide) (by decide) dX6_bargain_164 ?_
                    refine r_goto C (tgt := 172) dX6_bargain_167 (by decide) ?_
                    exact r_iret rfl C (congrArg (fun z => some (Value.int z)) hv) rfl dX6_bargain_172
                · rw [if_neg c11] at hv
                  refine r_bp C (v := (-4 : Int32)) dX6_bargain_153 (by decide) ?_
                  exact r_iret rfl C (congrArg (fun z => some (Value.int z)) hv) rfl dX6_bargain_155
            · rw [if_pos c9] at hv
              refine r_bp C (v := (-2 : Int32)) dX6_bargain_69 (by decide) ?_
              exact r_iret rfl C (congrArg (fun z => some (Value.int z)) hv) rfl dX6_bargain_71
          · rw [if_pos c8] at hv
            refine r_ic C (v := (-1 : Int32)) dX6_bargain_46 (by decide) ?_
            exact r_iret rfl C (congrArg (fun z => some (Value.int z)) hv) rfl dX6_bargain_47

def s_X6_due (pe : Nat) (n : Nat) (ri : Int32) (co : Nat → Int32) (wo : Nat → Int32) (person : Int32) : Int32 := (if s_X5_isPerson pe person = (0 : Int32) then (-100001 : Int32) else s_X0_dueTo pe n ri co wo person.toNatClampNeg)
set_option maxHeartbeats 8000000 in
set_option maxRecDepth 100000 in
theorem c_X6_due (l : Launch) (D : va_G) (b : Nat) (h : Nat) (a1 : Nat) (a2 : Nat) (a3 : Nat) (a4 : Nat) (a5 : Nat) (a6 : Nat) (k0 : Nat) (g0 : Nat) (t0 : Nat) (s0 : Nat) (u1 : Nat) (u2 : Nat) (u3 : Nat) (pe : Nat) (n : Nat) (td : Int32) (ys : Int32) (la : Int32) (ri : Int32) (kd : Nat → Int32) (dy : Nat → Int32) (nd : Nat → Int32) (co : Nat → Int32) (od : Nat → Int32) (wo : Nat → Int32) (im : Int32) (person : Int32) (hn : n ≤ 12) (hp : 1 ≤ pe ∧ pe ≤ 4) : ct l yX6_due cX6_due 2 (some .int) 4 95 D [.ref b, .int person] (wBN D b h a1 a2 a3 a4 a5 a6 k0 g0 t0 s0 u1 u2 u3 pe n td ys la ri kd dy nd co od wo im) (wBN D b h a1 a2 a3 a4 a5 a6 k0 g0 t0 s0 u1 u2 u3 pe n td ys la ri kd dy nd co od wo im) (fun _ => False) (some (Value.int (s_X6_due pe n ri co wo person))) := by
  obtain ⟨V, hv⟩ : ∃ V, s_X6_due pe n ri co wo person = V := ⟨_, rfl⟩
  rw [hv]
  refine ct_intro (own := RX6) (lv := [(0, .ref b), (1, .int person)]) (by decide) rfl (Nat.le_of_ble_eq_true rfl) rfl ?_
  intro p_ e_ s_ m_ below_ meth_ c_ C
  have hv : (if s_X5_isPerson pe person = (0 : Int32) then (-100001 : Int32) else s_X0_dueTo pe n ri co wo person.toNatClampNeg) = V := hv
  refine r_aln C dX6_due_0 rfl 0 rfl ?_
  refine gf_X6_10 C 0 rfl rfl dX6_due_1 ?_
  refine r_iln C dX6_due_4 rfl 1 rfl ?_
  refine aft_rd (st' := [.int (s_X5_isPerson pe person)]) (run_VN (rest := []) C (c_X5_isPerson l D h a1 a2 a3 a4 a5 a6 pe n td ys la ri kd dy nd co od wo person ) ok_X5_isPerson wn_X5_isPerson wl_X5_isPerson wm_X6_159 [1, 2, 3, 4, 5, 6, 7] 0 rfl rfl rfl ⟨Nat.le_of_ble_eq_true rfl, Nat.le_of_ble_eq_true rfl⟩ rfl rfl (Nat.le_of_ble_eq_true rfl) dX6_due_5) rfl ?_
  refine r_ifeq C (tgt := 22) dX6_due_8 (by decide) (fun c1 => ?_) (fun c1 => ?_)
  · rw [if_pos c1] at hv
    refine r_ldc C wc_X6_107 dX6_due_22 ?_
    exact r_iret rfl C (congrArg (fun z => some (Value.int z)) hv) rfl dX6_due_24
  · rw [if_neg c1] at hv
    have e2 := isPerson_nat hp c1
    refine r_aln C dX6_due_11 rfl 0 rfl ?_
    refine gf_X6_10 C 0 rfl rfl dX6_due_12 ?_
    refine r_iln C dX6_due_15 rfl 1 rfl ?_
    refine r_stk (st2 := [.int (nI person.toNatClampNeg), .ref h]) (congrArg (fun (z : Int32) => ([.int z, .ref h] : List Value)) e2.1) ?_
    refine aft_rd (st' := [.int (s_X0_dueTo pe n ri co wo person.toNatClampNeg)]) (run_SN (rest := []) C (c_X0_dueTo l D h a1 a2 a3 a4 a5 a6 pe n td ys la ri kd dy nd co od wo person.toNatClampNeg (by omega) (by omega) (by omega)) ok_X0_dueTo ws_X0_dueTo wm_X6_190 [1, 2, 3, 4, 5, 6, 7] rfl ⟨Nat.le_of_ble_eq_true rfl, Nat.le_of_ble_eq_true rfl⟩ rfl rfl (Nat.le_of_ble_eq_true rfl) dX6_due_16) rfl ?_
    refine r_goto C (tgt := 24) dX6_due_19 (by decide) ?_
    exact r_iret rfl C (congrArg (fun z => some (Value.int z)) hv) rfl dX6_due_24

def s_X6_payments_L2 (pe : Nat) (n : Nat) (ri : Int32) (co : Nat → Int32) (wo : Nat → Int32) : Nat → Nat → (Nat → Int32) → (Nat → Int32)
  | 0, _, du_3 => du_3
  | k1 + 1, d2, du_3 => (if s_X5_isPerson pe (nI d2) = (0 : Int32) then (s_X6_payments_L2 pe n ri co wo k1 (d2 + 1) (upd du_3 d2 (0 : Int32))) else (s_X6_payments_L2 pe n ri co wo k1 (d2 + 1) (upd du_3 d2 (s_X0_dueTo pe n ri co wo d2))))
def s_X6_payments (pe : Nat) (n : Nat) (ri : Int32) (co : Nat → Int32) (wo : Nat → Int32) (du : Nat → Int32) : Int32 × (Nat → Int32) := (s_X0_fewestPayments (s_X6_payments_L2 pe n ri co wo 4 0 du), (s_X6_payments_L2 pe n ri co wo 4 0 du))
set_option maxHeartbeats 8000000 in
set_option maxRecDepth 100000 in
theorem c_X6_payments (l : Launch) (D : va_G) (b : Nat) (h : Nat) (a1 : Nat) (a2 : Nat) (a3 : Nat) (a4 : Nat) (a5 : Nat) (a6 : Nat) (u3 : Nat) (k0 : Nat) (g0 : Nat) (t0 : Nat) (s0 : Nat) (u1 : Nat) (u2 : Nat) (pe : Nat) (n : Nat) (td : Int32) (ys : Int32) (la : Int32) (ri : Int32) (kd : Nat → Int32) (dy : Nat → Int32) (nd : Nat → Int32) (co : Nat → Int32) (od : Nat → Int32) (wo : Nat → Int32) (du : Nat → Int32) (im : Int32) (hn : n ≤ 12) (hp : 1 ≤ pe ∧ pe ≤ 4) (h0 : va_D (fun _ => True) (wBN3 D b h a1 a2 a3 a4 a5 a6 u3 k0 g0 t0 s0 u1 u2 pe n td ys la ri kd dy nd co od wo du im)) : ct l yX6_payments cX6_payments 2 (some .int) 4 95 D [.ref b] (wBN3 D b h a1 a2 a3 a4 a5 a6 u3 k0 g0 t0 s0 u1 u2 pe n td ys la ri kd dy nd co od wo du im) (wBN3 D b h a1 a2 a3 a4 a5 a6 u3 k0 g0 t0 s0 u1 u2 pe n td ys la ri kd dy nd co od wo (s_X6_payments pe n ri co wo du).2 im) (Ad (wBN3 D b h a1 a2 a3 a4 a5 a6 u3 k0 g0 t0 s0 u1 u2 pe n td ys la ri kd dy nd co od wo du im)) (some (Value.int (s_X6_payments pe n ri co wo du).1)) := by
  obtain ⟨V, hv⟩ : ∃ V, s_X6_payments pe n ri co wo du = V := ⟨_, rfl⟩
  rw [hv]
  refine ct_intro (own := RX6) (lv := [(0, .ref b)]) (by decide) rfl (Nat.le_of_ble_eq_true rfl) rfl ?_
  intro p_ e_ s_ m_ below_ meth_ c_ C
  have hv : (s_X0_fewestPayments (s_X6_payments_L2 pe n ri co wo 4 0 du), (s_X6_payments_L2 pe n ri co wo 4 0 du)) = V := hv
  refine r_ic C (v := (0 : Int32)) dX6_payments_0 (by decide) ?_
  refine r_isn C (lv' := [(1, .int (0 : Int32)), (0, .ref b)]) dX6_payments_1 rfl (by decide) rfl ?_
  have L8 : ∀ (k1 : Nat) (d2 : Nat) (du_3 : Nat → Int32), (d2 + k1 = 4) → (s_X0_fewestPayments (s_X6_payments_L2 pe n ri co wo k1 d2 du_3), (s_X6_payments_L2 pe n ri co wo k1 d2 du_3)) = V → GM p_ l e_ s_ m_ below_ meth_ c_ D 4 95 2 [.ref b] (wBN3 D b h a1 a2 a3 a4 a5 a6 u3 k0 g0 t0 s0 u1 u2 pe n td ys la ri kd dy nd co od wo V.2 im) (Ad (wBN3 D b h a1 a2 a3 a4 a5 a6 u3 k0 g0 t0 s0 u1 u2 pe n td ys la ri kd dy nd co od wo du im)) (some (Value.int V.1)) (wBN3 D b h a1 a2 a3 a4 a5 a6 u3 k0 g0 t0 s0 u1 u2 pe n td ys la ri kd dy nd co od wo du_3 im) 2 [(1, .int (nI d2)), (0, .ref b)] [] := by
    intro k1
    induction k1 with
    | zero =>
      intro d2 du_3 hk hv
      have hv : (s_X0_fewestPayments du_3, du_3) = V := hv
      refine r_iln C dX6_payments_2 rfl 0 rfl ?_
      refine r_ic C (v := (4 : Int32)) dX6_payments_3 (by decide) ?_
      refine r_icge C (tgt := 42) dX6_payments_4 (by decide) (fun c4 => ?_) (fun c4 => ?_)
      · skip
        refine r_aln C dX6_payments_42 rfl 1 rfl ?_
        refine gf_X6_43 C 0 rfl rfl dX6_payments_43 ?_
        refine aft_rd (st' := [.int (s_X0_fewestPayments du_3)]) (run_SN (rest := []) C (c_X0_fewestPayments l D u3 du_3 ) ok_X0_fewestPayments ws_X0_fewestPayments wm_X6_195 [8] rfl ⟨Nat.le_of_ble_eq_true rfl, Nat.le_of_ble_eq_true rfl⟩ rfl rfl (Nat.le_of_ble_eq_true rfl) dX6_payments_46) rfl ?_
        exact r_iret rfl C (by rw [← hv]) (by rw [← hv]) dX6_payments_49
      · exact absurd c4 (fun z => absurd ((nv_lt (a := d2) (b := 4) rfl rfl (by omega) (by omega)).mp z) (by omega))
    | succ k1 ih5 =>
      intro d2 du_3 hk hv
      have hv : (s_X0_fewestPayments (if s_X5_isPerson pe (nI d2) = (0 : Int32) then (s_X6_payments_L2 pe n ri co wo k1 (d2 + 1) (upd du_3 d2 (0 : Int32))) else (s_X6_payments_L2 pe n ri co wo k1 (d2 + 1) (upd du_3 d2 (s_X0_dueTo pe n ri co wo d2)))), (if s_X5_isPerson pe (nI d2) = (0 : Int32) then (s_X6_payments_L2 pe n ri co wo k1 (d2 + 1) (upd du_3 d2 (0 : Int32))) else (s_X6_payments_L2 pe n ri co wo k1 (d2 + 1) (upd du_3 d2 (s_X0_dueTo pe n ri co wo d2))))) = V := hv
      refine r_iln C dX6_payments_2 rfl 0 rfl ?_
      refine r_ic C (v := (4 : Int32)) dX6_payments_3 (by decide) ?_
      refine r_icge C (tgt := 42) dX6_payments_4 (by decide) (fun c6 => ?_) (fun c6 => ?_)
      · exact absurd ((nv_lt (a := d2) (b := 4) rfl rfl (by omega) (by omega)).mpr (by omega)) c6
      · skip
        refine r_aln C dX6_payments_7 rfl 1 rfl ?_
        refine gf_X6_43 C 0 rfl rfl dX6_payments_8 ?_
        refine r_iln C dX6_payments_11 rfl 0 rfl ?_
        refine r_aln C dX6_payments_12 rfl 1 rfl ?_
        refine gf_X6_10 C 0 rfl rfl dX6_payments_13 ?_
        refine r_iln C dX6_payments_16 rfl 0 rfl ?_
        refine aft_rd (st' := [.int (s_X5_isPerson pe (nI d2)), .int (nI d2), .ref u3]) (run_VN (rest := [.int (nI d2), .ref u3]) C (c_X5_isPerson l D h a1 a2 a3 a4 a5 a6 pe n td ys la ri kd dy nd co od wo (nI d2) ) ok_X5_isPerson wn_X5_isPerson wl_X5_isPerson wm_X6_159 [1, 2, 3, 4, 5, 6, 7] 0 rfl rfl rfl ⟨Nat.le_of_ble_eq_true rfl, Nat.le_of_ble_eq_true rfl⟩ rfl rfl (Nat.le_of_ble_eq_true rfl) dX6_payments_17) rfl ?_
        refine r_ifeq C (tgt := 34) dX6_payments_20 (by decide) (fun c7 => ?_) (fun c7 => ?_)
        · rw [if_pos c7] at hv
          refine r_ic C (v := (0 : Int32)) dX6_payments_34 (by decide) ?_
          refine r_iast C (ws2 := wBN3 D b h a1 a2 a3 a4 a5 a6 u3 k0 g0 t0 s0 u1 u2 pe n td ys la ri kd dy nd co od wo (upd du_3 d2 (0 : Int32)) im) h0 rfl 8 d2 rfl rfl (by omega) (by decide) dX6_payments_35 rfl rfl ?_
          refine r_inc C (v := nI (d2 + 1)) (lv' := [(1, .int (nI (d2 + 1))), (0, .ref b)]) dX6_payments_36 0 rfl (inc_nI d2) (by decide) rfl ?_
          refine r_goto C (tgt := 2) dX6_payments_39 (by decide) ?_
          exact ih5 (d2 + 1) (upd du_3 d2 (0 : Int32)) (by omega) hv
        · rw [if_neg c7] at hv
          refine r_aln C dX6_payments_23 rfl 1 rfl ?_
          refine gf_X6_10 C 0 rfl rfl dX6_payments_24 ?_
          refine r_iln C dX6_payments_27 rfl 0 rfl ?_
          refine aft_rd (st' := [.int (s_X0_dueTo pe n ri co wo d2), .int (nI d2), .ref u3]) (run_SN (rest := [.int (nI d2), .ref u3]) C (c_X0_dueTo l D h a1 a2 a3 a4 a5 a6 pe n td ys la ri kd dy nd co od wo d2 (by omega) (by omega) (by omega)) ok_X0_dueTo ws_X0_dueTo wm_X6_190 [1, 2, 3, 4, 5, 6, 7] rfl ⟨Nat.le_of_ble_eq_true rfl, Nat.le_of_ble_eq_true rfl⟩ rfl rfl (Nat.le_of_ble_eq_true rfl) dX6_payments_28) rfl ?_
          refine r_goto C (tgt := 35) dX6_payments_31 (by decide) ?_
          refine r_iast C (ws2 := wBN3 D b h a1 a2 a3 a4 a5 a6 u3 k0 g0 t0 s0 u1 u2 pe n td ys la ri kd dy nd co od wo (upd du_3 d2 (s_X0_dueTo pe n ri co wo d2)) im) h0 rfl 8 d2 rfl rfl (by omega) (by decide) dX6_payments_35 rfl rfl ?_
          refine r_inc C (v := nI (d2 + 1)) (lv' := [(1, .int (nI (d2 + 1))), (0, .ref b)]) dX6_payments_36 0 rfl (inc_nI d2) (by decide) rfl ?_
          refine r_goto C (tgt := 2) dX6_payments_39 (by decide) ?_
          exact ih5 (d2 + 1) (upd du_3 d2 (s_X0_dueTo pe n ri co wo d2)) (by omega) hv
  refine r_lve (lv2 := [(1, .int (nI 0)), (0, .ref b)]) (congrArg (fun (z : Int32) => ([(1, .int z), (0, .ref b)] : List (Nat × Value))) rfl) ?_
  exact L8 4 0 du (by omega) hv

def s_X6_forgotten_L61 (n : Nat) (la : Int32) (kd : Nat → Int32) (dy : Nat → Int32) (nd : Nat → Int32) (day : Int32) (tol : Int32) : Nat → Nat → Int32 → Int32 → Int32 × Int32
  | 0, _, cnt_6, sure_7 => (cnt_6, sure_7)
  | k4 + 1, d5, cnt_6, sure_7 => (if s_X6_isWithin (nI d5) (nI ((s_X5_ofDay n dy day).toNatClampNeg)) = (0 : Int32) then (s_X6_forgotten_L61 n la kd dy nd day tol k4 (d5 + 1) cnt_6 sure_7) else (if s_X1_explains n la kd nd (tol ||| (nI d5)) ((s_X5_all n) &&& ((nI ((s_X5_ofDay n dy day).toNatClampNeg)) ^^^ (-1 : Int32))) = (0 : Int32) then (s_X6_forgotten_L61 n la kd dy nd day tol k4 (d5 + 1) cnt_6 sure_7) else (s_X6_forgotten_L61 n la kd dy nd day tol k4 (d5 + 1) (cnt_6 + (1 : Int32)) (sure_7 &&& (nI d5)))))
def s_X6_forgotten (n : Nat) (la : Int32) (kd : Nat → Int32) (dy : Nat → Int32) (nd : Nat → Int32) (day : Int32) (tol : Int32) (what : Int32) : Int32 := (if s_X6_isDay day = (0 : Int32) then (-1 : Int32) else (if s_X6_isChoice what = (0 : Int32) then (-1 : Int32) else (if s_X6_isWithin tol ((s_X5_all n) &&& ((nI ((s_X5_ofDay n dy day).toNatClampNeg)) ^^^ (-1 : Int32))) = (0 : Int32) then (-1 : Int32) else (if what = (0 : Int32) then ((s_X6_forgotten_L61 n la kd dy nd day tol ((s_X5_ofDay n dy day).toNatClampNeg + 1) 0 (0 : Int32) (nI ((s_X5_ofDay n dy day).toNatClampNeg))).1) else (if ((s_X6_forgotten_L61 n la kd dy nd day tol ((s_X5_ofDay n dy day).toNatClampNeg + 1) 0 (0 : Int32) (nI ((s_X5_ofDay n dy day).toNatClampNeg))).1) = (0 : Int32) then (-4 : Int32) else ((s_X6_forgotten_L61 n la kd dy nd day tol ((s_X5_ofDay n dy day).toNatClampNeg + 1) 0 (0 : Int32) (nI ((s_X5_ofDay n dy day).toNatClampNeg))).2))))))
set_option maxHeartbeats 8000000 in
set_option maxRecDepth 100000 in
theorem c_X6_forgotten (l : Launch) (D : va_G) (b : Nat) (h : Nat) (a1 : Nat) (a2 : Nat) (a3 : Nat) (a4 : Nat) (a5 : Nat) (a6 : Nat) (k0 : Nat) (g0 : Nat) (t0 : Nat) (s0 : Nat) (u1 : Nat) (u2 : Nat) (u3 : Nat) (pe : Nat) (n : Nat) (td : Int32) (ys : Int32) (la : Int32) (ri : Int32) (kd : Nat → Int32) (dy : Nat → Int32) (nd : Nat → Int32) (co : Nat → Int32) (od : Nat → Int32) (wo : Nat → Int32) (im : Int32) (day : Int32) (tol : Int32) (what : Int32) (hn : n ≤ 12) : ct l yX6_forgotten cX6_forgotten 9 (some .int) 3 69 D [.ref b, .int day, .int tol, .int what] (wBN D b h a1 a2 a3 a4 a5 a6 k0 g0 t0 s0 u1 u2 u3 pe n td ys la ri kd dy nd co od wo im) (wBN D b h a1 a2 a3 a4 a5 a6 k0 g0 t0 s0 u1 u2 u3 pe n td ys la ri kd dy nd co od wo im) (fun _ => False) (some (Value.int (s_X6_forgotten n la kd dy nd day tol what))) := by
  obtain ⟨V, hv⟩ : ∃ V, s_X6_forgotten n la kd dy nd day tol what = V := ⟨_, rfl⟩
  rw [hv]
  refine ct_intro (own := RX6) (lv := [(0, .ref b), (1, .int day), (2, .int tol), (3, .int what)]) (by decide) rfl (Nat.le_of_ble_eq_true rfl) rfl ?_
  intro p_ e_ s_ m_ below_ meth_ c_ C
  have hv : (if s_X6_isDay day = (0 : Int32) then (-1 : Int32) else (if s_X6_isChoice what = (0 : Int32) then (-1 : Int32) else (if s_X6_isWithin tol ((s_X5_all n) &&& ((nI ((s_X5_ofDay n dy day).toNatClampNeg)) ^^^ (-1 : Int32))) = (0 : Int32) then (-1 : Int32) else (if what = (0 : Int32) then ((s_X6_forgotten_L61 n la kd dy nd day tol ((s_X5_ofDay n dy day).toNatClampNeg + 1) 0 (0 : Int32) (nI ((s_X5_ofDay n dy day).toNatClampNeg))).1) else (if ((s_X6_forgotten_L61 n la kd dy nd day tol ((s_X5_ofDay n dy day).toNatClampNeg + 1) 0 (0 : Int32) (nI ((s_X5_ofDay n dy day).toNatClampNeg))).1) = (0 : Int32) then (-4 : Int32) else ((s_X6_forgotten_L61 n la kd dy nd day tol ((s_X5_ofDay n dy day).toNatClampNeg + 1) 0 (0 : Int32) (nI ((s_X5_ofDay n dy day).toNatClampNeg))).2)))))) = V := hv
  refine r_iln C dX6_forgotten_0 rfl 1 rfl ?_
  refine aft_rd (st' := [.int (s_X6_isDay day)]) (run_S (rest := []) C (c_X6_isDay l D day ) ok_X6_isDay ws_X6_isDay wm_X6_54 [] rfl ⟨Nat.le_of_ble_eq_true rfl, Nat.le_of_ble_eq_true rfl⟩ rfl rfl (Nat.le_of_ble_eq_true rfl) dX6_forgotten_1) rfl ?_
  refine r_ifeq C (tgt := 14) dX6_forgotten_4 (by decide) (fun c1 => ?_) (fun c1 => ?_)
  · rw [if_pos c1] at hv
    refine r_ic C (v := (-1 : Int32)) dX6_forgotten_14 (by decide) ?_
    exact r_iret rfl C (congrArg (fun z => some (Value.int z)) hv) rfl dX6_forgotten_15
  · rw [if_neg c1] at hv
    refine r_iln C dX6_forgotten_7 rfl 3 rfl ?_
    refine aft_rd (st' := [.int (s_X6_isChoice what)]) (run_S (rest := []) C (c_X6_isChoice l D what ) ok_X6_isChoice ws_X6_isChoice wm_X6_101 [] rfl ⟨Nat.le_of_ble_eq_true rfl, Nat.le_of_ble_eq_true rfl⟩ rfl rfl (Nat.le_of_ble_eq_true rfl) dX6_forgotten_8) rfl ?_
    refine r_ifne C (tgt := 16) dX6_forgotten_11 (by decide) (fun c2 => ?_) (fun c2 => ?_)
    · rw [if_neg c2] at hv
      refine r_aln C dX6_forgotten_16 rfl 0 rfl ?_
      refine gf_X6_10 C 0 rfl rfl dX6_forgotten_17 ?_
      refine r_iln C dX6_forgotten_20 rfl 1 rfl ?_
      refine aft_rd (st' := [.int (s_X5_ofDay n dy day)]) (run_VN (rest := []) C (c_X5_ofDay l D h a1 a2 a3 a4 a5 a6 pe n td ys la ri kd dy nd co od wo day (by omega)) ok_X5_ofDay wn_X5_ofDay wl_X5_ofDay wm_X6_144 [1, 2, 3, 4, 5, 6, 7] 0 rfl rfl rfl ⟨Nat.le_of_ble_eq_true rfl, Nat.le_of_ble_eq_true rfl⟩ rfl rfl (Nat.le_of_ble_eq_true rfl) dX6_forgotten_21) rfl ?_
      refine r_top (nn_nI (isSet_nn hn (isSet_ofDay hn dy day)).1) ?_
      have hO := (isSet_nn hn (isSet_ofDay hn dy day)).2.2
      refine r_is C (lv' := [(4, .int (nI ((s_X5_ofDay n dy day).toNatClampNeg))), (0, .ref b), (1, .int day), (2, .int tol), (3, .int what)]) dX6_forgotten_24 (by decide) rfl ?_
      refine r_aln C dX6_forgotten_26 rfl 1 rfl ?_
      refine gf_X6_10 C 0 rfl rfl dX6_forgotten_27 ?_
      refine aft_rd (st' := [.int (s_X5_all n)]) (run_VN (rest := []) C (c_X5_all l D h a1 a2 a3 a4 a5 a6 pe n td ys la ri kd dy nd co od wo ) ok_X5_all wn_X5_all wl_X5_all wm_X6_114 [1, 2, 3, 4, 5, 6, 7] 0 rfl rfl rfl ⟨Nat.le_of_ble_eq_true rfl, Nat.le_of_ble_eq_true rfl⟩ rfl rfl (Nat.le_of_ble_eq_true rfl) dX6_forgotten_30) rfl ?_
      refine r_il C dX6_forgotten_33 0 rfl ?_
      refine r_ic C (v := (-1 : Int32)) dX6_forgotten_35 (by decide) ?_
      refine r_ixor C dX6_forgotten_36 ?_
      refine r_iand C dX6_forgotten_37 ?_
      refine r_is C (lv' := [(5, .int ((s_X5_all n) &&& ((nI ((s_X5_ofDay n dy day).toNatClampNeg)) ^^^ (-1 : Int32)))), (4, .int (nI ((s_X5_ofDay n dy day).toNatClampNeg))), (0, .ref b), (1, .int day), (2, .int tol), (3, .int what)]) dX6_forgotten_38 (by decide) rfl ?_
      refine r_iln C dX6_forgotten_40 rfl 4 rfl ?_
      refine r_il C dX6_forgotten_41 0 rfl ?_
      refine aft_rd (st' := [.int (s_X6_isWithin tol ((s_X5_all n) &&& ((nI ((s_X5_ofDay n dy day).toNatClampNeg)) ^^^ (-1 : Int32))))]) (run_S (rest := []) C (c_X6_isWithin l D tol ((s_X5_all n) &&& ((nI ((s_X5_ofDay n dy day).toNatClampNeg)) ^^^ (-1 : Int32))) ) ok_X6_isWithin ws_X6_isWithin wm_X6_65 [] rfl ⟨Nat.le_of_ble_eq_true rfl, Nat.le_of_ble_eq_true rfl⟩ rfl rfl (Nat.le_of_ble_eq_true rfl) dX6_forgotten_43) rfl ?_
      refine r_ifne C (tgt := 51) dX6_forgotten_46 (by decide) (fun c3 => ?_) (fun c3 => ?_)
      · rw [if_neg c3] at hv
        refine r_ic C (v := (0 : Int32)) dX6_forgotten_51 (by decide) ?_
        refine r_is C (lv' := [(6, .int (0 : Int32)), (5, .int ((s_X5_all n) &&& ((nI ((s_X5_ofDay n dy day).toNatClampNeg)) ^^^ (-1 : Int32)))), (4, .int (nI ((s_X5_ofDay n dy day).toNatClampNeg))), (0, .ref b), (1, .int day), (2, .int tol), (3, .int what)]) dX6_forgotten_52 (by decide) rfl ?_
        refine r_il C dX6_forgotten_54 2 rfl ?_
        refine r_is C (lv' := [(7, .int (nI ((s_X5_ofDay n dy day).toNatClampNeg))), (6, .int (0 : Int32)), (5, .int ((s_X5_all n) &&& ((nI ((s_X5_ofDay n dy day).toNatClampNeg)) ^^^ (-1 : Int32)))), (4, .int (nI ((s_X5_ofDay n dy day).toNatClampNeg))), (0, .ref b), (1, .int day), (2, .int tol), (3, .int what)]) dX6_forgotten_56 (by decide) rfl ?_
        refine r_ic C (v := (0 : Int32)) dX6_forgotten_58 (by decide) ?_
        refine r_is C (lv' := [(8, .int (0 : Int32)), (7, .int (nI ((s_X5_ofDay n dy day).toNatClampNeg))), (6, .int (0 : Int32)), (5, .int ((s_X5_all n) &&& ((nI ((s_X5_ofDay n dy day).toNatClampNeg)) ^^^ (-1 : Int32)))), (4, .int (nI ((s_X5_ofDay n dy day).toNatClampNeg))), (0, .ref b), (1, .int day), (2, .int tol), (3, .int what)]) dX6_forgotten_59 (by decide) rfl ?_
        have L15 : ∀ (k4 : Nat) (d5 : Nat) (cnt_6 : Int32) (sure_7 : Int32), (d5 + k4 = (s_X5_ofDay n dy day).toNatClampNeg + 1) → (if what = (0 : Int32) then ((s_X6_forgotten_L61 n la kd dy nd day tol k4 d5 cnt_6 sure_7).1) else (if ((s_X6_forgotten_L61 n la kd dy nd day tol k4 d5 cnt_6 sure_7).1) = (0 : Int32) then (-4 : Int32) else ((s_X6_forgotten_L61 n la kd dy nd day tol k4 d5 cnt_6 sure_7).2))) = V → GM p_ l e_ s_ m_ below_ meth_ c_ D 3 69 9 [.ref b, .int day, .int tol, .int what] (wBN D b h a1 a2 a3 a4 a5 a6 k0 g0 t0 s0 u1 u2 u3 pe n td ys la ri kd dy nd co od wo im) (fun _ => False) (some (Value.int V)) (wBN D b h a1 a2 a3 a4 a5 a6 k0 g0 t0 s0 u1 u2 u3 pe n td ys la ri kd dy nd co od wo im) 61 [(8, .int (nI d5)), (7, .int sure_7), (6, .int cnt_6), (5, .int ((s_X5_all n) &&& ((nI ((s_X5_ofDay n dy day).toNatClampNeg)) ^^^ (-1 : Int32)))), (4, .int (nI ((s_X5_ofDay n dy day).toNatClampNeg))), (0, .ref b), (1, .int day), (2, .int tol), (3, .int what)] [] := by
          intro k4
          induction k4 with
          | zero =>
            intro d5 cnt_6 sure_7 hk hv
            have hv : (if what = (0 : Int32) then cnt_6 else (if cnt_6 = (0 : Int32) then (-4 : Int32) else sure_7)) = V := hv
            refine r_il C dX6_forgotten_61 0 rfl ?_
            refine r_il C dX6_forgotten_63 4 rfl ?_
            refine r_icgt C (tgt := 110) dX6_forgotten_65 (by decide) (fun c8 => ?_) (fun c8 => ?_)
            · skip
              refine r_iln C dX6_forgotten_110 rfl 8 rfl ?_
              refine r_ifne C (tgt := 117) dX6_forgotten_111 (by decide) (fun c9 => ?_) (fun c9 => ?_)
              · rw [if_neg c9] at hv
                refine r_il C dX6_forgotten_117 2 rfl ?_
                refine r_ifne C (tgt := 127) dX6_forgotten_119 (by decide) (fun c10 => ?_) (fun c10 => ?_)
                · rw [if_neg c10] at hv
                  refine r_il C dX6_forgotten_127 1 rfl ?_
                  exact r_iret rfl C (congrArg (fun z => some (Value.int z)) hv) rfl dX6_forgotten_129
                · rw [if_pos c10] at hv
                  refine r_bp C (v := (-4 : Int32)) dX6_forgotten_122 (by decide) ?_
                  refine r_goto C (tgt := 129) dX6_forgotten_124 (by decide) ?_
                  exact r_iret rfl C (congrArg (fun z => some (Value.int z)) hv) rfl dX6_forgotten_129
              · rw [if_pos c9] at hv
                refine r_il C dX6_forgotten_114 2 rfl ?_
                exact r_iret rfl C (congrArg (fun z => some (Value.int z)) hv) rfl dX6_forgotten_116
            · exact absurd ((nv_lt (a := (s_X5_ofDay n dy day).toNatClampNeg) (b := d5) rfl rfl (by omega) (by omega)).mpr (by omega)) c8
          | succ k4 ih11 =>
            intro d5 cnt_6 sure_7 hk hv
            have hv : (if what = (0 : Int32) then ((if s_X6_isWithin (nI d5) (nI ((s_X5_ofDay n dy day).toNatClampNeg)) = (0 : Int32) then (s_X6_forgotten_L61 n la kd dy nd day tol k4 (d5 + 1) cnt_6 sure_7) else (if s_X1_explains n la kd nd (tol ||| (nI d5)) ((s_X5_all n) &&& ((nI ((s_X5_ofDay n dy day).toNatClampNeg)) ^^^ (-1 : Int32))) = (0 : Int32) then (s_X6_forgotten_L61 n la kd dy nd day tol k4 (d5 + 1) cnt_6 sure_7) else (s_X6_forgotten_L61 n la kd dy nd day tol k4 (d5 + 1) (cnt_6 + (1 : Int32)) (sure_7 &&& (nI d5))))).1) else (if ((if s_X6_isWithin (nI d5) (nI ((s_X5_ofDay n dy day).toNatClampNeg)) = (0 : Int32) then (s_X6_forgotten_L61 n la kd dy nd day tol k4 (d5 + 1) cnt_6 sure_7) else (if s_X1_explains n la kd nd (tol ||| (nI d5)) ((s_X5_all n) &&& ((nI ((s_X5_ofDay n dy day).toNatClampNeg)) ^^^ (-1 : Int32))) = (0 : Int32) then (s_X6_forgotten_L61 n la kd dy nd day tol k4 (d5 + 1) cnt_6 sure_7) else (s_X6_forgotten_L61 n la kd dy nd day tol k4 (d5 + 1) (cnt_6 + (1 : Int32)) (sure_7 &&& (nI d5))))).1) = (0 : Int32) then (-4 : Int32) else ((if s_X6_isWithin (nI d5) (nI ((s_X5_ofDay n dy day).toNatClampNeg)) = (0 : Int32) then (s_X6_forgotten_L61 n la kd dy nd day tol k4 (d5 + 1) cnt_6 sure_7) else (if s_X1_explains n la kd nd (tol ||| (nI d5)) ((s_X5_all n) &&& ((nI ((s_X5_ofDay n dy day).toNatClampNeg)) ^^^ (-1 : Int32))) = (0 : Int32) then (s_X6_forgotten_L61 n la kd dy nd day tol k4 (d5 + 1) cnt_6 sure_7) else (s_X6_forgotten_L61 n la kd dy nd day tol k4 (d5 + 1) (cnt_6 + (1 : Int32)) (sure_7 &&& (nI d5))))).2))) = V := hv
            refine r_il C dX6_forgotten_61 0 rfl ?_
            refine r_il C dX6_forgotten_63 4 rfl ?_
            refine r_icgt C (tgt := 110) dX6_forgotten_65 (by decide) (fun c12 => ?_) (fun c12 => ?_)
            · exact absurd c12 (fun z => absurd ((nv_lt (a := (s_X5_ofDay n dy day).toNatClampNeg) (b := d5) rfl rfl (by omega) (by omega)).mp z) (by omega))
            · skip
              refine r_il C dX6_forgotten_68 0 rfl ?_
              refine r_il C dX6_forgotten_70 4 rfl ?_
              refine aft_rd (st' := [.int (s_X6_isWithin (nI d5) (nI ((s_X5_ofDay n dy day).toNatClampNeg)))]) (run_S (rest := []) C (c_X6_isWithin l D (nI d5) (nI ((s_X5_ofDay n dy day).toNatClampNeg)) ) ok_X6_isWithin ws_X6_isWithin wm_X6_65 [] rfl ⟨Nat.le_of_ble_eq_true rfl, Nat.le_of_ble_eq_true rfl⟩ rfl rfl (Nat.le_of_ble_eq_true rfl) dX6_forgotten_72) rfl ?_
              refine r_ifeq C (tgt := 104) dX6_forgotten_75 (by decide) (fun c13 => ?_) (fun c13 => ?_)
              · rw [if_pos c13] at hv
                refine r_inc C (v := nI (d5 + 1)) (lv' := [(8, .int (nI (d5 + 1))), (7, .int sure_7), (6, .int cnt_6), (5, .int ((s_X5_all n) &&& ((nI ((s_X5_ofDay n dy day).toNatClampNeg)) ^^^ (-1 : Int32)))), (4, .int (nI ((s_X5_ofDay n dy day).toNatClampNeg))), (0, .ref b), (1, .int day), (2, .int tol), (3, .int what)]) dX6_forgotten_104 0 rfl (inc_nI d5) (by decide) rfl ?_
                refine r_goto C (tgt := 61) dX6_forgotten_107 (by decide) ?_
                exact ih11 (d5 + 1) cnt_6 sure_7 (by omega) hv
              · rw [if_neg c13] at hv
                refine r_aln C dX6_forgotten_78 rfl 5 rfl ?_
                refine gf_X6_10 C 0 rfl rfl dX6_forgotten_79 ?_
                refine r_iln C dX6_forgotten_82 rfl 7 rfl ?_
                refine r_il C dX6_forgotten_83 0 rfl ?_
                refine r_ior C dX6_forgotten_85 ?_
                refine r_il C dX6_forgotten_86 3 rfl ?_
                refine aft_rd (st' := [.int (s_X1_explains n la kd nd (tol ||| (nI d5)) ((s_X5_all n) &&& ((nI ((s_X5_ofDay n dy day).toNatClampNeg)) ^^^ (-1 : Int32))))]) (run_SN (rest := []) C (c_X1_explains l D h a1 a2 a3 a4 a5 a6 pe n td ys la ri kd dy nd co od wo (tol ||| (nI d5)) ((s_X5_all n) &&& ((nI ((s_X5_ofDay n dy day).toNatClampNeg)) ^^^ (-1 : Int32))) (by omega)) ok_X1_explains ws_X1_explains wm_X6_199 [1, 2, 3, 4, 5, 6, 7] rfl ⟨Nat.le_of_ble_eq_true rfl, Nat.le_of_ble_eq_true rfl⟩ rfl rfl (Nat.le_of_ble_eq_true rfl) dX6_forgotten_88) rfl ?_
                refine r_ifeq C (tgt := 104) dX6_forgotten_91 (by decide) (fun c14 => ?_) (fun c14 => ?_)
                · rw [if_pos c14] at hv
                  refine r_inc C (v := nI (d5 + 1)) (lv' := [(8, .int (nI (d5 + 1))), (7, .int sure_7), (6, .int cnt_6), (5, .int ((s_X5_all n) &&& ((nI ((s_X5_ofDay n dy day).toNatClampNeg)) ^^^ (-1 : Int32)))), (4, .int (nI ((s_X5_ofDay n dy day).toNatClampNeg))), (0, .ref b), (1, .int day), (2, .int tol), (3, .int what)]) dX6_forgotten_104 0 rfl (inc_nI d5) (by decide) rfl ?_
                  refine r_goto C (tgt := 61) dX6_forgotten_107 (by decide) ?_
                  exact ih11 (d5 + 1) cnt_6 sure_7 (by omega) hv
                · rw [if_neg c14] at hv
                  refine r_inc C (v := cnt_6 + (1 : Int32)) (lv' := [(6, .int (cnt_6 + (1 : Int32))), (8, .int (nI d5)), (7, .int sure_7), (5, .int ((s_X5_all n) &&& ((nI ((s_X5_ofDay n dy day).toNatClampNeg)) ^^^ (-1 : Int32)))), (4, .int (nI ((s_X5_ofDay n dy day).toNatClampNeg))), (0, .ref b), (1, .int day), (2, .int tol), (3, .int what)]) dX6_forgotten_94 2 rfl (by rfl) (by decide) rfl ?_
                  refine r_il C dX6_forgotten_97 2 rfl ?_
                  refine r_il C dX6_forgotten_99 1 rfl ?_
                  refine r_iand C dX6_forgotten_101 ?_
                  refine r_is C (lv' := [(7, .int (sure_7 &&& (nI d5))), (6, .int (cnt_6 + (1 : Int32))), (8, .int (nI d5)), (5, .int ((s_X5_all n) &&& ((nI ((s_X5_ofDay n dy day).toNatClampNeg)) ^^^ (-1 : Int32)))), (4, .int (nI ((s_X5_ofDay n dy day).toNatClampNeg))), (0, .ref b), (1, .int day), (2, .int tol), (3, .int what)]) dX6_forgotten_102 (by decide) rfl ?_
                  refine r_inc C (v := nI (d5 + 1)) (lv' := [(8, .int (nI (d5 + 1))), (7, .int (sure_7 &&& (nI d5))), (6, .int (cnt_6 + (1 : Int32))), (5, .int ((s_X5_all n) &&& ((nI ((s_X5_ofDay n dy day).toNatClampNeg)) ^^^ (-1 : Int32)))), (4, .int (nI ((s_X5_ofDay n dy day).toNatClampNeg))), (0, .ref b), (1, .int day), (2, .int tol), (3, .int what)]) dX6_forgotten_104 2 rfl (inc_nI d5) (by decide) rfl ?_
                  refine r_goto C (tgt := 61) dX6_forgotten_107 (by decide) ?_
                  exact ih11 (d5 + 1) (cnt_6 + (1 : Int32)) (sure_7 &&& (nI d5)) (by omega) hv
        refine r_lve (lv2 := [(8, .int (nI 0)), (7, .int (nI ((s_X5_ofDay n dy day).toNatClampNeg))), (6, .int (0 : Int32)), (5, .int ((s_X5_all n) &&& ((nI ((s_X5_ofDay n dy day).toNatClampNeg)) ^^^ (-1 : Int32)))), (4, .int (nI ((s_X5_ofDay n dy day).toNatClampNeg))), (0, .ref b), (1, .int day), (2, .int tol), (3, .int what)]) (congrArg (fun (z : Int32) => ([(8, .int z), (7, .int (nI ((s_X5_ofDay n dy day).toNatClampNeg))), (6, .int (0 : Int32)), (5, .int ((s_X5_all n) &&& ((nI ((s_X5_ofDay n dy day).toNatClampNeg)) ^^^ (-1 : Int32)))), (4, .int (nI ((s_X5_ofDay n dy day).toNatClampNeg))), (0, .ref b), (1, .int day), (2, .int tol), (3, .int what)] : List (Nat × Value))) rfl) ?_
        exact L15 ((s_X5_ofDay n dy day).toNatClampNeg + 1) 0 (0 : Int32) (nI ((s_X5_ofDay n dy day).toNatClampNeg)) (by omega) hv
      · rw [if_pos c3] at hv
        refine r_ic C (v := (-1 : Int32)) dX6_forgotten_49 (by decide) ?_
        exact r_iret rfl C (congrArg (fun z => some (Value.int z)) hv) rfl dX6_forgotten_50
    · rw [if_pos c2] at hv
      refine r_ic C (v := (-1 : Int32)) dX6_forgotten_14 (by decide) ?_
      exact r_iret rfl C (congrArg (fun z => some (Value.int z)) hv) rfl dX6_forgotten_15

def s_X6_upper (pe : Nat) (n : Nat) (la : Int32) (kd : Nat → Int32) (nd : Nat → Int32) (od : Nat → Int32) (wo : Nat → Int32) : Int64 := (s_X1_mean pe la kd nd od wo n 0 (0 : Int32) (0 : Int32)) >>> ((s_X1_halvings (s_X1_mean pe la kd nd od wo n 0 (0 : Int32) (0 : Int32)) (nI n)).toInt64 &&& 63)
set_option maxHeartbeats 8000000 in
set_option maxRecDepth 100000 in
theorem c_X6_upper (l : Launch) (D : va_G) (b : Nat) (h : Nat) (a1 : Nat) (a2 : Nat) (a3 : Nat) (a4 : Nat) (a5 : Nat) (a6 : Nat) (k0 : Nat) (g0 : Nat) (t0 : Nat) (s0 : Nat) (u1 : Nat) (u2 : Nat) (u3 : Nat) (pe : Nat) (n : Nat) (td : Int32) (ys : Int32) (la : Int32) (ri : Int32) (kd : Nat → Int32) (dy : Nat → Int32) (nd : Nat → Int32) (co : Nat → Int32) (od : Nat → Int32) (wo : Nat → Int32) (im : Int32) (hn : n ≤ 12) (hp : 1 ≤ pe ∧ pe ≤ 4) : ct l yX6_upper cX6_upper 3 (some .long) 60 900 D [.ref b] (wBN D b h a1 a2 a3 a4 a5 a6 k0 g0 t0 s0 u1 u2 u3 pe n td ys la ri kd dy nd co od wo im) (wBN D b h a1 a2 a3 a4 a5 a6 k0 g0 t0 s0 u1 u2 u3 pe n td ys la ri kd dy nd co od wo im) (fun _ => False) (some (Value.long (s_X6_upper pe n la kd nd od wo))) := by
  obtain ⟨V, hv⟩ : ∃ V, s_X6_upper pe n la kd nd od wo = V := ⟨_, rfl⟩
  rw [hv]
  refine ct_intro (own := RX6) (lv := [(0, .ref b)]) (by decide) rfl (Nat.le_of_ble_eq_true rfl) rfl ?_
  intro p_ e_ s_ m_ below_ meth_ c_ C
  have hv : (s_X1_mean pe la kd nd od wo n 0 (0 : Int32) (0 : Int32)) >>> ((s_X1_halvings (s_X1_mean pe la kd nd od wo n 0 (0 : Int32) (0 : Int32)) (nI n)).toInt64 &&& 63) = V := hv
  refine r_aln C dX6_upper_0 rfl 0 rfl ?_
  refine gf_X6_10 C 0 rfl rfl dX6_upper_1 ?_
  refine r_ic C (v := (0 : Int32)) dX6_upper_4 (by decide) ?_
  refine r_ic C (v := (0 : Int32)) dX6_upper_5 (by decide) ?_
  refine r_ic C (v := (0 : Int32)) dX6_upper_6 (by decide) ?_
  refine aft_rd (st' := [.long (s_X1_mean pe la kd nd od wo n 0 (0 : Int32) (0 : Int32))]) (run_SN (rest := []) C (c_X1_mean l D h a1 a2 a3 a4 a5 a6 pe n td ys la ri kd dy nd co od wo hn hp n 0 (by omega) (0 : Int32) (0 : Int32)) ok_X1_mean ws_X1_mean wm_X6_205 [1, 2, 3, 4, 5, 6, 7] rfl ⟨by show 20 + n + 1 ≤ 60; omega, by show 8 + (9 + 11) + (500 + 28 * n) ≤ 900; omega⟩ rfl rfl (Nat.le_of_ble_eq_true rfl) dX6_upper_7) rfl ?_
  refine r_lsn C (lv' := [(1, .long (s_X1_mean pe la kd nd od wo n 0 (0 : Int32) (0 : Int32))), (0, .ref b)]) dX6_upper_10 rfl (by decide) rfl ?_
  refine r_lln C dX6_upper_11 rfl 0 rfl ?_
  refine r_lln C dX6_upper_12 rfl 0 rfl ?_
  refine r_aln C dX6_upper_13 rfl 1 rfl ?_
  refine gf_X6_10 C 0 rfl rfl dX6_upper_14 ?_
  refine gf_X6_58 C 1 rfl rfl dX6_upper_17 ?_
  refine aft_rd (st' := [.int (s_X1_halvings (s_X1_mean pe la kd nd od wo n 0 (0 : Int32) (0 : Int32)) (nI n)), .long (s_X1_mean pe la kd nd od wo n 0 (0 : Int32) (0 : Int32))]) (run_SN (rest := [.long (s_X1_mean pe la kd nd od wo n 0 (0 : Int32) (0 : Int32))]) C (c_X1_halvings l D (s_X1_mean pe la kd nd od wo n 0 (0 : Int32) (0 : Int32)) (nI n) ) ok_X1_halvings ws_X1_halvings wm_X6_209 [] rfl ⟨Nat.le_of_ble_eq_true rfl, Nat.le_of_ble_eq_true rfl⟩ rfl rfl (Nat.le_of_ble_eq_true rfl) dX6_upper_20) rfl ?_
  refine r_lshr C dX6_upper_23 ?_
  exact r_lret rfl C (congrArg (fun z => some (Value.long z)) hv) rfl dX6_upper_24

def s_X6_lower (pe : Nat) (n : Nat) (la : Int32) (kd : Nat → Int32) (nd : Nat → Int32) (od : Nat → Int32) (wo : Nat → Int32) : Int64 := (s_X1_parts (nI n)) >>> ((s_X1_halvings (s_X1_mean pe la kd nd od wo n 0 (0 : Int32) (0 : Int32)) (nI n)).toInt64 &&& 63)
set_option maxHeartbeats 8000000 in
set_option maxRecDepth 100000 in
theorem c_X6_lower (l : Launch) (D : va_G) (b : Nat) (h : Nat) (a1 : Nat) (a2 : Nat) (a3 : Nat) (a4 : Nat) (a5 : Nat) (a6 : Nat) (k0 : Nat) (g0 : Nat) (t0 : Nat) (s0 : Nat) (u1 : Nat) (u2 : Nat) (u3 : Nat) (pe : Nat) (n : Nat) (td : Int32) (ys : Int32) (la : Int32) (ri : Int32) (kd : Nat → Int32) (dy : Nat → Int32) (nd : Nat → Int32) (co : Nat → Int32) (od : Nat → Int32) (wo : Nat → Int32) (im : Int32) (hn : n ≤ 12) (hp : 1 ≤ pe ∧ pe ≤ 4) : ct l yX6_lower cX6_lower 3 (some .long) 60 900 D [.ref b] (wBN D b h a1 a2 a3 a4 a5 a6 k0 g0 t0 s0 u1 u2 u3 pe n td ys la ri kd dy nd co od wo im) (wBN D b h a1 a2 a3 a4 a5 a6 k0 g0 t0 s0 u1 u2 u3 pe n td ys la ri kd dy nd co od wo im) (fun _ => False) (some (Value.long (s_X6_lower pe n la kd nd od wo))) := by
  obtain ⟨V, hv⟩ : ∃ V, s_X6_lower pe n la kd nd od wo = V := ⟨_, rfl⟩
  rw [hv]
  refine ct_intro (own := RX6) (lv := [(0, .ref b)]) (by decide) rfl (Nat.le_of_ble_eq_true rfl) rfl ?_
  intro p_ e_ s_ m_ below_ meth_ c_ C
  have hv : (s_X1_parts (nI n)) >>> ((s_X1_halvings (s_X1_mean pe la kd nd od wo n 0 (0 : Int32) (0 : Int32)) (nI n)).toInt64 &&& 63) = V := hv
  refine r_aln C dX6_lower_0 rfl 0 rfl ?_
  refine gf_X6_10 C 0 rfl rfl dX6_lower_1 ?_
  refine r_ic C (v := (0 : Int32)) dX6_lower_4 (by decide) ?_
  refine r_ic C (v := (0 : Int32)) dX6_lower_5 (by decide) ?_
  refine r_ic C (v := (0 : Int32)) dX6_lower_6 (by decide) ?_
  refine aft_rd (st' := [.long (s_X1_mean pe la kd nd od wo n 0 (0 : Int32) (0 : Int32))]) (run_SN (rest := []) C (c_X1_mean l D h a1 a2 a3 a4 a5 a6 pe n td ys la ri kd dy nd co od wo hn hp n 0 (by omega) (0 : Int32) (0 : Int32)) ok_X1_mean ws_X1_mean wm_X6_205 [1, 2, 3, 4, 5, 6, 7] rfl ⟨by show 20 + n + 1 ≤ 60; omega, by show 8 + (9 + 11) + (500 + 28 * n) ≤ 900; omega⟩ rfl rfl (Nat.le_of_ble_eq_true rfl) dX6_lower_7) rfl ?_
  refine r_lsn C (lv' := [(1, .long (s_X1_mean pe la kd nd od wo n 0 (0 : Int32) (0 : Int32))), (0, .ref b)]) dX6_lower_10 rfl (by decide) rfl ?_
  refine r_aln C dX6_lower_11 rfl 1 rfl ?_
  refine gf_X6_10 C 0 rfl rfl dX6_lower_12 ?_
  refine gf_X6_58 C 1 rfl rfl dX6_lower_15 ?_
  refine aft_rd (st' := [.long (s_X1_parts (nI n))]) (run_SN (rest := []) C (c_X1_parts l D (nI n) ) ok_X1_parts ws_X1_parts wm_X6_213 [] rfl ⟨Nat.le_of_ble_eq_true rfl, Nat.le_of_ble_eq_true rfl⟩ rfl rfl (Nat.le_of_ble_eq_true rfl) dX6_lower_18) rfl ?_
  refine r_lln C dX6_lower_21 rfl 0 rfl ?_
  refine r_aln C dX6_lower_22 rfl 1 rfl ?_
  refine gf_X6_10 C 0 rfl rfl dX6_lower_23 ?_
  refine gf_X6_58 C 1 rfl rfl dX6_lower_26 ?_
  refine aft_rd (st' := [.int (s_X1_halvings (s_X1_mean pe la kd nd od wo n 0 (0 : Int32) (0 : Int32)) (nI n)), .long (s_X1_parts (nI n))]) (run_SN (rest := [.long (s_X1_parts (nI n))]) C (c_X1_halvings l D (s_X1_mean pe la kd nd od wo n 0 (0 : Int32) (0 : Int32)) (nI n) ) ok_X1_halvings ws_X1_halvings wm_X6_209 [] rfl ⟨Nat.le_of_ble_eq_true rfl, Nat.le_of_ble_eq_true rfl⟩ rfl rfl (Nat.le_of_ble_eq_true rfl) dX6_lower_29) rfl ?_
  refine r_lshr C dX6_lower_32 ?_
  exact r_lret rfl C (congrArg (fun z => some (Value.long z)) hv) rfl dX6_lower_33

def s_X6_comes_L74 (pe : Nat) (n : Nat) (kd : Nat → Int32) (dy : Nat → Int32) (nd : Nat → Int32) (co : Nat → Int32) (od : Nat → Int32) (wo : Nat → Int32) (kdg : Nat → Int32) (dyg : Nat → Int32) (ndg : Nat → Int32) (cog : Nat → Int32) (odg : Nat → Int32) (wog : Nat → Int32) (k : Int32) (what : Int32) (d4 : Nat) (ys_6 : Int32) (la_7 : Int32) (be_9 : Nat → Int32) (K : Int32 × Nat × Nat × Int32 × Int32 × Int32 × Int32 × (Nat → Int32) × (Nat → Int32) × (Nat → Int32) × (Nat → Int32) × (Nat → Int32) × (Nat → Int32) × (Nat → Int32)) : Nat → Nat → Int32 × Nat × Nat × Int32 × Int32 × Int32 × Int32 × (Nat → Int32) × (Nat → Int32) × (Nat → Int32) × (Nat → Int32) × (Nat → Int32) × (Nat → Int32) × (Nat → Int32)
  | 0, _ => K
  | k13 + 1, d14 => (if be_9 d14 = s_X5_standing n la_7 (va_cpy kd kdg 0 0 12) (va_cpy nd ndg 0 0 12) (s_X4_most pe n la_7 (va_cpy kd kdg 0 0 12) (va_cpy dy dyg 0 0 12) (va_cpy nd ndg 0 0 12) (va_cpy co cog 0 0 12) (va_cpy wo wog 0 0 48) k (0 : Int32)) then (if what = (0 : Int32) then (nI d4, pe, n, (11 : Int32), ys_6 + (1 : Int32), s_X5_standing n la_7 (va_cpy kd kdg 0 0 12) (va_cpy nd ndg 0 0 12) (s_X4_most pe n la_7 (va_cpy kd kdg 0 0 12) (va_cpy dy dyg 0 0 12) (va_cpy nd ndg 0 0 12) (va_cpy co cog 0 0 12) (va_cpy wo wog 0 0 48) k (0 : Int32)), (0 : Int32), va_cpy kd kdg 0 0 12, va_cpy dy dyg 0 0 12, va_cpy nd ndg 0 0 12, va_cpy co cog 0 0 12, va_cpy od odg 0 0 12, va_cpy wo wog 0 0 48, be_9) else ((nI d4) - (nI d14), pe, n, (11 : Int32), ys_6 + (1 : Int32), s_X5_standing n la_7 (va_cpy kd kdg 0 0 12) (va_cpy nd ndg 0 0 12) (s_X4_most pe n la_7 (va_cpy kd kdg 0 0 12) (va_cpy dy dyg 0 0 12) (va_cpy nd ndg 0 0 12) (va_cpy co cog 0 0 12) (va_cpy wo wog 0 0 48) k (0 : Int32)), (0 : Int32), va_cpy kd kdg 0 0 12, va_cpy dy dyg 0 0 12, va_cpy nd ndg 0 0 12, va_cpy co cog 0 0 12, va_cpy od odg 0 0 12, va_cpy wo wog 0 0 48, be_9)) else (s_X6_comes_L74 pe n kd dy nd co od wo kdg dyg ndg cog odg wog k what d4 ys_6 la_7 be_9 K k13 (d14 + 1)))
def s_X6_comes_L42 (pe : Nat) (n : Nat) (kd : Nat → Int32) (dy : Nat → Int32) (nd : Nat → Int32) (co : Nat → Int32) (od : Nat → Int32) (wo : Nat → Int32) (kdg : Nat → Int32) (dyg : Nat → Int32) (ndg : Nat → Int32) (cog : Nat → Int32) (odg : Nat → Int32) (wog : Nat → Int32) (k : Int32) (what : Int32) (K : Int32 → Int32 → Int32 → Int32 → (Nat → Int32) → Int32 × Nat × Nat × Int32 × Int32 × Int32 × Int32 × (Nat → Int32) × (Nat → Int32) × (Nat → Int32) × (Nat → Int32) × (Nat → Int32) × (Nat → Int32) × (Nat → Int32)) : Nat → Nat → Int32 → Int32 → Int32 → Int32 → (Nat → Int32) → Int32 × Nat × Nat × Int32 × Int32 × Int32 × Int32 × (Nat → Int32) × (Nat → Int32) × (Nat → Int32) × (Nat → Int32) × (Nat → Int32) × (Nat → Int32) × (Nat → Int32)
  | 0, _, td_5, ys_6, la_7, ri_8, be_9 => K td_5 ys_6 la_7 ri_8 be_9
  | k3 + 1, d4, td_5, ys_6, la_7, ri_8, be_9 => (s_X6_comes_L74 pe n kd dy nd co od wo kdg dyg ndg cog odg wog k what d4 ys_6 la_7 be_9 (s_X6_comes_L42 pe n kd dy nd co od wo kdg dyg ndg cog odg wog k what K k3 (d4 + 1) (11 : Int32) (ys_6 + (1 : Int32)) (s_X5_standing n la_7 (va_cpy kd kdg 0 0 12) (va_cpy nd ndg 0 0 12) (s_X4_most pe n la_7 (va_cpy kd kdg 0 0 12) (va_cpy dy dyg 0 0 12) (va_cpy nd ndg 0 0 12) (va_cpy co cog 0 0 12) (va_cpy wo wog 0 0 48) k (0 : Int32))) (0 : Int32) (upd be_9 d4 (s_X5_standing n la_7 (va_cpy kd kdg 0 0 12) (va_cpy nd ndg 0 0 12) (s_X4_most pe n la_7 (va_cpy kd kdg 0 0 12) (va_cpy dy dyg 0 0 12) (va_cpy nd ndg 0 0 12) (va_cpy co cog 0 0 12) (va_cpy wo wog 0 0 48) k (0 : Int32))))) d4 0)
def s_X6_comes (pe : Nat) (n : Nat) (td : Int32) (ys : Int32) (la : Int32) (ri : Int32) (kd : Nat → Int32) (dy : Nat → Int32) (nd : Nat → Int32) (co : Nat → Int32) (od : Nat → Int32) (wo : Nat → Int32) (peg : Nat) (ng : Nat) (tdg : Int32) (ysg : Int32) (lag : Int32) (rig : Int32) (kdg : Nat → Int32) (dyg : Nat → Int32) (ndg : Nat → Int32) (cog : Nat → Int32) (odg : Nat → Int32) (wog : Nat → Int32) (be : Nat → Int32) (k : Int32) (what : Int32) : Int32 × Nat × Nat × Int32 × Int32 × Int32 × Int32 × (Nat → Int32) × (Nat → Int32) × (Nat → Int32) × (Nat → Int32) × (Nat → Int32) × (Nat → Int32) × (Nat → Int32) := (if s_X6_isWalkLength k = (0 : Int32) then ((-1 : Int32), peg, ng, tdg, ysg, lag, rig, kdg, dyg, ndg, cog, odg, wog, be) else (if s_X6_isChoice what = (0 : Int32) then ((-1 : Int32), peg, ng, tdg, ysg, lag, rig, kdg, dyg, ndg, cog, odg, wog, be) else (s_X6_comes_L42 pe n kd dy nd co od wo kdg dyg ndg cog odg wog k what (fun td_5 ys_6 la_7 ri_8 be_9 => ((-4 : Int32), pe, n, td_5, ys_6, la_7, ri_8, va_cpy kd kdg 0 0 12, va_cpy dy dyg 0 0 12, va_cpy nd ndg 0 0 12, va_cpy co cog 0 0 12, va_cpy od odg 0 0 12, va_cpy wo wog 0 0 48, be_9)) 60 1 td ys la ri (upd be 0 la))))
set_option maxHeartbeats 8000000 in
set_option maxRecDepth 100000 in
theorem c_X6_comes (l : Launch) (D : va_G) (b : Nat) (h : Nat) (a1 : Nat) (a2 : Nat) (a3 : Nat) (a4 : Nat) (a5 : Nat) (a6 : Nat) (g0 : Nat) (g1 : Nat) (g2 : Nat) (g3 : Nat) (g4 : Nat) (g5 : Nat) (g6 : Nat) (u1 : Nat) (k0 : Nat) (t0 : Nat) (s0 : Nat) (u2 : Nat) (u3 : Nat) (pe : Nat) (n : Nat) (td : Int32) (ys : Int32) (la : Int32) (ri : Int32) (kd : Nat → Int32) (dy : Nat → Int32) (nd : Nat → Int32) (co : Nat → Int32) (od : Nat → Int32) (wo : Nat → Int32) (peg : Nat) (ng : Nat) (tdg : Int32) (ysg : Int32) (lag : Int32) (rig : Int32) (kdg : Nat → Int32) (dyg : Nat → Int32) (ndg : Nat → Int32) (cog : Nat → Int32) (odg : Nat → Int32) (wog : Nat → Int32) (be : Nat → Int32) (im : Int32) (k : Int32) (what : Int32) (hn : n ≤ 12) (hp : 1 ≤ pe ∧ pe ≤ 4) (h0 : va_D (fun _ => True) (wBND1 D b h a1 a2 a3 a4 a5 a6 g0 g1 g2 g3 g4 g5 g6 u1 k0 t0 s0 u2 u3 pe n td ys la ri kd dy nd co od wo peg ng tdg ysg lag rig kdg dyg ndg cog odg wog be im)) : ct l yX6_comes cX6_comes 5 (some .int) 6 143 D [.ref b, .int k, .int what] (wBND1 D b h a1 a2 a3 a4 a5 a6 g0 g1 g2 g3 g4 g5 g6 u1 k0 t0 s0 u2 u3 pe n td ys la ri kd dy nd co od wo peg ng tdg ysg lag rig kdg dyg ndg cog odg wog be im) (wBND1 D b h a1 a2 a3 a4 a5 a6 g0 g1 g2 g3 g4 g5 g6 u1 k0 t0 s0 u2 u3 pe n td ys la ri kd dy nd co od wo (s_X6_comes pe n td ys la ri kd dy nd co od wo peg ng tdg ysg lag rig kdg dyg ndg cog odg wog be k what).2.1 (s_X6_comes pe n td ys la ri kd dy nd co od wo peg ng tdg ysg lag rig kdg dyg ndg cog odg wog be k what).2.2.1 (s_X6_comes pe n td ys la ri kd dy nd co od wo peg ng tdg ysg lag rig kdg dyg ndg cog odg wog be k what).2.2.2.1 (s_X6_comes pe n td ys la ri kd dy nd co od wo peg ng tdg ysg lag rig kdg dyg ndg cog odg wog be k what).2.2.2.2.1 (s_X6_comes pe n td ys la ri kd dy nd co od wo peg ng tdg ysg lag rig kdg dyg ndg cog odg wog be k what).2.2.2.2.2.1 (s_X6_comes pe n td ys la ri kd dy nd co od wo peg ng tdg ysg lag rig kdg dyg ndg cog odg wog be k what).2.2.2.2.2.2.1 (s_X6_comes pe n td ys la ri kd dy nd co od wo peg ng tdg ysg lag rig kdg dyg ndg cog odg wog be k what).2.2.2.2.2.2.2.1 (s_X6_comes pe n td ys la ri kd dy nd co od wo peg ng tdg ysg lag rig kdg dyg ndg cog odg wog be k what).2.2.2.2.2.2.2.2.1 (s_X6_comes pe n td ys la ri kd dy nd co od wo peg ng tdg ysg lag rig kdg dyg ndg cog odg wog be k what).2.2.2.2.2.2.2.2.2.1 (s_X6_comes pe n td ys la ri kd dy nd co od wo peg ng tdg ysg lag rig kdg dyg ndg cog odg wog be k what).2.2.2.2.2.2.2.2.2.2.1 (s_X6_comes pe n td ys la ri kd dy nd co od wo peg ng tdg ysg lag rig kdg dyg ndg cog odg wog be k what).2.2.2.2.2.2.2.2.2.2.2.1 (s_X6_comes pe n td ys la ri kd dy nd co od wo peg ng tdg ysg lag rig kdg dyg ndg cog odg wog be k what).2.2.2.2.2.2.2.2.2.2.2.2.1 (s_X6_comes pe n td ys la ri kd dy nd co od wo peg ng tdg ysg lag rig kdg dyg ndg cog odg wog be k what).2.2.2.2.2.2.2.2.2.2.2.2.2 im) (Ad (wBND1 D b h a1 a2 a3 a4 a5 a6 g0 g1 g2 g3 g4 g5 g6 u1 k0 t0 s0 u2 u3 pe n td ys la ri kd dy nd co od wo peg ng tdg ysg lag rig kdg dyg ndg cog odg wog be im)) (some (Value.int (s_X6_comes pe n td ys la ri kd dy nd co od wo peg ng tdg ysg lag rig kdg dyg ndg cog odg wog be k what).1)) := by
  obtain ⟨V, hv⟩ : ∃ V, s_X6_comes pe n td ys la ri kd dy nd co od wo peg ng tdg ysg lag rig kdg dyg ndg cog odg wog be k what = V := ⟨_, rfl⟩
  rw [hv]
  refine ct_intro (own := RX6) (lv := [(0, .ref b), (1, .int k), (2, .int what)]) (by decide) rfl (Nat.le_of_ble_eq_true rfl) rfl ?_
  intro p_ e_ s_ m_ below_ meth_ c_ C
  have hv : (if s_X6_isWalkLength k = (0 : Int32) then ((-1 : Int32), peg, ng, tdg, ysg, lag, rig, kdg, dyg, ndg, cog, odg, wog, be) else (if s_X6_isChoice what = (0 : Int32) then ((-1 : Int32), peg, ng, tdg, ysg, lag, rig, kdg, dyg, ndg, cog, odg, wog, be) else (s_X6_comes_L42 pe n kd dy nd co od wo kdg dyg ndg cog odg wog k what (fun td_5 ys_6 la_7 ri_8 be_9 => ((-4 : Int32), pe, n, td_5, ys_6, la_7, ri_8, va_cpy kd kdg 0 0 12, va_cpy dy dyg 0 0 12, va_cpy nd ndg 0 0 12, va_cpy co cog 0 0 12, va_cpy od odg 0 0 12, va_cpy wo wog 0 0 48, be_9)) 60 1 td ys la ri (upd be 0 la)))) = V := hv
  refine r_iln C dX6_comes_0 rfl 1 rfl ?_
  refine aft_rd (st' := [.int (s_X6_isWalkLength k)]) (run_S (rest := []) C (c_X6_isWalkLength l D k ) ok_X6_isWalkLength ws_X6_isWalkLength wm_X6_168 [] rfl ⟨Nat.le_of_ble_eq_true rfl, Nat.le_of_ble_eq_true rfl⟩ rfl rfl (Nat.le_of_ble_eq_true rfl) dX6_comes_1) rfl ?_
  refine r_ifeq C (tgt := 14) dX6_comes_4 (by decide) (fun c1 => ?_) (fun c1 => ?_)
  · rw [if_pos c1] at hv
    refine r_ic C (v := (-1 : Int32)) dX6_comes_14 (by decide) ?_
    exact r_iret rfl C (by rw [← hv]) (by rw [← hv]) dX6_comes_15
  · rw [if_neg c1] at hv
    refine r_iln C dX6_comes_7 rfl 2 rfl ?_
    refine aft_rd (st' := [.int (s_X6_isChoice what)]) (run_S (rest := []) C (c_X6_isChoice l D what ) ok_X6_isChoice ws_X6_isChoice wm_X6_101 [] rfl ⟨Nat.le_of_ble_eq_true rfl, Nat.le_of_ble_eq_true rfl⟩ rfl rfl (Nat.le_of_ble_eq_true rfl) dX6_comes_8) rfl ?_
    refine r_ifne C (tgt := 16) dX6_comes_11 (by decide) (fun c2 => ?_) (fun c2 => ?_)
    · rw [if_neg c2] at hv
      refine r_aln C dX6_comes_16 rfl 0 rfl ?_
      refine gf_X6_19 C 0 rfl rfl dX6_comes_17 ?_
      refine r_aln C dX6_comes_20 rfl 0 rfl ?_
      refine gf_X6_10 C 0 rfl rfl dX6_comes_21 ?_
      refine aft_wr (ws2 := wBND1 D b h a1 a2 a3 a4 a5 a6 g0 g1 g2 g3 g4 g5 g6 u1 k0 t0 s0 u2 u3 pe n td ys la ri kd dy nd co od wo pe n td ys la ri (va_cpy kd kdg 0 0 12) (va_cpy dy dyg 0 0 12) (va_cpy nd ndg 0 0 12) (va_cpy co cog 0 0 12) (va_cpy od odg 0 0 12) (va_cpy wo wog 0 0 48) be im) (st' := []) h0 rfl [8, 9, 10, 11, 12, 13, 14, 1, 2, 3, 4, 5, 6, 7] (run_VN (rest := []) C (c_X5_become l D g0 g1 g2 g3 g4 g5 g6 h a1 a2 a3 a4 a5 a6 peg ng tdg ysg lag rig kdg dyg ndg cog odg wog pe n td ys la ri kd dy nd co od wo  (dis_sub h0 [8, 9, 10, 11, 12, 13, 14, 1, 2, 3, 4, 5, 6, 7] (by decide) rfl)) ok_X5_become wn_X5_become wl_X5_become wm_X6_137 [8, 9, 10, 11, 12, 13, 14, 1, 2, 3, 4, 5, 6, 7] 0 rfl rfl rfl ⟨Nat.le_of_ble_eq_true rfl, Nat.le_of_ble_eq_true rfl⟩ rfl rfl (Nat.le_of_ble_eq_true rfl) dX6_comes_24) rfl rfl rfl rfl rfl ?_
      refine r_aln C dX6_comes_27 rfl 0 rfl ?_
      refine gf_X6_36 C 0 rfl rfl dX6_comes_28 ?_
      refine r_ic C (v := (0 : Int32)) dX6_comes_31 (by decide) ?_
      refine r_aln C dX6_comes_32 rfl 0 rfl ?_
      refine gf_X6_19 C 0 rfl rfl dX6_comes_33 ?_
      refine gf_X6_118 C 8 rfl rfl dX6_comes_36 ?_
      refine r_iast C (ws2 := wBND1 D b h a1 a2 a3 a4 a5 a6 g0 g1 g2 g3 g4 g5 g6 u1 k0 t0 s0 u2 u3 pe n td ys la ri kd dy nd co od wo pe n td ys la ri (va_cpy kd kdg 0 0 12) (va_cpy dy dyg 0 0 12) (va_cpy nd ndg 0 0 12) (va_cpy co cog 0 0 12) (va_cpy od odg 0 0 12) (va_cpy wo wog 0 0 48) (upd be 0 la) im) h0 rfl 15 0 rfl rfl (by omega) (by decide) dX6_comes_39 rfl rfl ?_
      refine r_ic C (v := (1 : Int32)) dX6_comes_40 (by decide) ?_
      refine r_isn C (lv' := [(3, .int (1 : Int32)), (0, .ref b), (1, .int k), (2, .int what)]) dX6_comes_41 rfl (by decide) rfl ?_
      have L21 : ∀ (k3 : Nat) (d4 : Nat) (td_5 : Int32) (ys_6 : Int32) (la_7 : Int32) (ri_8 : Int32) (be_9 : Nat → Int32), (d4 + k3 = 61) → (s_X6_comes_L42 pe n kd dy nd co od wo kdg dyg ndg cog odg wog k what (fun td_5 ys_6 la_7 ri_8 be_9 => ((-4 : Int32), pe, n, td_5, ys_6, la_7, ri_8, va_cpy kd kdg 0 0 12, va_cpy dy dyg 0 0 12, va_cpy nd ndg 0 0 12, va_cpy co cog 0 0 12, va_cpy od odg 0 0 12, va_cpy wo wog 0 0 48, be_9)) k3 d4 td_5 ys_6 la_7 ri_8 be_9) = V → GM p_ l e_ s_ m_ below_ meth_ c_ D 6 143 5 [.ref b, .int k, .int what] (wBND1 D b h a1 a2 a3 a4 a5 a6 g0 g1 g2 g3 g4 g5 g6 u1 k0 t0 s0 u2 u3 pe n td ys la ri kd dy nd co od wo V.2.1 V.2.2.1 V.2.2.2.1 V.2.2.2.2.1 V.2.2.2.2.2.1 V.2.2.2.2.2.2.1 V.2.2.2.2.2.2.2.1 V.2.2.2.2.2.2.2.2.1 V.2.2.2.2.2.2.2.2.2.1 V.2.2.2.2.2.2.2.2.2.2.1 V.2.2.2.2.2.2.2.2.2.2.2.1 V.2.2.2.2.2.2.2.2.2.2.2.2.1 V.2.2.2.2.2.2.2.2.2.2.2.2.2 im) (Ad (wBND1 D b h a1 a2 a3 a4 a5 a6 g0 g1 g2 g3 g4 g5 g6 u1 k0 t0 s0 u2 u3 pe n td ys la ri kd dy nd co od wo peg ng tdg ysg lag rig kdg dyg ndg cog odg wog be im)) (some (Value.int V.1)) (wBND1 D b h a1 a2 a3 a4 a5 a6 g0 g1 g2 g3 g4 g5 g6 u1 k0 t0 s0 u2 u3 pe n td ys la ri kd dy nd co od wo pe n td_5 ys_6 la_7 ri_8 (va_cpy kd kdg 0 0 12) (va_cpy dy dyg 0 0 12) (va_cpy nd ndg 0 0 12) (va_cpy co cog 0 0 12) (va_cpy od odg 0 0 12) (va_cpy wo wog 0 0 48) be_9 im) 42 [(3, .int (nI d4)), (0, .ref b), (1, .int k), (2, .int what)] [] := by
        intro k3
        induction k3 with
        | zero =>
          intro d4 td_5 ys_6 la_7 ri_8 be_9 hk hv
          have hv : ((-4 : Int32), pe, n, td_5, ys_6, la_7, ri_8, va_cpy kd kdg 0 0 12, va_cpy dy dyg 0 0 12, va_cpy nd ndg 0 0 12, va_cpy co cog 0 0 12, va_cpy od odg 0 0 12, va_cpy wo wog 0 0 48, be_9) = V := hv
          refine r_iln C dX6_comes_42 rfl 0 rfl ?_
          refine r_bp C (v := (60 : Int32)) dX6_comes_43 (by decide) ?_
          refine r_icgt C (tgt := 135) dX6_comes_45 (by decide) (fun c10 => ?_) (fun c10 => ?_)
          · skip
            refine r_bp C (v := (-4 : Int32)) dX6_comes_135 (by decide) ?_
            exact r_iret rfl C (by rw [← hv]) (by rw [← hv]) dX6_comes_137
          · exact absurd ((nv_lt (a := 60) (b := d4) rfl rfl (by omega) (by omega)).mpr (by omega)) c10
        | succ k3 ih11 =>
          intro d4 td_5 ys_6 la_7 ri_8 be_9 hk hv
          have hv : (s_X6_comes_L74 pe n kd dy nd co od wo kdg dyg ndg cog odg wog k what d4 ys_6 la_7 be_9 (s_X6_comes_L42 pe n kd dy nd co od wo kdg dyg ndg cog odg wog k what (fun td_5 ys_6 la_7 ri_8 be_9 => ((-4 : Int32), pe, n, td_5, ys_6, la_7, ri_8, va_cpy kd kdg 0 0 12, va_cpy dy dyg 0 0 12, va_cpy nd ndg 0 0 12, va_cpy co cog 0 0 12, va_cpy od odg 0 0 12, va_cpy wo wog 0 0 48, be_9)) k3 (d4 + 1) (11 : Int32) (ys_6 + (1 : Int32)) (s_X5_standing n la_7 (va_cpy kd kdg 0 0 12) (va_cpy nd ndg 0 0 12) (s_X4_most pe n la_7 (va_cpy kd kdg 0 0 12) (va_cpy dy dyg 0 0 12) (va_cpy nd ndg 0 0 12) (va_cpy co cog 0 0 12) (va_cpy wo wog 0 0 48) k (0 : Int32))) (0 : Int32) (upd be_9 d4 (s_X5_standing n la_7 (va_cpy kd kdg 0 0 12) (va_cpy nd ndg 0 0 12) (s_X4_most pe n la_7 (va_cpy kd kdg 0 0 12) (va_cpy dy dyg 0 0 12) (va_cpy nd ndg 0 0 12) (va_cpy co cog 0 0 12) (va_cpy wo wog 0 0 48) k (0 : Int32))))) d4 0) = V := hv
          refine r_iln C dX6_comes_42 rfl 0 rfl ?_
          refine r_bp C (v := (60 : Int32)) dX6_comes_43 (by decide) ?_
          refine r_icgt C (tgt := 135) dX6_comes_45 (by decide) (fun c12 => ?_) (fun c12 => ?_)
          · exact absurd c12 (fun z => absurd ((nv_lt (a := 60) (b := d4) rfl rfl (by omega) (by omega)).mp z) (by omega))
          · skip
            refine r_aln C dX6_comes_48 rfl 1 rfl ?_
            refine gf_X6_19 C 0 rfl rfl dX6_comes_49 ?_
            refine r_aln C dX6_comes_52 rfl 1 rfl ?_
            refine gf_X6_19 C 0 rfl rfl dX6_comes_53 ?_
            refine r_iln C dX6_comes_56 rfl 2 rfl ?_
            refine r_ic C (v := (0 : Int32)) dX6_comes_57 (by decide) ?_
            refine aft_rd (st' := [.int (s_X4_most pe n la_7 (va_cpy kd kdg 0 0 12) (va_cpy dy dyg 0 0 12) (va_cpy nd ndg 0 0 12) (va_cpy co cog 0 0 12) (va_cpy wo wog 0 0 48) k (0 : Int32)), .ref g0]) (run_SN (rest := [.ref g0]) C (c_X4_most l D g0 g1 g2 g3 g4 g5 g6 pe n td_5 ys_6 la_7 ri_8 (va_cpy kd kdg 0 0 12) (va_cpy dy dyg 0 0 12) (va_cpy nd ndg 0 0 12) (va_cpy co cog 0 0 12) (va_cpy od odg 0 0 12) (va_cpy wo wog 0 0 48) k (0 : Int32) (by omega) (by omega)) ok_X4_most ws_X4_most wm_X6_171 [8, 9, 10, 11, 12, 13, 14] rfl ⟨Nat.le_of_ble_eq_true rfl, Nat.le_of_ble_eq_true rfl⟩ rfl rfl (Nat.le_of_ble_eq_true rfl) dX6_comes_58) rfl ?_
            refine pf_X6_91 C (ws2 := wBND1 D b h a1 a2 a3 a4 a5 a6 g0 g1 g2 g3 g4 g5 g6 u1 k0 t0 s0 u2 u3 pe n td ys la ri kd dy nd co od wo pe n td_5 ys_6 la_7 (s_X4_most pe n la_7 (va_cpy kd kdg 0 0 12) (va_cpy dy dyg 0 0 12) (va_cpy nd ndg 0 0 12) (va_cpy co cog 0 0 12) (va_cpy wo wog 0 0 48) k (0 : Int32)) (va_cpy kd kdg 0 0 12) (va_cpy dy dyg 0 0 12) (va_cpy nd ndg 0 0 12) (va_cpy co cog 0 0 12) (va_cpy od odg 0 0 12) (va_cpy wo wog 0 0 48) be_9 im) h0 rfl 8 rfl (Nat.le_of_ble_eq_true rfl) dX6_comes_61 rfl rfl ?_
            refine r_aln C dX6_comes_64 rfl 1 rfl ?_
            refine gf_X6_19 C 0 rfl rfl dX6_comes_65 ?_
            refine aft_wr (ws2 := wBND1 D b h a1 a2 a3 a4 a5 a6 g0 g1 g2 g3 g4 g5 g6 u1 k0 t0 s0 u2 u3 pe n td ys la ri kd dy nd co od wo pe n (11 : Int32) (ys_6 + (1 : Int32)) (s_X5_standing n la_7 (va_cpy kd kdg 0 0 12) (va_cpy nd ndg 0 0 12) (s_X4_most pe n la_7 (va_cpy kd kdg 0 0 12) (va_cpy dy dyg 0 0 12) (va_cpy nd ndg 0 0 12) (va_cpy co cog 0 0 12) (va_cpy wo wog 0 0 48) k (0 : Int32))) (0 : Int32) (va_cpy kd kdg 0 0 12) (va_cpy dy dyg 0 0 12) (va_cpy nd ndg 0 0 12) (va_cpy co cog 0 0 12) (va_cpy od odg 0 0 12) (va_cpy wo wog 0 0 48) be_9 im) (st' := []) h0 rfl [8, 9, 10, 11, 12, 13, 14] (run_VN (rest := []) C (c_X5_beginNext l D g0 g1 g2 g3 g4 g5 g6 pe n td_5 ys_6 la_7 (s_X4_most pe n la_7 (va_cpy kd kdg 0 0 12) (va_cpy dy dyg 0 0 12) (va_cpy nd ndg 0 0 12) (va_cpy co cog 0 0 12) (va_cpy wo wog 0 0 48) k (0 : Int32)) (va_cpy kd kdg 0 0 12) (va_cpy dy dyg 0 0 12) (va_cpy nd ndg 0 0 12) (va_cpy co cog 0 0 12) (va_cpy od odg 0 0 12) (va_cpy wo wog 0 0 48) (by omega) (dis_sub h0 [8, 9, 10, 11, 12, 13, 14] (by decide) rfl)) ok_X5_beginNext wn_X5_beginNext wl_X5_beginNext wm_X6_148 [8, 9, 10, 11, 12, 13, 14] 0 rfl rfl rfl ⟨Nat.le_of_ble_eq_true rfl, Nat.le_of_ble_eq_true rfl⟩ rfl rfl (Nat.le_of_ble_eq_true rfl) dX6_comes_68) rfl rfl rfl rfl rfl ?_
            refine r_ic C (v := (0 : Int32)) dX6_comes_71 (by decide) ?_
            refine r_is C (lv' := [(4, .int (0 : Int32)), (3, .int (nI d4)), (0, .ref b), (1, .int k), (2, .int what)]) dX6_comes_72 (by decide) rfl ?_
            have L20 : ∀ (k13 : Nat) (d14 : Nat), (d14 + k13 = d4) → (s_X6_comes_L74 pe n kd dy nd co od wo kdg dyg ndg cog odg wog k what d4 ys_6 la_7 be_9 (s_X6_comes_L42 pe n kd dy nd co od wo kdg dyg ndg cog odg wog k what (fun td_5 ys_6 la_7 ri_8 be_9 => ((-4 : Int32), pe, n, td_5, ys_6, la_7, ri_8, va_cpy kd kdg 0 0 12, va_cpy dy dyg 0 0 12, va_cpy nd ndg 0 0 12, va_cpy co cog 0 0 12, va_cpy od odg 0 0 12, va_cpy wo wog 0 0 48, be_9)) k3 (d4 + 1) (11 : Int32) (ys_6 + (1 : Int32)) (s_X5_standing n la_7 (va_cpy kd kdg 0 0 12) (va_cpy nd ndg 0 0 12) (s_X4_most pe n la_7 (va_cpy kd kdg 0 0 12) (va_cpy dy dyg 0 0 12) (va_cpy nd ndg 0 0 12) (va_cpy co cog 0 0 12) (va_cpy wo wog 0 0 48) k (0 : Int32))) (0 : Int32) (upd be_9 d4 (s_X5_standing n la_7 (va_cpy kd kdg 0 0 12) (va_cpy nd ndg 0 0 12) (s_X4_most pe n la_7 (va_cpy kd kdg 0 0 12) (va_cpy dy dyg 0 0 12) (va_cpy nd ndg 0 0 12) (va_cpy co cog 0 0 12) (va_cpy wo wog 0 0 48) k (0 : Int32))))) k13 d14) = V → GM p_ l e_ s_ m_ below_ meth_ c_ D 6 143 5 [.ref b, .int k, .int what] (wBND1 D b h a1 a2 a3 a4 a5 a6 g0 g1 g2 g3 g4 g5 g6 u1 k0 t0 s0 u2 u3 pe n td ys la ri kd dy nd co od wo V.2.1 V.2.2.1 V.2.2.2.1 V.2.2.2.2.1 V.2.2.2.2.2.1 V.2.2.2.2.2.2.1 V.2.2.2.2.2.2.2.1 V.2.2.2.2.2.2.2.2.1 V.2.2.2.2.2.2.2.2.2.1 V.2.2.2.2.2.2.2.2.2.2.1 V.2.2.2.2.2.2.2.2.2.2.2.1 V.2.2.2.2.2.2.2.2.2.2.2.2.1 V.2.2.2.2.2.2.2.2.2.2.2.2.2 im) (Ad (wBND1 D b h a1 a2 a3 a4 a5 a6 g0 g1 g2 g3 g4 g5 g6 u1 k0 t0 s0 u2 u3 pe n td ys la ri kd dy nd co od wo peg ng tdg ysg lag rig kdg dyg ndg cog odg wog be im)) (some (Value.int V.1)) (wBND1 D b h a1 a2 a3 a4 a5 a6 g0 g1 g2 g3 g4 g5 g6 u1 k0 t0 s0 u2 u3 pe n td ys la ri kd dy nd co od wo pe n (11 : Int32) (ys_6 + (1 : Int32)) (s_X5_standing n la_7 (va_cpy kd kdg 0 0 12) (va_cpy nd ndg 0 0 12) (s_X4_most pe n la_7 (va_cpy kd kdg 0 0 12) (va_cpy dy dyg 0 0 12) (va_cpy nd ndg 0 0 12) (va_cpy co cog 0 0 12) (va_cpy wo wog 0 0 48) k (0 : Int32))) (0 : Int32) (va_cpy kd kdg 0 0 12) (va_cpy dy dyg 0 0 12) (va_cpy nd ndg 0 0 12) (va_cpy co cog 0 0 12) (va_cpy od odg 0 0 12) (va_cpy wo wog 0 0 48) be_9 im) 74 [(4, .int (nI d14)), (3, .int (nI d4)), (0, .ref b), (1, .int k), (2, .int what)] [] := by
              intro k13
              induction k13 with
              | zero =>
                intro d14 hk hv
                have hv : (s_X6_comes_L42 pe n kd dy nd co od wo kdg dyg ndg cog odg wog k what (fun td_5 ys_6 la_7 ri_8 be_9 => ((-4 : Int32), pe, n, td_5, ys_6, la_7, ri_8, va_cpy kd kdg 0 0 12, va_cpy dy dyg 0 0 12, va_cpy nd ndg 0 0 12, va_cpy co cog 0 0 12, va_cpy od odg 0 0 12, va_cpy wo wog 0 0 48, be_9)) k3 (d4 + 1) (11 : Int32) (ys_6 + (1 : Int32)) (s_X5_standing n la_7 (va_cpy kd kdg 0 0 12) (va_cpy nd ndg 0 0 12) (s_X4_most pe n la_7 (va_cpy kd kdg 0 0 12) (va_cpy dy dyg 0 0 12) (va_cpy nd ndg 0 0 12) (va_cpy co cog 0 0 12) (va_cpy wo wog 0 0 48) k (0 : Int32))) (0 : Int32) (upd be_9 d4 (s_X5_standing n la_7 (va_cpy kd kdg 0 0 12) (va_cpy nd ndg 0 0 12) (s_X4_most pe n la_7 (va_cpy kd kdg 0 0 12) (va_cpy dy dyg 0 0 12) (va_cpy nd ndg 0 0 12) (va_cpy co cog 0 0 12) (va_cpy wo wog 0 0 48) k (0 : Int32))))) = V := hv
                refine r_il C dX6_comes_74 0 rfl ?_
                refine r_iln C dX6_comes_76 rfl 1 rfl ?_
                refine r_icge C (tgt := 116) dX6_comes_77 (by decide) (fun c15 => ?_) (fun c15 => ?_)
                · skip
                  refine r_aln C dX6_comes_116 rfl 2 rfl ?_
                  refine gf_X6_36 C 0 rfl rfl dX6_comes_117 ?_
                  refine r_iln C dX6_comes_120 rfl 1 rfl ?_
                  refine r_aln C dX6_comes_121 rfl 2 rfl ?_
                  refine gf_X6_19 C 0 rfl rfl dX6_comes_122 ?_
                  refine gf_X6_118 C 8 rfl rfl dX6_comes_125 ?_
                  refine r_iast C (ws2 := wBND1 D b h a1 a2 a3 a4 a5 a6 g0 g1 g2 g3 g4 g5 g6 u1 k0 t0 s0 u2 u3 pe n td ys la ri kd dy nd co od wo pe n (11 : Int32) (ys_6 + (1 : Int32)) (s_X5_standing n la_7 (va_cpy kd kdg 0 0 12) (va_cpy nd ndg 0 0 12) (s_X4_most pe n la_7 (va_cpy kd kdg 0 0 12) (va_cpy dy dyg 0 0 12) (va_cpy nd ndg 0 0 12) (va_cpy co cog 0 0 12) (va_cpy wo wog 0 0 48) k (0 : Int32))) (0 : Int32) (va_cpy kd kdg 0 0 12) (va_cpy dy dyg 0 0 12) (va_cpy nd ndg 0 0 12) (va_cpy co cog 0 0 12) (va_cpy od odg 0 0 12) (va_cpy wo wog 0 0 48) (upd be_9 d4 (s_X5_standing n la_7 (va_cpy kd kdg 0 0 12) (va_cpy nd ndg 0 0 12) (s_X4_most pe n la_7 (va_cpy kd kdg 0 0 12) (va_cpy dy dyg 0 0 12) (va_cpy nd ndg 0 0 12) (va_cpy co cog 0 0 12) (va_cpy wo wog 0 0 48) k (0 : Int32)))) im) h0 rfl 15 d4 rfl rfl (by omega) (by decide) dX6_comes_128 rfl rfl ?_
                  refine r_inc C (v := nI (d4 + 1)) (lv' := [(3, .int (nI (d4 + 1))), (4, .int (nI d14)), (0, .ref b), (1, .int k), (2, .int what)]) dX6_comes_129 1 rfl (inc_nI d4) (by decide) rfl ?_
                  refine r_goto C (tgt := 42) dX6_comes_132 (by decide) ?_
                  refine r_lv [0, 2, 3, 4] rfl ?_
                  exact ih11 (d4 + 1) (11 : Int32) (ys_6 + (1 : Int32)) (s_X5_standing n la_7 (va_cpy kd kdg 0 0 12) (va_cpy nd ndg 0 0 12) (s_X4_most pe n la_7 (va_cpy kd kdg 0 0 12) (va_cpy dy dyg 0 0 12) (va_cpy nd ndg 0 0 12) (va_cpy co cog 0 0 12) (va_cpy wo wog 0 0 48) k (0 : Int32))) (0 : Int32) (upd be_9 d4 (s_X5_standing n la_7 (va_cpy kd kdg 0 0 12) (va_cpy nd ndg 0 0 12) (s_X4_most pe n la_7 (va_cpy kd kdg 0 0 12) (va_cpy dy dyg 0 0 12) (va_cpy nd ndg 0 0 12) (va_cpy co cog 0 0 12) (va_cpy wo wog 0 0 48) k (0 : Int32)))) (by omega) hv
                · exact absurd c15 (fun z => absurd ((nv_lt (a := d14) (b := d4) rfl rfl (by omega) (by omega)).mp z) (by omega))
              | succ k13 ih16 =>
                intro d14 hk hv
                have hv : (if be_9 d14 = s_X5_standing n la_7 (va_cpy kd kdg 0 0 12) (va_cpy nd ndg 0 0 12) (s_X4_most pe n la_7 (va_cpy kd kdg 0 0 12) (va_cpy dy dyg 0 0 12) (va_cpy nd ndg 0 0 12) (va_cpy co cog 0 0 12) (va_cpy wo wog 0 0 48) k (0 : Int32)) then (if what = (0 : Int32) then (nI d4, pe, n, (11 : Int32), ys_6 + (1 : Int32), s_X5_standing n la_7 (va_cpy kd kdg 0 0 12) (va_cpy nd ndg 0 0 12) (s_X4_most pe n la_7 (va_cpy kd kdg 0 0 12) (va_cpy dy dyg 0 0 12) (va_cpy nd ndg 0 0 12) (va_cpy co cog 0 0 12) (va_cpy wo wog 0 0 48) k (0 : Int32)), (0 : Int32), va_cpy kd kdg 0 0 12, va_cpy dy dyg 0 0 12, va_cpy nd ndg 0 0 12, va_cpy co cog 0 0 12, va_cpy od odg 0 0 12, va_cpy wo wog 0 0 48, be_9) else ((nI d4) - (nI d14), pe, n, (11 : Int32), ys_6 + (1 : Int32), s_X5_standing n la_7 (va_cpy kd kdg 0 0 12) (va_cpy nd ndg 0 0 12) (s_X4_most pe n la_7 (va_cpy kd kdg 0 0 12) (va_cpy dy dyg 0 0 12) (va_cpy nd ndg 0 0 12) (va_cpy co cog 0 0 12) (va_cpy wo wog 0 0 48) k (0 : Int32)), (0 : Int32), va_cpy kd kdg 0 0 12, va_cpy dy dyg 0 0 12, va_cpy nd ndg 0 0 12, va_cpy co cog 0 0 12, va_cpy od odg 0 0 12, va_cpy wo wog 0 0 48, be_9)) else (s_X6_comes_L74 pe n kd dy nd co od wo kdg dyg ndg cog odg wog k what d4 ys_6 la_7 be_9 (s_X6_comes_L42 pe n kd dy nd co od wo kdg dyg ndg cog odg wog k what (fun td_5 ys_6 la_7 ri_8 be_9 => ((-4 : Int32), pe, n, td_5, ys_6, la_7, ri_8, va_cpy kd kdg 0 0 12, va_cpy dy dyg 0 0 12, va_cpy nd ndg 0 0 12, va_cpy co cog 0 0 12, va_cpy od odg 0 0 12, va_cpy wo wog 0 0 48, be_9)) k3 (d4 + 1) (11 : Int32) (ys_6 + (1 : Int32)) (s_X5_standing n la_7 (va_cpy kd kdg 0 0 12) (va_cpy nd ndg 0 0 12) (s_X4_most pe n la_7 (va_cpy kd kdg 0 0 12) (va_cpy dy dyg 0 0 12) (va_cpy nd ndg 0 0 12) (va_cpy co cog 0 0 12) (va_cpy wo wog 0 0 48) k (0 : Int32))) (0 : Int32) (upd be_9 d4 (s_X5_standing n la_7 (va_cpy kd kdg 0 0 12) (va_cpy nd ndg 0 0 12) (s_X4_most pe n la_7 (va_cpy kd kdg 0 0 12) (va_cpy dy dyg 0 0 12) (va_cpy nd ndg 0 0 12) (va_cpy co cog 0 0 12) (va_cpy wo wog 0 0 48) k (0 : Int32))))) k13 (d14 + 1))) = V := hv
                refine r_il C dX6_comes_74 0 rfl ?_
                refine r_iln C dX6_comes_76 rfl 1 rfl ?_
                refine r_icge C (tgt := 116) dX6_comes_77 (by decide) (fun c17 => ?_) (fun c17 => ?_)
                · exact absurd ((nv_lt (a := d14) (b := d4) rfl rfl (by omega) (by omega)).mpr (by omega)) c17
                · skip
                  refine r_aln C dX6_comes_80 rfl 2 rfl ?_
                  refine gf_X6_36 C 0 rfl rfl dX6_comes_81 ?_
                  refine r_il C dX6_comes_84 0 rfl ?_
                  refine r_iald C 15 d14 rfl rfl (by omega) (by decide) rfl dX6_comes_86 ?_
                  refine r_aln C dX6_comes_87 rfl 2 rfl ?_
                  refine gf_X6_19 C 0 rfl rfl dX6_comes_88 ?_
                  refine gf_X6_118 C 8 rfl rfl dX6_comes_91 ?_
                  refine r_icne C (tgt := 110) dX6_comes_94 (by decide) (fun c18 => ?_) (fun c18 => ?_)
                  · rw [if_neg c18] at hv
                    refine r_inc C (v := nI (d14 + 1)) (lv' := [(4, .int (nI (d14 + 1))), (3, .int (nI d4)), (0, .ref b), (1, .int k), (2, .int what)]) dX6_comes_110 0 rfl (inc_nI d14) (by decide) rfl ?_
                    refine r_goto C (tgt := 74) dX6_comes_113 (by decide) ?_
                    exact ih16 (d14 + 1) (by omega) hv
                  · rw [if_pos c18] at hv
                    refine r_iln C dX6_comes_97 rfl 4 rfl ?_
                    refine r_ifne C (tgt := 105) dX6_comes_98 (by decide) (fun c19 => ?_) (fun c19 => ?_)
                    · rw [if_neg c19] at hv
                      refine r_iln C dX6_comes_105 rfl 1 rfl ?_
                      refine r_il C dX6_comes_106 0 rfl ?_
                      refine r_isub C dX6_comes_108 ?_
                      exact r_iret rfl C (by rw [← hv]) (by rw [← hv]) dX6_comes_109
                    · rw [if_pos c19] at hv
                      refine r_iln C dX6_comes_101 rfl 1 rfl ?_
                      refine r_goto C (tgt := 109) dX6_comes_102 (by decide) ?_
                      exact r_iret rfl C (by rw [← hv]) (by rw [← hv]) dX6_comes_109
            refine r_lve (lv2 := [(4, .int (nI 0)), (3, .int (nI d4)), (0, .ref b), (1, .int k), (2, .int what)]) (congrArg (fun (z : Int32) => ([(4, .int z), (3, .int (nI d4)), (0, .ref b), (1, .int k), (2, .int what)] : List (Nat × Value))) rfl) ?_
            exact L20 d4 0 (by omega) hv
      refine r_lve (lv2 := [(3, .int (nI 1)), (0, .ref b), (1, .int k), (2, .int what)]) (congrArg (fun (z : Int32) => ([(3, .int z), (0, .ref b), (1, .int k), (2, .int what)] : List (Nat × Value))) rfl) ?_
      exact L21 60 1 td ys la ri (upd be 0 la) (by omega) hv
    · rw [if_pos c2] at hv
      refine r_ic C (v := (-1 : Int32)) dX6_comes_14 (by decide) ?_
      exact r_iret rfl C (by rw [← hv]) (by rw [← hv]) dX6_comes_15

def s_X6_image (pe : Nat) (n : Nat) (td : Int32) (ys : Int32) (la : Int32) (ri : Int32) (kd : Nat → Int32) (dy : Nat → Int32) (nd : Nat → Int32) (co : Nat → Int32) (od : Nat → Int32) (wo : Nat → Int32) (kdk : Nat → Int32) (dyk : Nat → Int32) (ndk : Nat → Int32) (cok : Nat → Int32) (odk : Nat → Int32) (wok : Nat → Int32) : Int32 × Nat × Nat × Int32 × Int32 × Int32 × Int32 × (Nat → Int32) × (Nat → Int32) × (Nat → Int32) × (Nat → Int32) × (Nat → Int32) × (Nat → Int32) × Int32 := ((1 : Int32), pe, n, td, ys, la, ri, va_cpy kd kdk 0 0 12, va_cpy dy dyk 0 0 12, va_cpy nd ndk 0 0 12, va_cpy co cok 0 0 12, va_cpy od odk 0 0 12, va_cpy wo wok 0 0 48, (1 : Int32))
set_option maxHeartbeats 8000000 in
set_option maxRecDepth 100000 in
theorem c_X6_image (l : Launch) (D : va_G) (b : Nat) (h : Nat) (a1 : Nat) (a2 : Nat) (a3 : Nat) (a4 : Nat) (a5 : Nat) (a6 : Nat) (k0 : Nat) (k1 : Nat) (k2 : Nat) (k3 : Nat) (k4 : Nat) (k5 : Nat) (k6 : Nat) (g0 : Nat) (t0 : Nat) (s0 : Nat) (u1 : Nat) (u2 : Nat) (u3 : Nat) (pe : Nat) (n : Nat) (td : Int32) (ys : Int32) (la : Int32) (ri : Int32) (kd : Nat → Int32) (dy : Nat → Int32) (nd : Nat → Int32) (co : Nat → Int32) (od : Nat → Int32) (wo : Nat → Int32) (pek : Nat) (nk : Nat) (tdk : Int32) (ysk : Int32) (lak : Int32) (rik : Int32) (kdk : Nat → Int32) (dyk : Nat → Int32) (ndk : Nat → Int32) (cok : Nat → Int32) (odk : Nat → Int32) (wok : Nat → Int32) (im : Int32) (h0 : va_D (fun _ => True) (wBNK D b h a1 a2 a3 a4 a5 a6 k0 k1 k2 k3 k4 k5 k6 g0 t0 s0 u1 u2 u3 pe n td ys la ri kd dy nd co od wo pek nk tdk ysk lak rik kdk dyk ndk cok odk wok im)) : ct l yX6_image cX6_image 1 (some .int) 2 101 D [.ref b] (wBNK D b h a1 a2 a3 a4 a5 a6 k0 k1 k2 k3 k4 k5 k6 g0 t0 s0 u1 u2 u3 pe n td ys la ri kd dy nd co od wo pek nk tdk ysk lak rik kdk dyk ndk cok odk wok im) (wBNK D b h a1 a2 a3 a4 a5 a6 k0 k1 k2 k3 k4 k5 k6 g0 t0 s0 u1 u2 u3 pe n td ys la ri kd dy nd co od wo (s_X6_image pe n td ys la ri kd dy nd co od wo kdk dyk ndk cok odk wok).2.1 (s_X6_image pe n td ys la ri kd dy nd co od wo kdk dyk ndk cok odk wok).2.2.1 (s_X6_image pe n td ys la ri kd dy nd co od wo kdk dyk ndk cok odk wok).2.2.2.1 (s_X6_image pe n td ys la ri kd dy nd co od wo kdk dyk ndk cok odk wok).2.2.2.2.1 (s_X6_image pe n td ys la ri kd dy nd co od wo kdk dyk ndk cok odk wok).2.2.2.2.2.1 (s_X6_image pe n td ys la ri kd dy nd co od wo kdk dyk ndk cok odk wok).2.2.2.2.2.2.1 (s_X6_image pe n td ys la ri kd dy nd co od wo kdk dyk ndk cok odk wok).2.2.2.2.2.2.2.1 (s_X6_image pe n td ys la ri kd dy nd co od wo kdk dyk ndk cok odk wok).2.2.2.2.2.2.2.2.1 (s_X6_image pe n td ys la ri kd dy nd co od wo kdk dyk ndk cok odk wok).2.2.2.2.2.2.2.2.2.1 (s_X6_image pe n td ys la ri kd dy nd co od wo kdk dyk ndk cok odk wok).2.2.2.2.2.2.2.2.2.2.1 (s_X6_image pe n td ys la ri kd dy nd co od wo kdk dyk ndk cok odk wok).2.2.2.2.2.2.2.2.2.2.2.1 (s_X6_image pe n td ys la ri kd dy nd co od wo kdk dyk ndk cok odk wok).2.2.2.2.2.2.2.2.2.2.2.2.1 (s_X6_image pe n td ys la ri kd dy nd co od wo kdk dyk ndk cok odk wok).2.2.2.2.2.2.2.2.2.2.2.2.2) (Ad (wBNK D b h a1 a2 a3 a4 a5 a6 k0 k1 k2 k3 k4 k5 k6 g0 t0 s0 u1 u2 u3 pe n td ys la ri kd dy nd co od wo pek nk tdk ysk lak rik kdk dyk ndk cok odk wok im)) (some (Value.int (s_X6_image pe n td ys la ri kd dy nd co od wo kdk dyk ndk cok odk wok).1)) := by
  obtain ⟨V, hv⟩ : ∃ V, s_X6_image pe n td ys la ri kd dy nd co od wo kdk dyk ndk cok odk wok = V := ⟨_, rfl⟩
  rw [hv]
  refine ct_intro (own := RX6) (lv := [(0, .ref b)]) (by decide) rfl (Nat.le_of_ble_eq_true rfl) rfl ?_
  intro p_ e_ s_ m_ below_ meth_ c_ C
  have hv : ((1 : Int32), pe, n, td, ys, la, ri, va_cpy kd kdk 0 0 12, va_cpy dy dyk 0 0 12, va_cpy nd ndk 0 0 12, va_cpy co cok 0 0 12, va_cpy od odk 0 0 12, va_cpy wo wok 0 0 48, (1 : Int32)) = V := hv
  refine r_aln C dX6_image_0 rfl 0 rfl ?_
  refine gf_X6_16 C 0 rfl rfl dX6_image_1 ?_
  refine r_aln C dX6_image_4 rfl 0 rfl ?_
  refine gf_X6_10 C 0 rfl rfl dX6_image_5 ?_
  refine aft_wr (ws2 := wBNK D b h a1 a2 a3 a4 a5 a6 k0 k1 k2 k3 k4 k5 k6 g0 t0 s0 u1 u2 u3 pe n td ys la ri kd dy nd co od wo pe n td ys la ri (va_cpy kd kdk 0 0 12) (va_cpy dy dyk 0 0 12) (va_cpy nd ndk 0 0 12) (va_cpy co cok 0 0 12) (va_cpy od odk 0 0 12) (va_cpy wo wok 0 0 48) im) (st' := []) h0 rfl [8, 9, 10, 11, 12, 13, 14, 1, 2, 3, 4, 5, 6, 7] (run_VN (rest := []) C (c_X5_become l D k0 k1 k2 k3 k4 k5 k6 h a1 a2 a3 a4 a5 a6 pek nk tdk ysk lak rik kdk dyk ndk cok odk wok pe n td ys la ri kd dy nd co od wo  (dis_sub h0 [8, 9, 10, 11, 12, 13, 14, 1, 2, 3, 4, 5, 6, 7] (by decide) rfl)) ok_X5_become wn_X5_become wl_X5_become wm_X6_137 [8, 9, 10, 11, 12, 13, 14, 1, 2, 3, 4, 5, 6, 7] 0 rfl rfl rfl ⟨Nat.le_of_ble_eq_true rfl, Nat.le_of_ble_eq_true rfl⟩ rfl rfl (Nat.le_of_ble_eq_true rfl) dX6_image_8) rfl rfl rfl rfl rfl ?_
  refine r_aln C dX6_image_11 rfl 0 rfl ?_
  refine r_ic C (v := (1 : Int32)) dX6_image_12 (by decide) ?_
  refine pf_X6_46 C (ws2 := wBNK D b h a1 a2 a3 a4 a5 a6 k0 k1 k2 k3 k4 k5 k6 g0 t0 s0 u1 u2 u3 pe n td ys la ri kd dy nd co od wo pe n td ys la ri (va_cpy kd kdk 0 0 12) (va_cpy dy dyk 0 0 12) (va_cpy nd ndk 0 0 12) (va_cpy co cok 0 0 12) (va_cpy od odk 0 0 12) (va_cpy wo wok 0 0 48) (1 : Int32)) h0 rfl 0 rfl (Nat.le_of_ble_eq_true rfl) rfl rfl dX6_image_13 rfl rfl ?_
  refine r_ic C (v := (1 : Int32)) dX6_image_16 (by decide) ?_
  exact r_iret rfl C (by rw [← hv]) (by rw [← hv]) dX6_image_17

def s_X6_restore (pe : Nat) (n : Nat) (td : Int32) (ys : Int32) (la : Int32) (ri : Int32) (kd : Nat → Int32) (dy : Nat → Int32) (nd : Nat → Int32) (co : Nat → Int32) (od : Nat → Int32) (wo : Nat → Int32) (pek : Nat) (nk : Nat) (tdk : Int32) (ysk : Int32) (lak : Int32) (rik : Int32) (kdk : Nat → Int32) (dyk : Nat → Int32) (ndk : Nat → Int32) (cok : Nat → Int32) (odk : Nat → Int32) (wok : Nat → Int32) (im : Int32) : Int32 × Nat × Nat × Int32 × Int32 × Int32 × Int32 × (Nat → Int32) × (Nat → Int32) × (Nat → Int32) × (Nat → Int32) × (Nat → Int32) × (Nat → Int32) := (if im = (0 : Int32) then ((-4 : Int32), pe, n, td, ys, la, ri, kd, dy, nd, co, od, wo) else ((1 : Int32), pek, nk, tdk, ysk, lak, rik, va_cpy kdk kd 0 0 12, va_cpy dyk dy 0 0 12, va_cpy ndk nd 0 0 12, va_cpy cok co 0 0 12, va_cpy odk od 0 0 12, va_cpy wok wo 0 0 48))
set_option maxHeartbeats 8000000 in
set_option maxRecDepth 100000 in
theorem c_X6_restore (l : Launch) (D : va_G) (b : Nat) (h : Nat) (a1 : Nat) (a2 : Nat) (a3 : Nat) (a4 : Nat) (a5 : Nat) (a6 : Nat) (k0 : Nat) (k1 : Nat) (k2 : Nat) (k3 : Nat) (k4 : Nat) (k5 : Nat) (k6 : Nat) (g0 : Nat) (t0 : Nat) (s0 : Nat) (u1 : Nat) (u2 : Nat) (u3 : Nat) (pe : Nat) (n : Nat) (td : Int32) (ys : Int32) (la : Int32) (ri : Int32) (kd : Nat → Int32) (dy : Nat → Int32) (nd : Nat → Int32) (co : Nat → Int32) (od : Nat → Int32) (wo : Nat → Int32) (pek : Nat) (nk : Nat) (tdk : Int32) (ysk : Int32) (lak : Int32) (rik : Int32) (kdk : Nat → Int32) (dyk : Nat → Int32) (ndk : Nat → Int32) (cok : Nat → Int32) (odk : Nat → Int32) (wok : Nat → Int32) (im : Int32) (h0 : va_D (fun _ => True) (wBNK D b h a1 a2 a3 a4 a5 a6 k0 k1 k2 k3 k4 k5 k6 g0 t0 s0 u1 u2 u3 pe n td ys la ri kd dy nd co od wo pek nk tdk ysk lak rik kdk dyk ndk cok odk wok im)) : ct l yX6_restore cX6_restore 1 (some .int) 2 101 D [.ref b] (wBNK D b h a1 a2 a3 a4 a5 a6 k0 k1 k2 k3 k4 k5 k6 g0 t0 s0 u1 u2 u3 pe n td ys la ri kd dy nd co od wo pek nk tdk ysk lak rik kdk dyk ndk cok odk wok im) (wBNK D b h a1 a2 a3 a4 a5 a6 k0 k1 k2 k3 k4 k5 k6 g0 t0 s0 u1 u2 u3 (s_X6_restore pe n td ys la ri kd dy nd co od wo pek nk tdk ysk lak rik kdk dyk ndk cok odk wok im).2.1 (s_X6_restore pe n td ys la ri kd dy nd co od wo pek nk tdk ysk lak rik kdk dyk ndk cok odk wok im).2.2.1 (s_X6_restore pe n td ys la ri kd dy nd co od wo pek nk tdk ysk lak rik kdk dyk ndk cok odk wok im).2.2.2.1 (s_X6_restore pe n td ys la ri kd dy nd co od wo pek nk tdk ysk lak rik kdk dyk ndk cok odk wok im).2.2.2.2.1 (s_X6_restore pe n td ys la ri kd dy nd co od wo pek nk tdk ysk lak rik kdk dyk ndk cok odk wok im).2.2.2.2.2.1 (s_X6_restore pe n td ys la ri kd dy nd co od wo pek nk tdk ysk lak rik kdk dyk ndk cok odk wok im).2.2.2.2.2.2.1 (s_X6_restore pe n td ys la ri kd dy nd co od wo pek nk tdk ysk lak rik kdk dyk ndk cok odk wok im).2.2.2.2.2.2.2.1 (s_X6_restore pe n td ys la ri kd dy nd co od wo pek nk tdk ysk lak rik kdk dyk ndk cok odk wok im).2.2.2.2.2.2.2.2.1 (s_X6_restore pe n td ys la ri kd dy nd co od wo pek nk tdk ysk lak rik kdk dyk ndk cok odk wok im).2.2.2.2.2.2.2.2.2.1 (s_X6_restore pe n td ys la ri kd dy nd co od wo pek nk tdk ysk lak rik kdk dyk ndk cok odk wok im).2.2.2.2.2.2.2.2.2.2.1 (s_X6_restore pe n td ys la ri kd dy nd co od wo pek nk tdk ysk lak rik kdk dyk ndk cok odk wok im).2.2.2.2.2.2.2.2.2.2.2.1 (s_X6_restore pe n td ys la ri kd dy nd co od wo pek nk tdk ysk lak rik kdk dyk ndk cok odk wok im).2.2.2.2.2.2.2.2.2.2.2.2 pek nk tdk ysk lak rik kdk dyk ndk cok odk wok im) (Ad (wBNK D b h a1 a2 a3 a4 a5 a6 k0 k1 k2 k3 k4 k5 k6 g0 t0 s0 u1 u2 u3 pe n td ys la ri kd dy nd co od wo pek nk tdk ysk lak rik kdk dyk ndk cok odk wok im)) (some (Value.int (s_X6_restore pe n td ys la ri kd dy nd co od wo pek nk tdk ysk lak rik kdk dyk ndk cok odk wok im).1)) := by
  obtain ⟨V, hv⟩ : ∃ V, s_X6_restore pe n td ys la ri kd dy nd co od wo pek nk tdk ysk lak rik kdk dyk ndk cok odk wok im = V := ⟨_, rfl⟩
  rw [hv]
  refine ct_intro (own := RX6) (lv := [(0, .ref b)]) (by decide) rfl (Nat.le_of_ble_eq_true rfl) rfl ?_
  intro p_ e_ s_ m_ below_ meth_ c_ C
  have hv : (if im = (0 : Int32) then ((-4 : Int32), pe, n, td, ys, la, ri, kd, dy, nd, co, od, wo) else ((1 : Int32), pek, nk, tdk, ysk, lak, rik, va_cpy kdk kd 0 0 12, va_cpy dyk dy 0 0 12, va_cpy ndk nd 0 0 12, va_cpy cok co 0 0 12, va_cpy odk od 0 0 12, va_cpy wok wo 0 0 48)) = V := hv
  refine r_aln C dX6_restore_0 rfl 0 rfl ?_
  refine gf_X6_46 C 0 rfl rfl dX6_restore_1 ?_
  refine r_ifne C (tgt := 10) dX6_restore_4 (by decide) (fun c1 => ?_) (fun c1 => ?_)
  · rw [if_neg c1] at hv
    refine r_aln C dX6_restore_10 rfl 0 rfl ?_
    refine gf_X6_10 C 0 rfl rfl dX6_restore_11 ?_
    refine r_aln C dX6_restore_14 rfl 0 rfl ?_
    refine gf_X6_16 C 0 rfl rfl dX6_restore_15 ?_
    refine aft_wr (ws2 := wBNK D b h a1 a2 a3 a4 a5 a6 k0 k1 k2 k3 k4 k5 k6 g0 t0 s0 u1 u2 u3 pek nk tdk ysk lak rik (va_cpy kdk kd 0 0 12) (va_cpy dyk dy 0 0 12) (va_cpy ndk nd 0 0 12) (va_cpy cok co 0 0 12) (va_cpy odk od 0 0 12) (va_cpy wok wo 0 0 48) pek nk tdk ysk lak rik kdk dyk ndk cok odk wok im) (st' := []) h0 rfl [1, 2, 3, 4, 5, 6, 7, 8, 9, 10, 11, 12, 13, 14] (run_VN (rest := []) C (c_X5_become l D h a1 a2 a3 a4 a5 a6 k0 k1 k2 k3 k4 k5 k6 pe n td ys la ri kd dy nd co od wo pek nk tdk ysk lak rik kdk dyk ndk cok odk wok  (dis_sub h0 [1, 2, 3, 4, 5, 6, 7, 8, 9, 10, 11, 12, 13, 14] (by decide) rfl)) ok_X5_become wn_X5_become wl_X5_become wm_X6_137 [1, 2, 3, 4, 5, 6, 7, 8, 9, 10, 11, 12, 13, 14] 0 rfl rfl rfl ⟨Nat.le_of_ble_eq_true rfl, Nat.le_of_ble_eq_true rfl⟩ rfl rfl (Nat.le_of_ble_eq_true rfl) dX6_restore_18) rfl rfl rfl rfl rfl ?_
    refine r_ic C (v := (1 : Int32)) dX6_restore_21 (by decide) ?_
    exact r_iret rfl C (by rw [← hv]) (by rw [← hv]) dX6_restore_22
  · rw [if_pos c1] at hv
    refine r_bp C (v := (-4 : Int32)) dX6_restore_7 (by decide) ?_
    exact r_iret rfl C (by rw [← hv]) (by rw [← hv]) dX6_restore_9

def s_X6_text (pe : Nat) (n : Nat) (td : Int32) (ys : Int32) (la : Int32) (ri : Int32) (kd : Nat → Int32) (dy : Nat → Int32) (nd : Nat → Int32) (co : Nat → Int32) (od : Nat → Int32) (wo : Nat → Int32) (peg : Nat) (ysg : Int32) (kdg : Nat → Int32) (dyg : Nat → Int32) (ndg : Nat → Int32) (cog : Nat → Int32) (odg : Nat → Int32) (wog : Nat → Int32) (ty : Nat) (tk : Int32) (le : Nat → Int32) : Int32 × Nat × Int32 × Int32 × Int32 × (Nat → Int32) × (Nat → Int32) × (Nat → Int32) × (Nat → Int32) × (Nat → Int32) × (Nat → Int32) × Nat × Nat × Int32 × Int32 × Int32 × Int32 × (Nat → Int32) × (Nat → Int32) × (Nat → Int32) × (Nat → Int32) × (Nat → Int32) × (Nat → Int32) × Nat × Int32 × Int32 := (if (0 : Int32) < (s_X3_readInto ty tk le 0 kdg dyg ndg cog odg wog).1 then ((s_X3_readInto ty tk le 0 kdg dyg ndg cog odg wog).1, ((s_X3_readInto ty tk le 0 kdg dyg ndg cog odg wog).2.2.2.1), (11 : Int32), (0 : Int32), (0 : Int32), va_cpy ((s_X3_readInto ty tk le 0 kdg dyg ndg cog odg wog).2.2.2.2.1) kd 0 0 12, va_cpy ((s_X3_readInto ty tk le 0 kdg dyg ndg cog odg wog).2.2.2.2.2.1) dy 0 0 12, va_cpy ((s_X3_readInto ty tk le 0 kdg dyg ndg cog odg wog).2.2.2.2.2.2.1) nd 0 0 12, va_cpy ((s_X3_readInto ty tk le 0 kdg dyg ndg cog odg wog).2.2.2.2.2.2.2.1) co 0 0 12, va_cpy ((s_X3_readInto ty tk le 0 kdg dyg ndg cog odg wog).2.2.2.2.2.2.2.2.1) od 0 0 12, va_cpy ((s_X3_readInto ty tk le 0 kdg dyg ndg cog odg wog).2.2.2.2.2.2.2.2.2) wo 0 0 48, pe, (s_X3_readInto ty tk le 0 kdg dyg ndg cog odg wog).2.2.2.1, (11 : Int32), ys, (0 : Int32), (0 : Int32), (s_X3_readInto ty tk le 0 kdg dyg ndg cog odg wog).2.2.2.2.1, (s_X3_readInto ty tk le 0 kdg dyg ndg cog odg wog).2.2.2.2.2.1, (s_X3_readInto ty tk le 0 kdg dyg ndg cog odg wog).2.2.2.2.2.2.1, (s_X3_readInto ty tk le 0 kdg dyg ndg cog odg wog).2.2.2.2.2.2.2.1, (s_X3_readInto ty tk le 0 kdg dyg ndg cog odg wog).2.2.2.2.2.2.2.2.1, (s_X3_readInto ty tk le 0 kdg dyg ndg cog odg wog).2.2.2.2.2.2.2.2.2, 0, (s_X3_readInto ty tk le 0 kdg dyg ndg cog odg wog).2.1, (s_X3_readInto ty tk le 0 kdg dyg ndg cog odg wog).2.2.1) else ((s_X3_readInto ty tk le 0 kdg dyg ndg cog odg wog).1, n, td, la, ri, kd, dy, nd, co, od, wo, peg, (s_X3_readInto ty tk le 0 kdg dyg ndg cog odg wog).2.2.2.1, (11 : Int32), ysg, (0 : Int32), (0 : Int32), (s_X3_readInto ty tk le 0 kdg dyg ndg cog odg wog).2.2.2.2.1, (s_X3_readInto ty tk le 0 kdg dyg ndg cog odg wog).2.2.2.2.2.1, (s_X3_readInto ty tk le 0 kdg dyg ndg cog odg wog).2.2.2.2.2.2.1, (s_X3_readInto ty tk le 0 kdg dyg ndg cog odg wog).2.2.2.2.2.2.2.1, (s_X3_readInto ty tk le 0 kdg dyg ndg cog odg wog).2.2.2.2.2.2.2.2.1, (s_X3_readInto ty tk le 0 kdg dyg ndg cog odg wog).2.2.2.2.2.2.2.2.2, 0, (s_X3_readInto ty tk le 0 kdg dyg ndg cog odg wog).2.1, (s_X3_readInto ty tk le 0 kdg dyg ndg cog odg wog).2.2.1))
set_option maxHeartbeats 8000000 in
set_option maxRecDepth 100000 in
theorem c_X6_text (l : Launch) (D : va_G) (b : Nat) (h : Nat) (a1 : Nat) (a2 : Nat) (a3 : Nat) (a4 : Nat) (a5 : Nat) (a6 : Nat) (g0 : Nat) (g1 : Nat) (g2 : Nat) (g3 : Nat) (g4 : Nat) (g5 : Nat) (g6 : Nat) (t0 : Nat) (t1 : Nat) (k0 : Nat) (s0 : Nat) (u1 : Nat) (u2 : Nat) (u3 : Nat) (pe : Nat) (n : Nat) (td : Int32) (ys : Int32) (la : Int32) (ri : Int32) (kd : Nat → Int32) (dy : Nat → Int32) (nd : Nat → Int32) (co : Nat → Int32) (od : Nat → Int32) (wo : Nat → Int32) (peg : Nat) (ng : Nat) (tdg : Int32) (ysg : Int32) (lag : Int32) (rig : Int32) (kdg : Nat → Int32) (dyg : Nat → Int32) (ndg : Nat → Int32) (cog : Nat → Int32) (odg : Nat → Int32) (wog : Nat → Int32) (ty : Nat) (aw : Int32) (tk : Int32) (le : Nat → Int32) (im : Int32) (hty : ty ≤ 80) (h0 : va_D (fun _ => True) (wBNDT D b h a1 a2 a3 a4 a5 a6 g0 g1 g2 g3 g4 g5 g6 t0 t1 k0 s0 u1 u2 u3 pe n td ys la ri kd dy nd co od wo peg ng tdg ysg lag rig kdg dyg ndg cog odg wog ty aw tk le im)) : ct l yX6_text cX6_text 2 (some .int) 4 101 D [.ref b] (wBNDT D b h a1 a2 a3 a4 a5 a6 g0 g1 g2 g3 g4 g5 g6 t0 t1 k0 s0 u1 u2 u3 pe n td ys la ri kd dy nd co od wo peg ng tdg ysg lag rig kdg dyg ndg cog odg wog ty aw tk le im) (wBNDT D b h a1 a2 a3 a4 a5 a6 g0 g1 g2 g3 g4 g5 g6 t0 t1 k0 s0 u1 u2 u3 pe (s_X6_text pe n td ys la ri kd dy nd co od wo peg ysg kdg dyg ndg cog odg wog ty tk le).2.1 (s_X6_text pe n td ys la ri kd dy nd co od wo peg ysg kdg dyg ndg cog odg wog ty tk le).2.2.1 ys (s_X6_text pe n td ys la ri kd dy nd co od wo peg ysg kdg dyg ndg cog odg wog ty tk le).2.2.2.1 (s_X6_text pe n td ys la ri kd dy nd co od wo peg ysg kdg dyg ndg cog odg wog ty tk le).2.2.2.2.1 (s_X6_text pe n td ys la ri kd dy nd co od wo peg ysg kdg dyg ndg cog odg wog ty tk le).2.2.2.2.2.1 (s_X6_text pe n td ys la ri kd dy nd co od wo peg ysg kdg dyg ndg cog odg wog ty tk le).2.2.2.2.2.2.1 (s_X6_text pe n td ys la ri kd dy nd co od wo peg ysg kdg dyg ndg cog odg wog ty tk le).2.2.2.2.2.2.2.1 (s_X6_text pe n td ys la ri kd dy nd co od wo peg ysg kdg dyg ndg cog odg wog ty tk le).2.2.2.2.2.2.2.2.1 (s_X6_text pe n td ys la ri kd dy nd co od wo peg ysg kdg dyg ndg cog odg wog ty tk le).2.2.2.2.2.2.2.2.2.1 (s_X6_text pe n td ys la ri kd dy nd co od wo peg ysg kdg dyg ndg cog odg wog ty tk le).2.2.2.2.2.2.2.2.2.2.1 (s_X6_text pe n td ys la ri kd dy nd co od wo peg ysg kdg dyg ndg cog odg wog ty tk le).2.2.2.2.2.2.2.2.2.2.2.1 (s_X6_text pe n td ys la ri kd dy nd co od wo peg ysg kdg dyg ndg cog odg wog ty tk le).2.2.2.2.2.2.2.2.2.2.2.2.1 (s_X6_text pe n td ys la ri kd dy nd co od wo peg ysg kdg dyg ndg cog odg wog ty tk le).2.2.2.2.2.2.2.2.2.2.2.2.2.1 (s_X6_text pe n td ys la ri kd dy nd co od wo peg ysg kdg dyg ndg cog odg wog ty tk le).2.2.2.2.2.2.2.2.2.2.2.2.2.2.1 (s_X6_text pe n td ys la ri kd dy nd co od wo peg ysg kdg dyg ndg cog odg wog ty tk le).2.2.2.2.2.2.2.2.2.2.2.2.2.2.2.1 (s_X6_text pe n td ys la ri kd dy nd co od wo peg ysg kdg dyg ndg cog odg wog ty tk le).2.2.2.2.2.2.2.2.2.2.2.2.2.2.2.2.1 (s_X6_text pe n td ys la ri kd dy nd co od wo peg ysg kdg dyg ndg cog odg wog ty tk le).2.2.2.2.2.2.2.2.2.2.2.2.2.2.2.2.2.1 (s_X6_text pe n td ys la ri kd dy nd co od wo peg ysg kdg dyg ndg cog odg wog ty tk le).2.2.2.2.2.2.2.2.2.2.2.2.2.2.2.2.2.2.1 (s_X6_text pe n td ys la ri kd dy nd co od wo peg ysg kdg dyg ndg cog odg wog ty tk le).2.2.2.2.2.2.2.2.2.2.2.2.2.2.2.2.2.2.2.1 (s_X6_text pe n td ys la ri kd dy nd co od wo peg ysg kdg dyg ndg cog odg wog ty tk le).2.2.2.2.2.2.2.2.2.2.2.2.2.2.2.2.2.2.2.2.1 (s_X6_text pe n td ys la ri kd dy nd co od wo peg ysg kdg dyg ndg cog odg wog ty tk le).2.2.2.2.2.2.2.2.2.2.2.2.2.2.2.2.2.2.2.2.2.1 (s_X6_text pe n td ys la ri kd dy nd co od wo peg ysg kdg dyg ndg cog odg wog ty tk le).2.2.2.2.2.2.2.2.2.2.2.2.2.2.2.2.2.2.2.2.2.2.1 (s_X6_text pe n td ys la ri kd dy nd co od wo peg ysg kdg dyg ndg cog odg wog ty tk le).2.2.2.2.2.2.2.2.2.2.2.2.2.2.2.2.2.2.2.2.2.2.2.1 (s_X6_text pe n td ys la ri kd dy nd co od wo peg ysg kdg dyg ndg cog odg wog ty tk le).2.2.2.2.2.2.2.2.2.2.2.2.2.2.2.2.2.2.2.2.2.2.2.2.1 (s_X6_text pe n td ys la ri kd dy nd co od wo peg ysg kdg dyg ndg cog odg wog ty tk le).2.2.2.2.2.2.2.2.2.2.2.2.2.2.2.2.2.2.2.2.2.2.2.2.2 le im) (Ad (wBNDT D b h a1 a2 a3 a4 a5 a6 g0 g1 g2 g3 g4 g5 g6 t0 t1 k0 s0 u1 u2 u3 pe n td ys la ri kd dy nd co od wo peg ng tdg ysg lag rig kdg dyg ndg cog odg wog ty aw tk le im)) (some (Value.int (s_X6_text pe n td ys la ri kd dy nd co od wo peg ysg kdg dyg ndg cog odg wog ty tk le).1)) := by
  obtain ⟨V, hv⟩ : ∃ V, s_X6_text pe n td ys la ri kd dy nd co od wo peg ysg kdg dyg ndg cog odg wog ty tk le = V := ⟨_, rfl⟩
  rw [hv]
  refine ct_intro (own := RX6) (lv := [(0, .ref b)]) (by decide) rfl (Nat.le_of_ble_eq_true rfl) rfl ?_
  intro p_ e_ s_ m_ below_ meth_ c_ C
  have hv : (if (0 : Int32) < (s_X3_readInto ty tk le 0 kdg dyg ndg cog odg wog).1 then ((s_X3_readInto ty tk le 0 kdg dyg ndg cog odg wog).1, ((s_X3_readInto ty tk le 0 kdg dyg ndg cog odg wog).2.2.2.1), (11 : Int32), (0 : Int32), (0 : Int32), va_cpy ((s_X3_readInto ty tk le 0 kdg dyg ndg cog odg wog).2.2.2.2.1) kd 0 0 12, va_cpy ((s_X3_readInto ty tk le 0 kdg dyg ndg cog odg wog).2.2.2.2.2.1) dy 0 0 12, va_cpy ((s_X3_readInto ty tk le 0 kdg dyg ndg cog odg wog).2.2.2.2.2.2.1) nd 0 0 12, va_cpy ((s_X3_readInto ty tk le 0 kdg dyg ndg cog odg wog).2.2.2.2.2.2.2.1) co 0 0 12, va_cpy ((s_X3_readInto ty tk le 0 kdg dyg ndg cog odg wog).2.2.2.2.2.2.2.2.1) od 0 0 12, va_cpy ((s_X3_readInto ty tk le 0 kdg dyg ndg cog odg wog).2.2.2.2.2.2.2.2.2) wo 0 0 48, pe, (s_X3_readInto ty tk le 0 kdg dyg ndg cog odg wog).2.2.2.1, (11 : Int32), ys, (0 : Int32), (0 : Int32), (s_X3_readInto ty tk le 0 kdg dyg ndg cog odg wog).2.2.2.2.1, (s_X3_readInto ty tk le 0 kdg dyg ndg cog odg wog).2.2.2.2.2.1, (s_X3_readInto ty tk le 0 kdg dyg ndg cog odg wog).2.2.2.2.2.2.1, (s_X3_readInto ty tk le 0 kdg dyg ndg cog odg wog).2.2.2.2.2.2.2.1, (s_X3_readInto ty tk le 0 kdg dyg ndg cog odg wog).2.2.2.2.2.2.2.2.1, (s_X3_readInto ty tk le 0 kdg dyg ndg cog odg wog).2.2.2.2.2.2.2.2.2, 0, (s_X3_readInto ty tk le 0 kdg dyg ndg cog odg wog).2.1, (s_X3_readInto ty tk le 0 kdg dyg ndg cog odg wog).2.2.1) else ((s_X3_readInto ty tk le 0 kdg dyg ndg cog odg wog).1, n, td, la, ri, kd, dy, nd, co, od, wo, peg, (s_X3_readInto ty tk le 0 kdg dyg ndg cog odg wog).2.2.2.1, (11 : Int32), ysg, (0 : Int32), (0 : Int32), (s_X3_readInto ty tk le 0 kdg dyg ndg cog odg wog).2.2.2.2.1, (s_X3_readInto ty tk le 0 kdg dyg ndg cog odg wog).2.2.2.2.2.1, (s_X3_readInto ty tk le 0 kdg dyg ndg cog odg wog).2.2.2.2.2.2.1, (s_X3_readInto ty tk le 0 kdg dyg ndg cog odg wog).2.2.2.2.2.2.2.1, (s_X3_readInto ty tk le 0 kdg dyg ndg cog odg wog).2.2.2.2.2.2.2.2.1, (s_X3_readInto ty tk le 0 kdg dyg ndg cog odg wog).2.2.2.2.2.2.2.2.2, 0, (s_X3_readInto ty tk le 0 kdg dyg ndg cog odg wog).2.1, (s_X3_readInto ty tk le 0 kdg dyg ndg cog odg wog).2.2.1)) = V := hv
  refine r_aln C dX6_text_0 rfl 0 rfl ?_
  refine gf_X6_19 C 0 rfl rfl dX6_text_1 ?_
  refine aft_wr (ws2 := wBNDT D b h a1 a2 a3 a4 a5 a6 g0 g1 g2 g3 g4 g5 g6 t0 t1 k0 s0 u1 u2 u3 pe n td ys la ri kd dy nd co od wo peg 0 (11 : Int32) ysg (0 : Int32) (0 : Int32) kdg dyg ndg cog odg wog ty aw tk le im) (st' := []) h0 rfl [8, 9, 10, 11, 12, 13, 14] (run_VN (rest := []) C (c_X5_clear l D g0 g1 g2 g3 g4 g5 g6 peg ng tdg ysg lag rig kdg dyg ndg cog odg wog  (dis_sub h0 [8, 9, 10, 11, 12, 13, 14] (by decide) rfl)) ok_X5_clear wn_X5_clear wl_X5_clear wm_X6_127 [8, 9, 10, 11, 12, 13, 14] 0 rfl rfl rfl ⟨Nat.le_of_ble_eq_true rfl, Nat.le_of_ble_eq_true rfl⟩ rfl rfl (Nat.le_of_ble_eq_true rfl) dX6_text_4) rfl rfl rfl rfl rfl ?_
  refine r_aln C dX6_text_7 rfl 0 rfl ?_
  refine gf_X6_25 C 0 rfl rfl dX6_text_8 ?_
  refine r_aln C dX6_text_11 rfl 0 rfl ?_
  refine gf_X6_19 C 0 rfl rfl dX6_text_12 ?_
  refine aft_wr (ws2 := wBNDT D b h a1 a2 a3 a4 a5 a6 g0 g1 g2 g3 g4 g5 g6 t0 t1 k0 s0 u1 u2 u3 pe n td ys la ri kd dy nd co od wo peg ((s_X3_readInto ty tk le 0 kdg dyg ndg cog odg wog).2.2.2.1) (11 : Int32) ysg (0 : Int32) (0 : Int32) ((s_X3_readInto ty tk le 0 kdg dyg ndg cog odg wog).2.2.2.2.1) ((s_X3_readInto ty tk le 0 kdg dyg ndg cog odg wog).2.2.2.2.2.1) ((s_X3_readInto ty tk le 0 kdg dyg ndg cog odg wog).2.2.2.2.2.2.1) ((s_X3_readInto ty tk le 0 kdg dyg ndg cog odg wog).2.2.2.2.2.2.2.1) ((s_X3_readInto ty tk le 0 kdg dyg ndg cog odg wog).2.2.2.2.2.2.2.2.1) ((s_X3_readInto ty tk le 0 kdg dyg ndg cog odg wog).2.2.2.2.2.2.2.2.2) ty ((s_X3_readInto ty tk le 0 kdg dyg ndg cog odg wog).2.1) ((s_X3_readInto ty tk le 0 kdg dyg ndg cog odg wog).2.2.1) le im) (st' := [.int ((s_X3_readInto ty tk le 0 kdg dyg ndg cog odg wog).1)]) h0 rfl [15, 16, 8, 9, 10, 11, 12, 13, 14] (run_VN (rest := []) C (c_X3_readInto l D t0 t1 g0 g1 g2 g3 g4 g5 g6 ty aw tk le peg 0 (11 : Int32) ysg (0 : Int32) (0 : Int32) kdg dyg ndg cog odg wog (by omega) (by omega) (dis_sub h0 [15, 16, 8, 9, 10, 11, 12, 13, 14] (by decide) rfl)) ok_X3_readInto wn_X3_readInto wl_X3_readInto wm_X6_130 [15, 16, 8, 9, 10, 11, 12, 13, 14] 0 rfl rfl rfl ⟨Nat.le_of_ble_eq_true rfl, Nat.le_of_ble_eq_true rfl⟩ rfl rfl (Nat.le_of_ble_eq_true rfl) dX6_text_15) rfl rfl rfl rfl rfl ?_
  refine r_isn C (lv' := [(1, .int ((s_X3_readInto ty tk le 0 kdg dyg ndg cog odg wog).1)), (0, .ref b)]) dX6_text_18 rfl (by decide) rfl ?_
  refine r_aln C dX6_text_19 rfl 1 rfl ?_
  refine gf_X6_25 C 0 rfl rfl dX6_text_20 ?_
  refine r_ic C (v := (0 : Int32)) dX6_text_23 (by decide) ?_
  refine r_top rfl ?_
  refine pf_X6_124 C (ws2 := wBNDT D b h a1 a2 a3 a4 a5 a6 g0 g1 g2 g3 g4 g5 g6 t0 t1 k0 s0 u1 u2 u3 pe n td ys la ri kd dy nd co od wo peg ((s_X3_readInto ty tk le 0 kdg dyg ndg cog odg wog).2.2.2.1) (11 : Int32) ysg (0 : Int32) (0 : Int32) ((s_X3_readInto ty tk le 0 kdg dyg ndg cog odg wog).2.2.2.2.1) ((s_X3_readInto ty tk le 0 kdg dyg ndg cog odg wog).2.2.2.2.2.1) ((s_X3_readInto ty tk le 0 kdg dyg ndg cog odg wog).2.2.2.2.2.2.1) ((s_X3_readInto ty tk le 0 kdg dyg ndg cog odg wog).2.2.2.2.2.2.2.1) ((s_X3_readInto ty tk le 0 kdg dyg ndg cog odg wog).2.2.2.2.2.2.2.2.1) ((s_X3_readInto ty tk le 0 kdg dyg ndg cog odg wog).2.2.2.2.2.2.2.2.2) 0 ((s_X3_readInto ty tk le 0 kdg dyg ndg cog odg wog).2.1) ((s_X3_readInto ty tk le 0 kdg dyg ndg cog odg wog).2.2.1) le im) h0 rfl 15 rfl (Nat.le_of_ble_eq_true rfl) dX6_text_24 rfl rfl ?_
  refine r_iln C dX6_text_27 rfl 0 rfl ?_
  refine r_ifle C (tgt := 70) dX6_text_28 (by decide) (fun c1 => ?_) (fun c1 => ?_)
  · rw [if_neg c1] at hv
    refine r_iln C dX6_text_70 rfl 0 rfl ?_
    exact r_iret rfl C (by rw [← hv]) (by rw [← hv]) dX6_text_71
  · rw [if_pos c1] at hv
    refine r_aln C dX6_text_31 rfl 1 rfl ?_
    refine gf_X6_19 C 0 rfl rfl dX6_text_32 ?_
    refine r_aln C dX6_text_35 rfl 1 rfl ?_
    refine gf_X6_10 C 0 rfl rfl dX6_text_36 ?_
    refine gf_X6_50 C 1 rfl rfl dX6_text_39 ?_
    refine pf_X6_50 C (ws2 := wBNDT D b h a1 a2 a3 a4 a5 a6 g0 g1 g2 g3 g4 g5 g6 t0 t1 k0 s0 u1 u2 u3 pe n td ys la ri kd dy nd co od wo pe ((s_X3_readInto ty tk le 0 kdg dyg ndg cog odg wog).2.2.2.1) (11 : Int32) ysg (0 : Int32) (0 : Int32) ((s_X3_readInto ty tk le 0 kdg dyg ndg cog odg wog).2.2.2.2.1) ((s_X3_readInto ty tk le 0 kdg dyg ndg cog odg wog).2.2.2.2.2.1) ((s_X3_readInto ty tk le 0 kdg dyg ndg cog odg wog).2.2.2.2.2.2.1) ((s_X3_readInto ty tk le 0 kdg dyg ndg cog odg wog).2.2.2.2.2.2.2.1) ((s_X3_readInto ty tk le 0 kdg dyg ndg cog odg wog).2.2.2.2.2.2.2.2.1) ((s_X3_readInto ty tk le 0 kdg dyg ndg cog odg wog).2.2.2.2.2.2.2.2.2) 0 ((s_X3_readInto ty tk le 0 kdg dyg ndg cog odg wog).2.1) ((s_X3_readInto ty tk le 0 kdg dyg ndg cog odg wog).2.2.1) le im) h0 rfl 8 rfl (Nat.le_of_ble_eq_true rfl) dX6_text_42 rfl rfl ?_
    refine r_aln C dX6_text_45 rfl 1 rfl ?_
    refine gf_X6_19 C 0 rfl rfl dX6_text_46 ?_
    refine r_aln C dX6_text_49 rfl 1 rfl ?_
    refine gf_X6_10 C 0 rfl rfl dX6_text_50 ?_
    refine gf_X6_134 C 1 rfl rfl dX6_text_53 ?_
    refine pf_X6_134 C (ws2 := wBNDT D b h a1 a2 a3 a4 a5 a6 g0 g1 g2 g3 g4 g5 g6 t0 t1 k0 s0 u1 u2 u3 pe n td ys la ri kd dy nd co od wo pe ((s_X3_readInto ty tk le 0 kdg dyg ndg cog odg wog).2.2.2.1) (11 : Int32) ys (0 : Int32) (0 : Int32) ((s_X3_readInto ty tk le 0 kdg dyg ndg cog odg wog).2.2.2.2.1) ((s_X3_readInto ty tk le 0 kdg dyg ndg cog odg wog).2.2.2.2.2.1) ((s_X3_readInto ty tk le 0 kdg dyg ndg cog odg wog).2.2.2.2.2.2.1) ((s_X3_readInto ty tk le 0 kdg dyg ndg cog odg wog).2.2.2.2.2.2.2.1) ((s_X3_readInto ty tk le 0 kdg dyg ndg cog odg wog).2.2.2.2.2.2.2.2.1) ((s_X3_readInto ty tk le 0 kdg dyg ndg cog odg wog).2.2.2.2.2.2.2.2.2) 0 ((s_X3_readInto ty tk le 0 kdg dyg ndg cog odg wog).2.1) ((s_X3_readInto ty tk le 0 kdg dyg ndg cog odg wog).2.2.1) le im) h0 rfl 8 rfl (Nat.le_of_ble_eq_true rfl) dX6_text_56 rfl rfl ?_
    refine r_aln C dX6_text_59 rfl 1 rfl ?_
    refine gf_X6_10 C 0 rfl rfl dX6_text_60 ?_
    refine r_aln C dX6_text_63 rfl 1 rfl ?_
    refine gf_X6_19 C 0 rfl rfl dX6_text_64 ?_
    refine aft_wr (ws2 := wBNDT D b h a1 a2 a3 a4 a5 a6 g0 g1 g2 g3 g4 g5 g6 t0 t1 k0 s0 u1 u2 u3 pe ((s_X3_readInto ty tk le 0 kdg dyg ndg cog odg wog).2.2.2.1) (11 : Int32) ys (0 : Int32) (0 : Int32) (va_cpy ((s_X3_readInto ty tk le 0 kdg dyg ndg cog odg wog).2.2.2.2.1) kd 0 0 12) (va_cpy ((s_X3_readInto ty tk le 0 kdg dyg ndg cog odg wog).2.2.2.2.2.1) dy 0 0 12) (va_cpy ((s_X3_readInto ty tk le 0 kdg dyg ndg cog odg wog).2.2.2.2.2.2.1) nd 0 0 12) (va_cpy ((s_X3_readInto ty tk le 0 kdg dyg ndg cog odg wog).2.2.2.2.2.2.2.1) co 0 0 12) (va_cpy ((s_X3_readInto ty tk le 0 kdg dyg ndg cog odg wog).2.2.2.2.2.2.2.2.1) od 0 0 12) (va_cpy ((s_X3_readInto ty tk le 0 kdg dyg ndg cog odg wog).2.2.2.2.2.2.2.2.2) wo 0 0 48) pe ((s_X3_readInto ty tk le 0 kdg dyg ndg cog odg wog).2.2.2.1) (11 : Int32) ys (0 : Int32) (0 : Int32) ((s_X3_readInto ty tk le 0 kdg dyg ndg cog odg wog).2.2.2.2.1) ((s_X3_readInto ty tk le 0 kdg dyg ndg cog odg wog).2.2.2.2.2.1) ((s_X3_readInto ty tk le 0 kdg dyg ndg cog odg wog).2.2.2.2.2.2.1) ((s_X3_readInto ty tk le 0 kdg dyg ndg cog odg wog).2.2.2.2.2.2.2.1) ((s_X3_readInto ty tk le 0 kdg dyg ndg cog odg wog).2.2.2.2.2.2.2.2.1) ((s_X3_readInto ty tk le 0 kdg dyg ndg cog odg wog).2.2.2.2.2.2.2.2.2) 0 ((s_X3_readInto ty tk le 0 kdg dyg ndg cog odg wog).2.1) ((s_X3_readInto ty tk le 0 kdg dyg ndg cog odg wog).2.2.1) le im) (st' := []) h0 rfl [1, 2, 3, 4, 5, 6, 7, 8, 9, 10, 11, 12, 13, 14] (run_VN (rest := []) C (c_X5_become l D h a1 a2 a3 a4 a5 a6 g0 g1 g2 g3 g4 g5 g6 pe n td ys la ri kd dy nd co od wo pe ((s_X3_readInto ty tk le 0 kdg dyg ndg cog odg wog).2.2.2.1) (11 : Int32) ys (0 : Int32) (0 : Int32) ((s_X3_readInto ty tk le 0 kdg dyg ndg cog odg wog).2.2.2.2.1) ((s_X3_readInto ty tk le 0 kdg dyg ndg cog odg wog).2.2.2.2.2.1) ((s_X3_readInto ty tk le 0 kdg dyg ndg cog odg wog).2.2.2.2.2.2.1) ((s_X3_readInto ty tk le 0 kdg dyg ndg cog odg wog).2.2.2.2.2.2.2.1) ((s_X3_readInto ty tk le 0 kdg dyg ndg cog odg wog).2.2.2.2.2.2.2.2.1) ((s_X3_readInto ty tk le 0 kdg dyg ndg cog odg wog).2.2.2.2.2.2.2.2.2)  (dis_sub h0 [1, 2, 3, 4, 5, 6, 7, 8, 9, 10, 11, 12, 13, 14] (by decide) rfl)) ok_X5_become wn_X5_become wl_X5_become wm_X6_137 [1, 2, 3, 4, 5, 6, 7, 8, 9, 10, 11, 12, 13, 14] 0 rfl rfl rfl ⟨Nat.le_of_ble_eq_true rfl, Nat.le_of_ble_eq_true rfl⟩ rfl rfl (Nat.le_of_ble_eq_true rfl) dX6_text_67) rfl rfl rfl rfl rfl ?_
    refine r_iln C dX6_text_70 rfl 0 rfl ?_
    exact r_iret rfl C (by rw [← hv]) (by rw [← hv]) dX6_text_71

def s_X6_judged_L35 (n : Nat) (la : Int32) (kd : Nat → Int32) (dy : Nat → Int32) (nd : Nat → Int32) (it : Nat → Int64) (sheet : Int32) (i : Int32) (K : Int32) : Nat → Nat → Int32
  | 0, _ => K
  | k4 + 1, d5 => (if lg_cmp (s_X2_at it sheet.toNatClampNeg (i.toNatClampNeg + d5)) (-1 : Int64) = (0 : Int32) then (s_X6_judged_L35 n la kd dy nd it sheet i K k4 (d5 + 1)) else (if s_X6_isOneOf (s_X2_at it sheet.toNatClampNeg (i.toNatClampNeg + d5)) ((s_X5_standing n la kd nd (0 : Int32)) &&& (s_X5_ofDay n dy ((11 : Int32) - (nI d5)))) = (0 : Int32) then nI d5 else (s_X6_judged_L35 n la kd dy nd it sheet i K k4 (d5 + 1))))
def s_X6_judged (n : Nat) (la : Int32) (kd : Nat → Int32) (dy : Nat → Int32) (nd : Nat → Int32) (ln : Nat → Int32) (sz : Nat → Int32) (it : Nat → Int64) (sheet : Int32) (lane : Int32) (i : Int32) : Int32 := (if s_X2_faultOf ln sz sheet lane i (12 : Int32) = (0 : Int32) then (s_X6_judged_L35 n la kd dy nd it sheet i (-4 : Int32) 12 0) else s_X2_faultOf ln sz sheet lane i (12 : Int32))
set_option maxHeartbeats 8000000 in
set_option maxRecDepth 100000 in
theorem c_X6_judged (l : Launch) (D : va_G) (b : Nat) (h : Nat) (a1 : Nat) (a2 : Nat) (a3 : Nat) (a4 : Nat) (a5 : Nat) (a6 : Nat) (s0 : Nat) (s1 : Nat) (s2 : Nat) (s3 : Nat) (k0 : Nat) (g0 : Nat) (t0 : Nat) (u1 : Nat) (u2 : Nat) (u3 : Nat) (pe : Nat) (n : Nat) (td : Int32) (ys : Int32) (la : Int32) (ri : Int32) (kd : Nat → Int32) (dy : Nat → Int32) (nd : Nat → Int32) (co : Nat → Int32) (od : Nat → Int32) (wo : Nat → Int32) (ln : Nat → Int32) (sz : Nat → Int32) (it : Nat → Int64) (im : Int32) (sheet : Int32) (lane : Int32) (i : Int32) (hn : n ≤ 12) (hz : ∀ j, j < 4 → ∃ z : Nat, z ≤ 16 ∧ sz j = nI z) : ct l yX6_judged cX6_judged 9 (some .int) 3 69 D [.ref b, .int sheet, .int lane, .int i] (wBNS D b h a1 a2 a3 a4 a5 a6 s0 s1 s2 s3 k0 g0 t0 u1 u2 u3 pe n td ys la ri kd dy nd co od wo ln sz it im) (wBNS D b h a1 a2 a3 a4 a5 a6 s0 s1 s2 s3 k0 g0 t0 u1 u2 u3 pe n td ys la ri kd dy nd co od wo ln sz it im) (fun _ => False) (some (Value.int (s_X6_judged n la kd dy nd ln sz it sheet lane i))) := by
  obtain ⟨V, hv⟩ : ∃ V, s_X6_judged n la kd dy nd ln sz it sheet lane i = V := ⟨_, rfl⟩
  rw [hv]
  refine ct_intro (own := RX6) (lv := [(0, .ref b), (1, .int sheet), (2, .int lane), (3, .int i)]) (by decide) rfl (Nat.le_of_ble_eq_true rfl) rfl ?_
  intro p_ e_ s_ m_ below_ meth_ c_ C
  have hv : (if s_X2_faultOf ln sz sheet lane i (12 : Int32) = (0 : Int32) then (s_X6_judged_L35 n la kd dy nd it sheet i (-4 : Int32) 12 0) else s_X2_faultOf ln sz sheet lane i (12 : Int32)) = V := hv
  refine r_aln C dX6_judged_0 rfl 0 rfl ?_
  refine gf_X6_32 C 0 rfl rfl dX6_judged_1 ?_
  refine r_iln C dX6_judged_4 rfl 1 rfl ?_
  refine r_iln C dX6_judged_5 rfl 2 rfl ?_
  refine r_iln C dX6_judged_6 rfl 3 rfl ?_
  refine r_bp C (v := (12 : Int32)) dX6_judged_7 (by decide) ?_
  refine aft_rd (st' := [.int (s_X2_faultOf ln sz sheet lane i (12 : Int32))]) (run_VN (rest := []) C (c_X2_faultOf l D s0 s1 s2 s3 ln sz it sheet lane i (12 : Int32) ) ok_X2_faultOf wn_X2_faultOf wl_X2_faultOf wm_X6_217 [8, 9, 10, 11] 0 rfl rfl rfl ⟨Nat.le_of_ble_eq_true rfl, Nat.le_of_ble_eq_true rfl⟩ rfl rfl (Nat.le_of_ble_eq_true rfl) dX6_judged_9) rfl ?_
  refine r_is C (lv' := [(4, .int (s_X2_faultOf ln sz sheet lane i (12 : Int32))), (0, .ref b), (1, .int sheet), (2, .int lane), (3, .int i)]) dX6_judged_12 (by decide) rfl ?_
  refine r_il C dX6_judged_14 0 rfl ?_
  refine r_ifeq C (tgt := 22) dX6_judged_16 (by decide) (fun c1 => ?_) (fun c1 => ?_)
  · rw [if_pos c1] at hv
    have e2 := fault_sheet c1
    have e3 := fault_i (mn := 12) rfl (by omega) hz c1
    refine r_aln C dX6_judged_22 rfl 1 rfl ?_
    refine gf_X6_10 C 0 rfl rfl dX6_judged_23 ?_
    refine r_ic C (v := (0 : Int32)) dX6_judged_26 (by decide) ?_
    refine aft_rd (st' := [.int (s_X5_standing n la kd nd (0 : Int32))]) (run_VN (rest := []) C (c_X5_standing l D h a1 a2 a3 a4 a5 a6 pe n td ys la ri kd dy nd co od wo (0 : Int32) (by omega)) ok_X5_standing wn_X5_standing wl_X5_standing wm_X6_94 [1, 2, 3, 4, 5, 6, 7] 0 rfl rfl rfl ⟨Nat.le_of_ble_eq_true rfl, Nat.le_of_ble_eq_true rfl⟩ rfl rfl (Nat.le_of_ble_eq_true rfl) dX6_judged_27) rfl ?_
    refine r_is C (lv' := [(5, .int (s_X5_standing n la kd nd (0 : Int32))), (4, .int (s_X2_faultOf ln sz sheet lane i (12 : Int32))), (0, .ref b), (1, .int sheet), (2, .int lane), (3, .int i)]) dX6_judged_30 (by decide) rfl ?_
    refine r_ic C (v := (0 : Int32)) dX6_judged_32 (by decide) ?_
    refine r_is C (lv' := [(6, .int (0 : Int32)), (5, .int (s_X5_standing n la kd nd (0 : Int32))), (4, .int (s_X2_faultOf ln sz sheet lane i (12 : Int32))), (0, .ref b), (1, .int sheet), (2, .int lane), (3, .int i)]) dX6_judged_33 (by decide) rfl ?_
    have L11 : ∀ (k4 : Nat) (d5 : Nat), (d5 + k4 = 12) → (s_X6_judged_L35 n la kd dy nd it sheet i (-4 : Int32) k4 d5) = V → GM p_ l e_ s_ m_ below_ meth_ c_ D 3 69 9 [.ref b, .int sheet, .int lane, .int i] (wBNS D b h a1 a2 a3 a4 a5 a6 s0 s1 s2 s3 k0 g0 t0 u1 u2 u3 pe n td ys la ri kd dy nd co od wo ln sz it im) (fun _ => False) (some (Value.int V)) (wBNS D b h a1 a2 a3 a4 a5 a6 s0 s1 s2 s3 k0 g0 t0 u1 u2 u3 pe n td ys la ri kd dy nd co od wo ln sz it im) 35 [(6, .int (nI d5)), (5, .int (s_X5_standing n la kd nd (0 : Int32))), (4, .int (s_X2_faultOf ln sz sheet lane i (12 : Int32))), (0, .ref b), (1, .int sheet), (2, .int lane), (3, .int i)] [] := by
      intro k4
      induction k4 with
      | zero =>
        intro d5 hk hv
        have hv : (-4 : Int32) = V := hv
        refine r_il C dX6_judged_35 0 rfl ?_
        refine r_bp C (v := (12 : Int32)) dX6_judged_37 (by decide) ?_
        refine r_icge C (tgt := 97) dX6_judged_39 (by decide) (fun c6 => ?_) (fun c6 => ?_)
        · skip
          refine r_bp C (v := (-4 : Int32)) dX6_judged_97 (by decide) ?_
          exact r_iret rfl C (congrArg (fun z => some (Value.int z)) hv) rfl dX6_judged_99
        · exact absurd c6 (fun z => absurd ((nv_lt (a := d5) (b := 12) rfl rfl (by omega) (by omega)).mp z) (by omega))
      | succ k4 ih7 =>
        intro d5 hk hv
        have hv : (if lg_cmp (s_X2_at it sheet.toNatClampNeg (i.toNatClampNeg + d5)) (-1 : Int64) = (0 : Int32) then (s_X6_judged_L35 n la kd dy nd it sheet i (-4 : Int32) k4 (d5 + 1)) else (if s_X6_isOneOf (s_X2_at it sheet.toNatClampNeg (i.toNatClampNeg + d5)) ((s_X5_standing n la kd nd (0 : Int32)) &&& (s_X5_ofDay n dy ((11 : Int32) - (nI d5)))) = (0 : Int32) then nI d5 else (s_X6_judged_L35 n la kd dy nd it sheet i (-4 : Int32) k4 (d5 + 1)))) = V := hv
        refine r_il C dX6_judged_35 0 rfl ?_
        refine r_bp C (v := (12 : Int32)) dX6_judged_37 (by decide) ?_
        refine r_icge C (tgt := 97) dX6_judged_39 (by decide) (fun c8 => ?_) (fun c8 => ?_)
        · exact absurd ((nv_lt (a := d5) (b := 12) rfl rfl (by omega) (by omega)).mpr (by omega)) c8
        · skip
          refine r_aln C dX6_judged_42 rfl 3 rfl ?_
          refine gf_X6_32 C 0 rfl rfl dX6_judged_43 ?_
          refine r_iln C dX6_judged_46 rfl 4 rfl ?_
          refine r_iln C dX6_judged_47 rfl 6 rfl ?_
          refine r_il C dX6_judged_48 0 rfl ?_
          refine r_iadd C dX6_judged_50 ?_
          refine r_stk (st2 := [.int (i + (nI d5)), .int (nI sheet.toNatClampNeg), .ref s0]) (congrArg (fun (z : Int32) => ([.int (i + (nI d5)), .int z, .ref s0] : List Value)) e2.1) ?_
          refine r_stk (st2 := [.int (nI (i.toNatClampNeg + d5)), .int (nI sheet.toNatClampNeg), .ref s0]) (congrArg (fun (z : Int32) => ([.int z, .int (nI sheet.toNatClampNeg), .ref s0] : List Value)) (nv_add e3.1 rfl)) ?_
          refine aft_rd (st' := [.long (s_X2_at it sheet.toNatClampNeg (i.toNatClampNeg + d5))]) (run_VN (rest := []) C (c_X2_at l D s0 s1 s2 s3 ln sz it sheet.toNatClampNeg (i.toNatClampNeg + d5) (by omega) (by omega)) ok_X2_at wn_X2_at wl_X2_at wm_X6_221 [8, 9, 10, 11] 0 rfl rfl rfl ⟨Nat.le_of_ble_eq_true rfl, Nat.le_of_ble_eq_true rfl⟩ rfl rfl (Nat.le_of_ble_eq_true rfl) dX6_judged_51) rfl ?_
          refine r_ls C (lv' := [(7, .long (s_X2_at it sheet.toNatClampNeg (i.toNatClampNeg + d5))), (6, .int (nI d5)), (5, .int (s_X5_standing n la kd nd (0 : Int32))), (4, .int (s_X2_faultOf ln sz sheet lane i (12 : Int32))), (0, .ref b), (1, .int sheet), (2, .int lane), (3, .int i)]) dX6_judged_54 (by decide) rfl ?_
          refine r_ll C dX6_judged_56 0 rfl ?_
          refine r_ldc2 C wc_X6_225 dX6_judged_58 ?_
          refine r_lcmp C dX6_judged_61 ?_
          refine r_ifeq C (tgt := 91) dX6_judged_62 (by decide) (fun c9 => ?_) (fun c9 => ?_)
          · rw [if_pos c9] at hv
            refine r_inc C (v := nI (d5 + 1)) (lv' := [(6, .int (nI (d5 + 1))), (7, .long (s_X2_at it sheet.toNatClampNeg (i.toNatClampNeg + d5))), (5, .int (s_X5_standing n la kd nd (0 : Int32))), (4, .int (s_X2_faultOf ln sz sheet lane i (12 : Int32))), (0, .ref b), (1, .int sheet), (2, .int lane), (3, .int i)]) dX6_judged_91 1 rfl (inc_nI d5) (by decide) rfl ?_
            refine r_goto C (tgt := 35) dX6_judged_94 (by decide) ?_
            refine r_lv [0, 2, 3, 4, 5, 6, 7] rfl ?_
            exact ih7 (d5 + 1) (by omega) hv
          · rw [if_neg c9] at hv
            refine r_ll C dX6_judged_65 0 rfl ?_
            refine r_il C dX6_judged_67 2 rfl ?_
            refine r_aln C dX6_judged_69 rfl 4 rfl ?_
            refine gf_X6_10 C 0 rfl rfl dX6_judged_70 ?_
            refine r_bp C (v := (11 : Int32)) dX6_judged_73 (by decide) ?_
            refine r_il C dX6_judged_75 1 rfl ?_
            refine r_isub C dX6_judged_77 ?_
            refine aft_rd (st' := [.int (s_X5_ofDay n dy ((11 : Int32) - (nI d5))), .int (s_X5_standing n la kd nd (0 : Int32)), .long (s_X2_at it sheet.toNatClampNeg (i.toNatClampNeg + d5))]) (run_VN (rest := [.int (s_X5_standing n la kd nd (0 : Int32)), .long (s_X2_at it sheet.toNatClampNeg (i.toNatClampNeg + d5))]) C (c_X5_ofDay l D h a1 a2 a3 a4 a5 a6 pe n td ys la ri kd dy nd co od wo ((11 : Int32) - (nI d5)) (by omega)) ok_X5_ofDay wn_X5_ofDay wl_X5_ofDay wm_X6_144 [1, 2, 3, 4, 5, 6, 7] 0 rfl rfl rfl ⟨Nat.le_of_ble_eq_true rfl, Nat.le_of_ble_eq_true rfl⟩ rfl rfl (Nat.le_of_ble_eq_true rfl) dX6_judged_78) rfl ?_
            refine r_iand C dX6_judged_81 ?_
            refine aft_rd (st' := [.int (s_X6_isOneOf (s_X2_at it sheet.toNatClampNeg (i.toNatClampNeg + d5)) ((s_X5_standing n la kd nd (0 : Int32)) &&& (s_X5_ofDay n dy ((11 : Int32) - (nI d5)))))]) (run_S (rest := []) C (c_X6_isOneOf l D (s_X2_at it sheet.toNatClampNeg (i.toNatClampNeg + d5)) ((s_X5_standing n la kd nd (0 : Int32)) &&& (s_X5_ofDay n dy ((11 : Int32) - (nI d5)))) ) ok_X6_isOneOf ws_X6_isOneOf wm_X6_227 [] rfl ⟨Nat.le_of_ble_eq_true rfl, Nat.le_of_ble_eq_true rfl⟩ rfl rfl (Nat.le_of_ble_eq_true rfl) dX6_judged_82) rfl ?_
            refine r_ifne C (tgt := 91) dX6_judged_85 (by decide) (fun c10 => ?_) (fun c10 => ?_)
            · rw [if_neg c10] at hv
              refine r_inc C (v := nI (d5 + 1)) (lv' := [(6, .int (nI (d5 + 1))), (7, .long (s_X2_at it sheet.toNatClampNeg (i.toNatClampNeg + d5))), (5, .int (s_X5_standing n la kd nd (0 : Int32))), (4, .int (s_X2_faultOf ln sz sheet lane i (12 : Int32))), (0, .ref b), (1, .int sheet), (2, .int lane), (3, .int i)]) dX6_judged_91 1 rfl (inc_nI d5) (by decide) rfl ?_
              refine r_goto C (tgt := 35) dX6_judged_94 (by decide) ?_
              refine r_lv [0, 2, 3, 4, 5, 6, 7] rfl ?_
              exact ih7 (d5 + 1) (by omega) hv
            · rw [if_pos c10] at hv
              refine r_il C dX6_judged_88 1 rfl ?_
              exact r_iret rfl C (congrArg (fun z => some (Value.int z)) hv) rfl dX6_judged_90
    refine r_lve (lv2 := [(6, .int (nI 0)), (5, .int (s_X5_standing n la kd nd (0 : Int32))), (4, .int (s_X2_faultOf ln sz sheet lane i (12 : Int32))), (0, .ref b), (1, .int sheet), (2, .int lane), (3, .int i)]) (congrArg (fun (z : Int32) => ([(6, .int z), (5, .int (s_X5_standing n la kd nd (0 : Int32))), (4, .int (s_X2_faultOf ln sz sheet lane i (12 : Int32))), (0, .ref b), (1, .int sheet), (2, .int lane), (3, .int i)] : List (Nat × Value))) rfl) ?_
    exact L11 12 0 (by omega) hv
  · rw [if_neg c1] at hv
    refine r_il C dX6_judged_19 0 rfl ?_
    exact r_iret rfl C (congrArg (fun z => some (Value.int z)) hv) rfl dX6_judged_21

def s_X6_takeToldYears_L3 (n : Nat) (it : Nat → Int64) (sheet : Nat) (i : Nat) (K : (Nat → Int32) → Int32 × (Nat → Int32)) : Nat → Nat → (Nat → Int32) → Int32 × (Nat → Int32)
  | 0, _, tl_3 => K tl_3
  | k1 + 1, d2, tl_3 => (if lg_cmp ((s_X2_at it sheet (i + d2)) &&& (((s_X5_all n).toInt64) ^^^ (-1 : Int64))) (0 : Int64) = (0 : Int32) then (s_X6_takeToldYears_L3 n it sheet i K k1 (d2 + 1) (upd tl_3 d2 ((s_X2_at it sheet (i + d2)).toInt32))) else ((0 : Int32), tl_3))
def s_X6_takeToldYears (n : Nat) (it : Nat → Int64) (tl : Nat → Int32) (sheet : Nat) (i : Nat) (m : Nat) : Int32 × (Nat → Int32) := (s_X6_takeToldYears_L3 n it sheet i (fun tl_3 => ((1 : Int32), tl_3)) m 0 tl)
set_option maxHeartbeats 8000000 in
set_option maxRecDepth 100000 in
theorem c_X6_takeToldYears (l : Launch) (D : va_G) (b : Nat) (h : Nat) (a1 : Nat) (a2 : Nat) (a3 : Nat) (a4 : Nat) (a5 : Nat) (a6 : Nat) (s0 : Nat) (s1 : Nat) (s2 : Nat) (s3 : Nat) (u2 : Nat) (k0 : Nat) (g0 : Nat) (t0 : Nat) (u1 : Nat) (u3 : Nat) (pe : Nat) (n : Nat) (td : Int32) (ys : Int32) (la : Int32) (ri : Int32) (kd : Nat → Int32) (dy : Nat → Int32) (nd : Nat → Int32) (co : Nat → Int32) (od : Nat → Int32) (wo : Nat → Int32) (ln : Nat → Int32) (sz : Nat → Int32) (it : Nat → Int64) (tl : Nat → Int32) (im : Int32) (sheet : Nat) (i : Nat) (m : Nat) (hs : sheet < 4) (hi : i + m ≤ 16) (hm : m ≤ 8) (h0 : va_D (fun _ => True) (wBNS2 D b h a1 a2 a3 a4 a5 a6 s0 s1 s2 s3 u2 k0 g0 t0 u1 u3 pe n td ys la ri kd dy nd co od wo ln sz it tl im)) : ct l yX6_takeToldYears cX6_takeToldYears 7 (some .boolean) 1 22 D [.ref b, .int (nI sheet), .int (nI i), .int (nI m)] (wBNS2 D b h a1 a2 a3 a4 a5 a6 s0 s1 s2 s3 u2 k0 g0 t0 u1 u3 pe n td ys la ri kd dy nd co od wo ln sz it tl im) (wBNS2 D b h a1 a2 a3 a4 a5 a6 s0 s1 s2 s3 u2 k0 g0 t0 u1 u3 pe n td ys la ri kd dy nd co od wo ln sz it (s_X6_takeToldYears n it tl sheet i m).2 im) (Ad (wBNS2 D b h a1 a2 a3 a4 a5 a6 s0 s1 s2 s3 u2 k0 g0 t0 u1 u3 pe n td ys la ri kd dy nd co od wo ln sz it tl im)) (some (Value.int (s_X6_takeToldYears n it tl sheet i m).1)) := by
  obtain ⟨V, hv⟩ : ∃ V, s_X6_takeToldYears n it tl sheet i m = V := ⟨_, rfl⟩
  rw [hv]
  refine ct_intro (own := RX6) (lv := [(0, .ref b), (1, .int (nI sheet)), (2, .int (nI i)), (3, .int (nI m))]) (by decide) rfl (Nat.le_of_ble_eq_true rfl) rfl ?_
  intro p_ e_ s_ m_ below_ meth_ c_ C
  have hv : (s_X6_takeToldYears_L3 n it sheet i (fun tl_3 => ((1 : Int32), tl_3)) m 0 tl) = V := hv
  refine r_ic C (v := (0 : Int32)) dX6_takeToldYears_0 (by decide) ?_
  refine r_is C (lv' := [(4, .int (0 : Int32)), (0, .ref b), (1, .int (nI sheet)), (2, .int (nI i)), (3, .int (nI m))]) dX6_takeToldYears_1 (by decide) rfl ?_
  have L9 : ∀ (k1 : Nat) (d2 : Nat) (tl_3 : Nat → Int32), (d2 + k1 = m) → (s_X6_takeToldYears_L3 n it sheet i (fun tl_3 => ((1 : Int32), tl_3)) k1 d2 tl_3) = V → GM p_ l e_ s_ m_ below_ meth_ c_ D 1 22 7 [.ref b, .int (nI sheet), .int (nI i), .int (nI m)] (wBNS2 D b h a1 a2 a3 a4 a5 a6 s0 s1 s2 s3 u2 k0 g0 t0 u1 u3 pe n td ys la ri kd dy nd co od wo ln sz it V.2 im) (Ad (wBNS2 D b h a1 a2 a3 a4 a5 a6 s0 s1 s2 s3 u2 k0 g0 t0 u1 u3 pe n td ys la ri kd dy nd co od wo ln sz it tl im)) (some (Value.int V.1)) (wBNS2 D b h a1 a2 a3 a4 a5 a6 s0 s1 s2 s3 u2 k0 g0 t0 u1 u3 pe n td ys la ri kd dy nd co od wo ln sz it tl_3 im) 3 [(4, .int (nI d2)), (0, .ref b), (1, .int (nI sheet)), (2, .int (nI i)), (3, .int (nI m))] [] := by
    intro k1
    induction k1 with
    | zero =>
      intro d2 tl_3 hk hv
      have hv : ((1 : Int32), tl_3) = V := hv
      refine r_il C dX6_takeToldYears_3 0 rfl ?_
      refine r_iln C dX6_takeToldYears_5 rfl 4 rfl ?_
      refine r_icge C (tgt := 71) dX6_takeToldYears_6 (by decide) (fun c4 => ?_) (fun c4 => ?_)
      · skip
        refine r_ic C (v := (1 : Int32)) dX6_takeToldYears_71 (by decide) ?_
        exact r_zret rfl C rfl (by rw [← hv]) (by rw [← hv]) dX6_takeToldYears_72
      · exact absurd c4 (fun z => absurd ((nv_lt (a := d2) (b := m) rfl rfl (by omega) (by omega)).mp z) (by omega))
    | succ k1 ih5 =>
      intro d2 tl_3 hk hv
      have hv : (if lg_cmp ((s_X2_at it sheet (i + d2)) &&& (((s_X5_all n).toInt64) ^^^ (-1 : Int64))) (0 : Int64) = (0 : Int32) then (s_X6_takeToldYears_L3 n it sheet i (fun tl_3 => ((1 : Int32), tl_3)) k1 (d2 + 1) (upd tl_3 d2 ((s_X2_at it sheet (i + d2)).toInt32))) else ((0 : Int32), tl_3)) = V := hv
      refine r_il C dX6_takeToldYears_3 0 rfl ?_
      refine r_iln C dX6_takeToldYears_5 rfl 4 rfl ?_
      refine r_icge C (tgt := 71) dX6_takeToldYears_6 (by decide) (fun c6 => ?_) (fun c6 => ?_)
      · exact absurd ((nv_lt (a := d2) (b := m) rfl rfl (by omega) (by omega)).mpr (by omega)) c6
      · skip
        refine r_il C dX6_takeToldYears_9 0 rfl ?_
        refine r_aln C dX6_takeToldYears_11 rfl 1 rfl ?_
        refine gf_X6_40 C 0 rfl rfl dX6_takeToldYears_12 ?_
        refine r_alen C 12 0 rfl rfl dX6_takeToldYears_15 ?_
        refine r_icge C (tgt := 71) dX6_takeToldYears_16 (by decide) (fun c7 => ?_) (fun c7 => ?_)
        · exact absurd ((nv_lt (a := d2) (b := 8) rfl rfl (by omega) (by omega)).mpr (by omega)) c7
        · skip
          refine r_aln C dX6_takeToldYears_19 rfl 1 rfl ?_
          refine gf_X6_32 C 0 rfl rfl dX6_takeToldYears_20 ?_
          refine r_iln C dX6_takeToldYears_23 rfl 2 rfl ?_
          refine r_iln C dX6_takeToldYears_24 rfl 3 rfl ?_
          refine r_il C dX6_takeToldYears_25 0 rfl ?_
          refine r_iadd C dX6_takeToldYears_27 ?_
          refine r_stk (st2 := [.int (nI (i + d2)), .int (nI sheet), .ref s0]) (congrArg (fun (z : Int32) => ([.int z, .int (nI sheet), .ref s0] : List Value)) (nv_add rfl rfl)) ?_
          refine aft_rd (st' := [.long (s_X2_at it sheet (i + d2))]) (run_VN (rest := []) C (c_X2_at l D s0 s1 s2 s3 ln sz it sheet (i + d2) (by omega) (by omega)) ok_X2_at wn_X2_at wl_X2_at wm_X6_221 [8, 9, 10, 11] 0 rfl rfl rfl ⟨Nat.le_of_ble_eq_true rfl, Nat.le_of_ble_eq_true rfl⟩ rfl rfl (Nat.le_of_ble_eq_true rfl) dX6_takeToldYears_28) rfl ?_
          refine r_ls C (lv' := [(5, .long (s_X2_at it sheet (i + d2))), (4, .int (nI d2)), (0, .ref b), (1, .int (nI sheet)), (2, .int (nI i)), (3, .int (nI m))]) dX6_takeToldYears_31 (by decide) rfl ?_
          refine r_ll C dX6_takeToldYears_33 0 rfl ?_
          refine r_aln C dX6_takeToldYears_35 rfl 2 rfl ?_
          refine gf_X6_10 C 0 rfl rfl dX6_takeToldYears_36 ?_
          refine aft_rd (st' := [.int (s_X5_all n), .long (s_X2_at it sheet (i + d2))]) (run_VN (rest := [.long (s_X2_at it sheet (i + d2))]) C (c_X5_all l D h a1 a2 a3 a4 a5 a6 pe n td ys la ri kd dy nd co od wo ) ok_X5_all wn_X5_all wl_X5_all wm_X6_114 [1, 2, 3, 4, 5, 6, 7] 0 rfl rfl rfl ⟨Nat.le_of_ble_eq_true rfl, Nat.le_of_ble_eq_true rfl⟩ rfl rfl (Nat.le_of_ble_eq_true rfl) dX6_takeToldYears_39) rfl ?_
          refine r_i2l C dX6_takeToldYears_42 ?_
          refine r_ldc2 C wc_X6_225 dX6_takeToldYears_43 ?_
          refine r_lxor C dX6_takeToldYears_46 ?_
          refine r_land C dX6_takeToldYears_47 ?_
          refine r_lc C (v := (0 : Int64)) dX6_takeToldYears_48 (by decide) ?_
          refine r_lcmp C dX6_takeToldYears_49 ?_
          refine r_ifeq C (tgt := 55) dX6_takeToldYears_50 (by decide) (fun c8 => ?_) (fun c8 => ?_)
          · rw [if_pos c8] at hv
            refine r_aln C dX6_takeToldYears_55 rfl 2 rfl ?_
            refine gf_X6_40 C 0 rfl rfl dX6_takeToldYears_56 ?_
            refine r_il C dX6_takeToldYears_59 1 rfl ?_
            refine r_ll C dX6_takeToldYears_61 0 rfl ?_
            refine r_l2i C dX6_takeToldYears_63 ?_
            refine r_iast C (ws2 := wBNS2 D b h a1 a2 a3 a4 a5 a6 s0 s1 s2 s3 u2 k0 g0 t0 u1 u3 pe n td ys la ri kd dy nd co od wo ln sz it (upd tl_3 d2 ((s_X2_at it sheet (i + d2)).toInt32)) im) h0 rfl 12 d2 rfl rfl (by omega) (by decide) dX6_takeToldYears_64 rfl rfl ?_
            refine r_inc C (v := nI (d2 + 1)) (lv' := [(4, .int (nI (d2 + 1))), (5, .long (s_X2_at it sheet (i + d2))), (0, .ref b), (1, .int (nI sheet)), (2, .int (nI i)), (3, .int (nI m))]) dX6_takeToldYears_65 1 rfl (inc_nI d2) (by decide) rfl ?_
            refine r_goto C (tgt := 3) dX6_takeToldYears_68 (by decide) ?_
            refine r_lv [0, 2, 3, 4, 5] rfl ?_
            exact ih5 (d2 + 1) (upd tl_3 d2 ((s_X2_at it sheet (i + d2)).toInt32)) (by omega) hv
          · rw [if_neg c8] at hv
            refine r_ic C (v := (0 : Int32)) dX6_takeToldYears_53 (by decide) ?_
            exact r_zret rfl C rfl (by rw [← hv]) (by rw [← hv]) dX6_takeToldYears_54
  refine r_lve (lv2 := [(4, .int (nI 0)), (0, .ref b), (1, .int (nI sheet)), (2, .int (nI i)), (3, .int (nI m))]) (congrArg (fun (z : Int32) => ([(4, .int z), (0, .ref b), (1, .int (nI sheet)), (2, .int (nI i)), (3, .int (nI m))] : List (Nat × Value))) rfl) ?_
  exact L9 m 0 tl (by omega) hv

def s_X6_film_L30 (pe : Nat) (n : Nat) (la : Int32) (ri : Int32) (kd : Nat → Int32) (nd : Nat → Int32) (co : Nat → Int32) (wo : Nat → Int32) (ln : Nat → Int32) (sheet : Int32) (i : Int32) : Nat → Nat → (Nat → Int64) → (Nat → Int64)
  | 0, _, it_6 => it_6
  | k4 + 1, d5, it_6 => (s_X6_film_L30 pe n la ri kd nd co wo ln sheet i k4 (d5 + 1) (vp_updL it_6 ((sheet.toNatClampNeg * 16) + (i.toNatClampNeg + d5)) (s_X2_lowest (ln sheet.toNatClampNeg) ((s_X5_valueBy pe n la kd nd co wo d5 ri).toInt64))))
def s_X6_film (pe : Nat) (n : Nat) (la : Int32) (ri : Int32) (kd : Nat → Int32) (nd : Nat → Int32) (co : Nat → Int32) (wo : Nat → Int32) (ln : Nat → Int32) (sz : Nat → Int32) (it : Nat → Int64) (sheet : Int32) (lane : Int32) (i : Int32) : Int32 × (Nat → Int64) := (if s_X2_faultOf ln sz sheet lane i (nI pe) = (0 : Int32) then (nI pe, (s_X6_film_L30 pe n la ri kd nd co wo ln sheet i pe 0 it)) else (s_X2_faultOf ln sz sheet lane i (nI pe), it))
set_option maxHeartbeats 8000000 in
set_option maxRecDepth 100000 in
theorem c_X6_film (l : Launch) (D : va_G) (b : Nat) (h : Nat) (a1 : Nat) (a2 : Nat) (a3 : Nat) (a4 : Nat) (a5 : Nat) (a6 : Nat) (s0 : Nat) (s1 : Nat) (s2 : Nat) (s3 : Nat) (k0 : Nat) (g0 : Nat) (t0 : Nat) (u1 : Nat) (u2 : Nat) (u3 : Nat) (pe : Nat) (n : Nat) (td : Int32) (ys : Int32) (la : Int32) (ri : Int32) (kd : Nat → Int32) (dy : Nat → Int32) (nd : Nat → Int32) (co : Nat → Int32) (od : Nat → Int32) (wo : Nat → Int32) (ln : Nat → Int32) (sz : Nat → Int32) (it : Nat → Int64) (im : Int32) (sheet : Int32) (lane : Int32) (i : Int32) (hn : n ≤ 12) (hp : 1 ≤ pe ∧ pe ≤ 4) (hz : ∀ j, j < 4 → ∃ z : Nat, z ≤ 16 ∧ sz j = nI z) (h0 : va_D (fun _ => True) (wBNS D b h a1 a2 a3 a4 a5 a6 s0 s1 s2 s3 k0 g0 t0 u1 u2 u3 pe n td ys la ri kd dy nd co od wo ln sz it im)) : ct l yX6_film cX6_film 6 (some .int) 4 93 D [.ref b, .int sheet, .int lane, .int i] (wBNS D b h a1 a2 a3 a4 a5 a6 s0 s1 s2 s3 k0 g0 t0 u1 u2 u3 pe n td ys la ri kd dy nd co od wo ln sz it im) (wBNS D b h a1 a2 a3 a4 a5 a6 s0 s1 s2 s3 k0 g0 t0 u1 u2 u3 pe n td ys la ri kd dy nd co od wo ln sz (s_X6_film pe n la ri kd nd co wo ln sz it sheet lane i).2 im) (Ad (wBNS D b h a1 a2 a3 a4 a5 a6 s0 s1 s2 s3 k0 g0 t0 u1 u2 u3 pe n td ys la ri kd dy nd co od wo ln sz it im)) (some (Value.int (s_X6_film pe n la ri kd nd co wo ln sz it sheet lane i).1)) := by
  obtain ⟨V, hv⟩ : ∃ V, s_X6_film pe n la ri kd nd co wo ln sz it sheet lane i = V := ⟨_, rfl⟩
  rw [hv]
  refine ct_intro (own := RX6) (lv := [(0, .ref b), (1, .int sheet), (2, .int lane), (3, .int i)]) (by decide) rfl (Nat.le_of_ble_eq_true rfl) rfl ?_
  intro p_ e_ s_ m_ below_ meth_ c_ C
  have hv : (if s_X2_faultOf ln sz sheet lane i (nI pe) = (0 : Int32) then (nI pe, (s_X6_film_L30 pe n la ri kd nd co wo ln sheet i pe 0 it)) else (s_X2_faultOf ln sz sheet lane i (nI pe), it)) = V := hv
  refine r_aln C dX6_film_0 rfl 0 rfl ?_
  refine gf_X6_32 C 0 rfl rfl dX6_film_1 ?_
  refine r_iln C dX6_film_4 rfl 1 rfl ?_
  refine r_iln C dX6_film_5 rfl 2 rfl ?_
  refine r_iln C dX6_film_6 rfl 3 rfl ?_
  refine r_aln C dX6_film_7 rfl 0 rfl ?_
  refine gf_X6_10 C 0 rfl rfl dX6_film_8 ?_
  refine gf_X6_50 C 1 rfl rfl dX6_film_11 ?_
  refine aft_rd (st' := [.int (s_X2_faultOf ln sz sheet lane i (nI pe))]) (run_VN (rest := []) C (c_X2_faultOf l D s0 s1 s2 s3 ln sz it sheet lane i (nI pe) ) ok_X2_faultOf wn_X2_faultOf wl_X2_faultOf wm_X6_217 [8, 9, 10, 11] 0 rfl rfl rfl ⟨Nat.le_of_ble_eq_true rfl, Nat.le_of_ble_eq_true rfl⟩ rfl rfl (Nat.le_of_ble_eq_true rfl) dX6_film_14) rfl ?_
  refine r_is C (lv' := [(4, .int (s_X2_faultOf ln sz sheet lane i (nI pe))), (0, .ref b), (1, .int sheet), (2, .int lane), (3, .int i)]) dX6_film_17 (by decide) rfl ?_
  refine r_il C dX6_film_19 0 rfl ?_
  refine r_ifeq C (tgt := 27) dX6_film_21 (by decide) (fun c1 => ?_) (fun c1 => ?_)
  · rw [if_pos c1] at hv
    have e2 := fault_sheet c1
    have e3 := fault_i (mn := pe) rfl (by omega) hz c1
    refine r_ic C (v := (0 : Int32)) dX6_film_27 (by decide) ?_
    refine r_is C (lv' := [(5, .int (0 : Int32)), (4, .int (s_X2_faultOf ln sz sheet lane i (nI pe))), (0, .ref b), (1, .int sheet), (2, .int lane), (3, .int i)]) dX6_film_28 (by decide) rfl ?_
    have L10 : ∀ (k4 : Nat) (d5 : Nat) (it_6 : Nat → Int64), (d5 + k4 = pe) → (nI pe, (s_X6_film_L30 pe n la ri kd nd co wo ln sheet i k4 d5 it_6)) = V → GM p_ l e_ s_ m_ below_ meth_ c_ D 4 93 6 [.ref b, .int sheet, .int lane, .int i] (wBNS D b h a1 a2 a3 a4 a5 a6 s0 s1 s2 s3 k0 g0 t0 u1 u2 u3 pe n td ys la ri kd dy nd co od wo ln sz V.2 im) (Ad (wBNS D b h a1 a2 a3 a4 a5 a6 s0 s1 s2 s3 k0 g0 t0 u1 u2 u3 pe n td ys la ri kd dy nd co od wo ln sz it im)) (some (Value.int V.1)) (wBNS D b h a1 a2 a3 a4 a5 a6 s0 s1 s2 s3 k0 g0 t0 u1 u2 u3 pe n td ys la ri kd dy nd co od wo ln sz it_6 im) 30 [(5, .int (nI d5)), (4, .int (s_X2_faultOf ln sz sheet lane i (nI pe))), (0, .ref b), (1, .int sheet), (2, .int lane), (3, .int i)] [] := by
      intro k4
      induction k4 with
      | zero =>
        intro d5 it_6 hk hv
        have hv : (nI pe, it_6) = V := hv
        refine r_il C dX6_film_30 0 rfl ?_
        refine r_aln C dX6_film_32 rfl 2 rfl ?_
        refine gf_X6_10 C 0 rfl rfl dX6_film_33 ?_
        refine gf_X6_50 C 1 rfl rfl dX6_film_36 ?_
        refine r_icge C (tgt := 77) dX6_film_39 (by decide) (fun c7 => ?_) (fun c7 => ?_)
        · skip
          refine r_aln C dX6_film_77 rfl 2 rfl ?_
          refine gf_X6_10 C 0 rfl rfl dX6_film_78 ?_
          refine gf_X6_50 C 1 rfl rfl dX6_film_81 ?_
          exact r_iret rfl C (by rw [← hv]) (by rw [← hv]) dX6_film_84
        · exact absurd c7 (fun z => absurd ((nv_lt (a := d5) (b := pe) rfl rfl (by omega) (by omega)).mp z) (by omega))
      | succ k4 ih8 =>
        intro d5 it_6 hk hv
        have hv : (nI pe, (s_X6_film_L30 pe n la ri kd nd co wo ln sheet i k4 (d5 + 1) (vp_updL it_6 ((sheet.toNatClampNeg * 16) + (i.toNatClampNeg + d5)) (s_X2_lowest (ln sheet.toNatClampNeg) ((s_X5_valueBy pe n la kd nd co wo d5 ri).toInt64))))) = V := hv
        refine r_il C dX6_film_30 0 rfl ?_
        refine r_aln C dX6_film_32 rfl 2 rfl ?_
        refine gf_X6_10 C 0 rfl rfl dX6_film_33 ?_
        refine gf_X6_50 C 1 rfl rfl dX6_film_36 ?_
        refine r_icge C (tgt := 77) dX6_film_39 (by decide) (fun c9 => ?_) (fun c9 => ?_)
        · exact absurd ((nv_lt (a := d5) (b := pe) rfl rfl (by omega) (by omega)).mpr (by omega)) c9
        · skip
          refine r_aln C dX6_film_42 rfl 2 rfl ?_
          refine gf_X6_32 C 0 rfl rfl dX6_film_43 ?_
          refine r_iln C dX6_film_46 rfl 3 rfl ?_
          refine r_iln C dX6_film_47 rfl 5 rfl ?_
          refine r_il C dX6_film_48 0 rfl ?_
          refine r_iadd C dX6_film_50 ?_
          refine r_aln C dX6_film_51 rfl 2 rfl ?_
          refine gf_X6_10 C 0 rfl rfl dX6_film_52 ?_
          refine r_il C dX6_film_55 0 rfl ?_
          refine r_aln C dX6_film_57 rfl 2 rfl ?_
          refine gf_X6_10 C 0 rfl rfl dX6_film_58 ?_
          refine gf_X6_91 C 1 rfl rfl dX6_film_61 ?_
          refine aft_rd (st' := [.int (s_X5_valueBy pe n la kd nd co wo d5 ri), .int (i + (nI d5)), .int sheet, .ref s0]) (run_VN (rest := [.int (i + (nI d5)), .int sheet, .ref s0]) C (c_X5_valueBy l D h a1 a2 a3 a4 a5 a6 pe n td ys la ri kd dy nd co od wo d5 ri (by omega) (by omega) (by omega)) ok_X5_valueBy wn_X5_valueBy wl_X5_valueBy wm_X6_162 [1, 2, 3, 4, 5, 6, 7] 0 rfl rfl rfl ⟨Nat.le_of_ble_eq_true rfl, Nat.le_of_ble_eq_true rfl⟩ rfl rfl (Nat.le_of_ble_eq_true rfl) dX6_film_64) rfl ?_
          refine r_i2l C dX6_film_67 ?_
          refine r_stk (st2 := [.long ((s_X5_valueBy pe n la kd nd co wo d5 ri).toInt64), .int (i + (nI d5)), .int (nI sheet.toNatClampNeg), .ref s0]) (congrArg (fun (z : Int32) => ([.long ((s_X5_valueBy pe n la kd nd co wo d5 ri).toInt64), .int (i + (nI d5)), .int z, .ref s0] : List Value)) e2.1) ?_
          refine r_stk (st2 := [.long ((s_X5_valueBy pe n la kd nd co wo d5 ri).toInt64), .int (nI (i.toNatClampNeg + d5)), .int (nI sheet.toNatClampNeg), .ref s0]) (congrArg (fun (z : Int32) => ([.long ((s_X5_valueBy pe n la kd nd co wo d5 ri).toInt64), .int z, .int (nI sheet.toNatClampNeg), .ref s0] : List Value)) (nv_add e3.1 rfl)) ?_
          refine aft_wr (ws2 := wBNS D b h a1 a2 a3 a4 a5 a6 s0 s1 s2 s3 k0 g0 t0 u1 u2 u3 pe n td ys la ri kd dy nd co od wo ln sz (vp_updL it_6 ((sheet.toNatClampNeg * 16) + (i.toNatClampNeg + d5)) (s_X2_lowest (ln sheet.toNatClampNeg) ((s_X5_valueBy pe n la kd nd co wo d5 ri).toInt64))) im) (st' := []) h0 rfl [8, 9, 10, 11] (run_VN (rest := []) C (c_X2_put l D s0 s1 s2 s3 ln sz it_6 sheet.toNatClampNeg (i.toNatClampNeg + d5) ((s_X5_valueBy pe n la kd nd co wo d5 ri).toInt64) (by omega) (by omega) (dis_sub h0 [8, 9, 10, 11] (by decide) rfl)) ok_X2_put wn_X2_put wl_X2_put wm_X6_238 [8, 9, 10, 11] 0 rfl rfl rfl ⟨Nat.le_of_ble_eq_true rfl, Nat.le_of_ble_eq_true rfl⟩ rfl rfl (Nat.le_of_ble_eq_true rfl) dX6_film_68) rfl rfl rfl rfl rfl ?_
          refine r_inc C (v := nI (d5 + 1)) (lv' := [(5, .int (nI (d5 + 1))), (4, .int (s_X2_faultOf ln sz sheet lane i (nI pe))), (0, .ref b), (1, .int sheet), (2, .int lane), (3, .int i)]) dX6_film_71 0 rfl (inc_nI d5) (by decide) rfl ?_
          refine r_goto C (tgt := 30) dX6_film_74 (by decide) ?_
          exact ih8 (d5 + 1) (vp_updL it_6 ((sheet.toNatClampNeg * 16) + (i.toNatClampNeg + d5)) (s_X2_lowest (ln sheet.toNatClampNeg) ((s_X5_valueBy pe n la kd nd co wo d5 ri).toInt64))) (by omega) hv
    refine r_lve (lv2 := [(5, .int (nI 0)), (4, .int (s_X2_faultOf ln sz sheet lane i (nI pe))), (0, .ref b), (1, .int sheet), (2, .int lane), (3, .int i)]) (congrArg (fun (z : Int32) => ([(5, .int z), (4, .int (s_X2_faultOf ln sz sheet lane i (nI pe))), (0, .ref b), (1, .int sheet), (2, .int lane), (3, .int i)] : List (Nat × Value))) rfl) ?_
    exact L10 pe 0 it (by omega) hv
  · rw [if_neg c1] at hv
    refine r_il C dX6_film_24 0 rfl ?_
    exact r_iret rfl C (by rw [← hv]) (by rw [← hv]) dX6_film_26

def s_X6_sheet (ln : Nat → Int32) (sz : Nat → Int32) (it : Nat → Int64) (sheet : Int32) (lane : Int32) (m : Int32) : Int32 × (Nat → Int32) × (Nat → Int32) × (Nat → Int64) := (if s_X6_isSheet sheet = (0 : Int32) then ((-1 : Int32), ln, sz, it) else (if s_X6_isLane lane = (0 : Int32) then ((-1 : Int32), ln, sz, it) else (if (16 : Int32) < m then ((-1 : Int32), ln, sz, it) else (if m < (0 : Int32) then ((-14 : Int32), ln, sz, it) else (m, (s_X2_begin ln sz it sheet.toNatClampNeg lane m).1, (s_X2_begin ln sz it sheet.toNatClampNeg lane m).2.1, (s_X2_begin ln sz it sheet.toNatClampNeg lane m).2.2)))))
set_option maxHeartbeats 8000000 in
set_option maxRecDepth 100000 in
theorem c_X6_sheet (l : Launch) (D : va_G) (b : Nat) (s0 : Nat) (s1 : Nat) (s2 : Nat) (s3 : Nat) (h : Nat) (k0 : Nat) (g0 : Nat) (t0 : Nat) (u1 : Nat) (u2 : Nat) (u3 : Nat) (ln : Nat → Int32) (sz : Nat → Int32) (it : Nat → Int64) (im : Int32) (sheet : Int32) (lane : Int32) (m : Int32) (h0 : va_D (fun _ => True) (wBS D b s0 s1 s2 s3 h k0 g0 t0 u1 u2 u3 ln sz it im)) : ct l yX6_sheet cX6_sheet 4 (some .int) 1 24 D [.ref b, .int sheet, .int lane, .int m] (wBS D b s0 s1 s2 s3 h k0 g0 t0 u1 u2 u3 ln sz it im) (wBS D b s0 s1 s2 s3 h k0 g0 t0 u1 u2 u3 (s_X6_sheet ln sz it sheet lane m).2.1 (s_X6_sheet ln sz it sheet lane m).2.2.1 (s_X6_sheet ln sz it sheet lane m).2.2.2 im) (Ad (wBS D b s0 s1 s2 s3 h k0 g0 t0 u1 u2 u3 ln sz it im)) (some (Value.int (s_X6_sheet ln sz it sheet lane m).1)) := by
  obtain ⟨V, hv⟩ : ∃ V, s_X6_sheet ln sz it sheet lane m = V := ⟨_, rfl⟩
  rw [hv]
  refine ct_intro (own := RX6) (lv := [(0, .ref b), (1, .int sheet), (2, .int lane), (3, .int m)]) (by decide) rfl (Nat.le_of_ble_eq_true rfl) rfl ?_
  intro p_ e_ s_ m_ below_ meth_ c_ C
  have hv : (if s_X6_isSheet sheet = (0 : Int32) then ((-1 : Int32), ln, sz, it) else (if s_X6_isLane lane = (0 : Int32) then ((-1 : Int32), ln, sz, it) else (if (16 : Int32) < m then ((-1 : Int32), ln, sz, it) else (if m < (0 : Int32) then ((-14 : Int32), ln, sz, it) else (m, (s_X2_begin ln sz it sheet.toNatClampNeg lane m).1, (s_X2_begin ln sz it sheet.toNatClampNeg lane m).2.1, (s_X2_begin ln sz it sheet.toNatClampNeg lane m).2.2))))) = V := hv
  refine r_iln C dX6_sheet_0 rfl 1 rfl ?_
  refine aft_rd (st' := [.int (s_X6_isSheet sheet)]) (run_S (rest := []) C (c_X6_isSheet l D sheet ) ok_X6_isSheet ws_X6_isSheet wm_X6_242 [] rfl ⟨Nat.le_of_ble_eq_true rfl, Nat.le_of_ble_eq_true rfl⟩ rfl rfl (Nat.le_of_ble_eq_true rfl) dX6_sheet_1) rfl ?_
  refine r_ifeq C (tgt := 20) dX6_sheet_4 (by decide) (fun c1 => ?_) (fun c1 => ?_)
  · rw [if_pos c1] at hv
    refine r_ic C (v := (-1 : Int32)) dX6_sheet_20 (by decide) ?_
    exact r_iret rfl C (by rw [← hv]) (by rw [← hv]) dX6_sheet_21
  · rw [if_neg c1] at hv
    have e2 := isSheet_nat c1
    refine r_iln C dX6_sheet_7 rfl 2 rfl ?_
    refine aft_rd (st' := [.int (s_X6_isLane lane)]) (run_S (rest := []) C (c_X6_isLane l D lane ) ok_X6_isLane ws_X6_isLane wm_X6_245 [] rfl ⟨Nat.le_of_ble_eq_true rfl, Nat.le_of_ble_eq_true rfl⟩ rfl rfl (Nat.le_of_ble_eq_true rfl) dX6_sheet_8) rfl ?_
    refine r_ifeq C (tgt := 20) dX6_sheet_11 (by decide) (fun c3 => ?_) (fun c3 => ?_)
    · rw [if_pos c3] at hv
      refine r_ic C (v := (-1 : Int32)) dX6_sheet_20 (by decide) ?_
      exact r_iret rfl C (by rw [← hv]) (by rw [← hv]) dX6_sheet_21
    · rw [if_neg c3] at hv
      refine r_iln C dX6_sheet_14 rfl 3 rfl ?_
      refine r_bp C (v := (16 : Int32)) dX6_sheet_15 (by decide) ?_
      refine r_icle C (tgt := 22) dX6_sheet_17 (by decide) (fun c4 => ?_) (fun c4 => ?_)
      · rw [if_neg c4] at hv
        refine r_iln C dX6_sheet_22 rfl 3 rfl ?_
        refine r_ifge C (tgt := 29) dX6_sheet_23 (by decide) (fun c5 => ?_) (fun c5 => ?_)
        · rw [if_neg c5] at hv
          refine r_aln C dX6_sheet_29 rfl 0 rfl ?_
          refine gf_X6_32 C 0 rfl rfl dX6_sheet_30 ?_
          refine r_iln C dX6_sheet_33 rfl 1 rfl ?_
          refine r_iln C dX6_sheet_34 rfl 2 rfl ?_
          refine r_iln C dX6_sheet_35 rfl 3 rfl ?_
          refine r_stk (st2 := [.int m, .int lane, .int (nI sheet.toNatClampNeg), .ref s0]) (congrArg (fun (z : Int32) => ([.int m, .int lane, .int z, .ref s0] : List Value)) e2.1) ?_
          refine aft_wr (ws2 := wBS D b s0 s1 s2 s3 h k0 g0 t0 u1 u2 u3 ((s_X2_begin ln sz it sheet.toNatClampNeg lane m).1) ((s_X2_begin ln sz it sheet.toNatClampNeg lane m).2.1) ((s_X2_begin ln sz it sheet.toNatClampNeg lane m).2.2) im) (st' := []) h0 rfl [1, 2, 3, 4] (run_VN (rest := []) C (c_X2_begin l D s0 s1 s2 s3 ln sz it sheet.toNatClampNeg lane m (by omega) (dis_sub h0 [1, 2, 3, 4] (by decide) rfl)) ok_X2_begin wn_X2_begin wl_X2_begin wm_X6_248 [1, 2, 3, 4] 0 rfl rfl rfl ⟨Nat.le_of_ble_eq_true rfl, Nat.le_of_ble_eq_true rfl⟩ rfl rfl (Nat.le_of_ble_eq_true rfl) dX6_sheet_36) rfl rfl rfl rfl rfl ?_
          refine r_iln C dX6_sheet_39 rfl 3 rfl ?_
          exact r_iret rfl C (by rw [← hv]) (by rw [← hv]) dX6_sheet_40
        · rw [if_pos c5] at hv
          refine r_bp C (v := (-14 : Int32)) dX6_sheet_26 (by decide) ?_
          exact r_iret rfl C (by rw [← hv]) (by rw [← hv]) dX6_sheet_28
      · rw [if_pos c4] at hv
        refine r_ic C (v := (-1 : Int32)) dX6_sheet_20 (by decide) ?_
        exact r_iret rfl C (by rw [← hv]) (by rw [← hv]) dX6_sheet_21

def s_X6_drop (ln : Nat → Int32) (sz : Nat → Int32) (it : Nat → Int64) (sheet : Int32) : Int32 × (Nat → Int32) × (Nat → Int32) × (Nat → Int64) := (if s_X6_isSheet sheet = (0 : Int32) then ((-1 : Int32), ln, sz, it) else (if s_X2_holds ln sheet.toNatClampNeg = (0 : Int32) then ((-11 : Int32), ln, sz, it) else (sz sheet.toNatClampNeg, (s_X2_begin ln sz it sheet.toNatClampNeg (-1 : Int32) (0 : Int32)).1, (s_X2_begin ln sz it sheet.toNatClampNeg (-1 : Int32) (0 : Int32)).2.1, (s_X2_begin ln sz it sheet.toNatClampNeg (-1 : Int32) (0 : Int32)).2.2)))
set_option maxHeartbeats 8000000 in
set_option maxRecDepth 100000 in
theorem c_X6_drop (l : Launch) (D : va_G) (b : Nat) (s0 : Nat) (s1 : Nat) (s2 : Nat) (s3 : Nat) (h : Nat) (k0 : Nat) (g0 : Nat) (t0 : Nat) (u1 : Nat) (u2 : Nat) (u3 : Nat) (ln : Nat → Int32) (sz : Nat → Int32) (it : Nat → Int64) (im : Int32) (sheet : Int32) (h0 : va_D (fun _ => True) (wBS D b s0 s1 s2 s3 h k0 g0 t0 u1 u2 u3 ln sz it im)) : ct l yX6_drop cX6_drop 3 (some .int) 1 24 D [.ref b, .int sheet] (wBS D b s0 s1 s2 s3 h k0 g0 t0 u1 u2 u3 ln sz it im) (wBS D b s0 s1 s2 s3 h k0 g0 t0 u1 u2 u3 (s_X6_drop ln sz it sheet).2.1 (s_X6_drop ln sz it sheet).2.2.1 (s_X6_drop ln sz it sheet).2.2.2 im) (Ad (wBS D b s0 s1 s2 s3 h k0 g0 t0 u1 u2 u3 ln sz it im)) (some (Value.int (s_X6_drop ln sz it sheet).1)) := by
  obtain ⟨V, hv⟩ : ∃ V, s_X6_drop ln sz it sheet = V := ⟨_, rfl⟩
  rw [hv]
  refine ct_intro (own := RX6) (lv := [(0, .ref b), (1, .int sheet)]) (by decide) rfl (Nat.le_of_ble_eq_true rfl) rfl ?_
  intro p_ e_ s_ m_ below_ meth_ c_ C
  have hv : (if s_X6_isSheet sheet = (0 : Int32) then ((-1 : Int32), ln, sz, it) else (if s_X2_holds ln sheet.toNatClampNeg = (0 : Int32) then ((-11 : Int32), ln, sz, it) else (sz sheet.toNatClampNeg, (s_X2_begin ln sz it sheet.toNatClampNeg (-1 : Int32) (0 : Int32)).1, (s_X2_begin ln sz it sheet.toNatClampNeg (-1 : Int32) (0 : Int32)).2.1, (s_X2_begin ln sz it sheet.toNatClampNeg (-1 : Int32) (0 : Int32)).2.2))) = V := hv
  refine r_iln C dX6_drop_0 rfl 1 rfl ?_
  refine aft_rd (st' := [.int (s_X6_isSheet sheet)]) (run_S (rest := []) C (c_X6_isSheet l D sheet ) ok_X6_isSheet ws_X6_isSheet wm_X6_242 [] rfl ⟨Nat.le_of_ble_eq_true rfl, Nat.le_of_ble_eq_true rfl⟩ rfl rfl (Nat.le_of_ble_eq_true rfl) dX6_drop_1) rfl ?_
  refine r_ifne C (tgt := 9) dX6_drop_4 (by decide) (fun c1 => ?_) (fun c1 => ?_)
  · rw [if_neg c1] at hv
    have e2 := isSheet_nat c1
    refine r_aln C dX6_drop_9 rfl 0 rfl ?_
    refine gf_X6_32 C 0 rfl rfl dX6_drop_10 ?_
    refine r_iln C dX6_drop_13 rfl 1 rfl ?_
    refine r_stk (st2 := [.int (nI sheet.toNatClampNeg), .ref s0]) (congrArg (fun (z : Int32) => ([.int z, .ref s0] : List Value)) e2.1) ?_
    refine aft_rd (st' := [.int (s_X2_holds ln sheet.toNatClampNeg)]) (run_VN (rest := []) C (c_X2_holds l D s0 s1 s2 s3 ln sz it sheet.toNatClampNeg (by omega)) ok_X2_holds wn_X2_holds wl_X2_holds wm_X6_252 [1, 2, 3, 4] 0 rfl rfl rfl ⟨Nat.le_of_ble_eq_true rfl, Nat.le_of_ble_eq_true rfl⟩ rfl rfl (Nat.le_of_ble_eq_true rfl) dX6_drop_14) rfl ?_
    refine r_ifne C (tgt := 23) dX6_drop_17 (by decide) (fun c3 => ?_) (fun c3 => ?_)
    · rw [if_neg c3] at hv
      refine r_aln C dX6_drop_23 rfl 0 rfl ?_
      refine gf_X6_32 C 0 rfl rfl dX6_drop_24 ?_
      refine gf_X6_255 C 1 rfl rfl dX6_drop_27 ?_
      refine r_iln C dX6_drop_30 rfl 1 rfl ?_
      refine r_iald C 3 sheet.toNatClampNeg rfl e2.1 (by omega) (by decide) rfl dX6_drop_31 ?_
      refine r_isn C (lv' := [(2, .int (sz sheet.toNatClampNeg)), (0, .ref b), (1, .int sheet)]) dX6_drop_32 rfl (by decide) rfl ?_
      refine r_aln C dX6_drop_33 rfl 1 rfl ?_
      refine gf_X6_32 C 0 rfl rfl dX6_drop_34 ?_
      refine r_iln C dX6_drop_37 rfl 2 rfl ?_
      refine r_ic C (v := (-1 : Int32)) dX6_drop_38 (by decide) ?_
      refine r_ic C (v := (0 : Int32)) dX6_drop_39 (by decide) ?_
      refine r_stk (st2 := [.int (0 : Int32), .int (-1 : Int32), .int (nI sheet.toNatClampNeg), .ref s0]) (congrArg (fun (z : Int32) => ([.int (0 : Int32), .int (-1 : Int32), .int z, .ref s0] : List Value)) e2.1) ?_
      refine aft_wr (ws2 := wBS D b s0 s1 s2 s3 h k0 g0 t0 u1 u2 u3 ((s_X2_begin ln sz it sheet.toNatClampNeg (-1 : Int32) (0 : Int32)).1) ((s_X2_begin ln sz it sheet.toNatClampNeg (-1 : Int32) (0 : Int32)).2.1) ((s_X2_begin ln sz it sheet.toNatClampNeg (-1 : Int32) (0 : Int32)).2.2) im) (st' := []) h0 rfl [1, 2, 3, 4] (run_VN (rest := []) C (c_X2_begin l D s0 s1 s2 s3 ln sz it sheet.toNatClampNeg (-1 : Int32) (0 : Int32) (by omega) (dis_sub h0 [1, 2, 3, 4] (by decide) rfl)) ok_X2_begin wn_X2_begin wl_X2_begin wm_X6_248 [1, 2, 3, 4] 0 rfl rfl rfl ⟨Nat.le_of_ble_eq_true rfl, Nat.le_of_ble_eq_true rfl⟩ rfl rfl (Nat.le_of_ble_eq_true rfl) dX6_drop_40) rfl rfl rfl rfl rfl ?_
      refine r_iln C dX6_drop_43 rfl 0 rfl ?_
      exact r_iret rfl C (by rw [← hv]) (by rw [← hv]) dX6_drop_44
    · rw [if_pos c3] at hv
      refine r_bp C (v := (-11 : Int32)) dX6_drop_20 (by decide) ?_
      exact r_iret rfl C (by rw [← hv]) (by rw [← hv]) dX6_drop_22
  · rw [if_pos c1] at hv
    refine r_ic C (v := (-1 : Int32)) dX6_drop_7 (by decide) ?_
    exact r_iret rfl C (by rw [← hv]) (by rw [← hv]) dX6_drop_8

def s_X6_item (ln : Nat → Int32) (sz : Nat → Int32) (it : Nat → Int64) (sheet : Int32) (lane : Int32) (i : Int32) (v : Int64) : Int32 × (Nat → Int64) := (if s_X2_faultOf ln sz sheet lane i (1 : Int32) = (0 : Int32) then ((1 : Int32), vp_updL it ((sheet.toNatClampNeg * 16) + i.toNatClampNeg) (s_X2_lowest (ln sheet.toNatClampNeg) v)) else (s_X2_faultOf ln sz sheet lane i (1 : Int32), it))
set_option maxHeartbeats 8000000 in
set_option maxRecDepth 100000 in
theorem c_X6_item (l : Launch) (D : va_G) (b : Nat) (s0 : Nat) (s1 : Nat) (s2 : Nat) (s3 : Nat) (h : Nat) (k0 : Nat) (g0 : Nat) (t0 : Nat) (u1 : Nat) (u2 : Nat) (u3 : Nat) (ln : Nat → Int32) (sz : Nat → Int32) (it : Nat → Int64) (im : Int32) (sheet : Int32) (lane : Int32) (i : Int32) (v : Int64) (hz : ∀ j, j < 4 → ∃ z : Nat, z ≤ 16 ∧ sz j = nI z) (h0 : va_D (fun _ => True) (wBS D b s0 s1 s2 s3 h k0 g0 t0 u1 u2 u3 ln sz it im)) : ct l yX6_item cX6_item 7 (some .int) 2 47 D [.ref b, .int sheet, .int lane, .int i, .long v] (wBS D b s0 s1 s2 s3 h k0 g0 t0 u1 u2 u3 ln sz it im) (wBS D b s0 s1 s2 s3 h k0 g0 t0 u1 u2 u3 ln sz (s_X6_item ln sz it sheet lane i v).2 im) (Ad (wBS D b s0 s1 s2 s3 h k0 g0 t0 u1 u2 u3 ln sz it im)) (some (Value.int (s_X6_item ln sz it sheet lane i v).1)) := by
  obtain ⟨V, hv⟩ : ∃ V, s_X6_item ln sz it sheet lane i v = V := ⟨_, rfl⟩
  rw [hv]
  refine ct_intro (own := RX6) (lv := [(0, .ref b), (1, .int sheet), (2, .int lane), (3, .int i), (4, .long v)]) (by decide) rfl (Nat.le_of_ble_eq_true rfl) rfl ?_
  intro p_ e_ s_ m_ below_ meth_ c_ C
  have hv : (if s_X2_faultOf ln sz sheet lane i (1 : Int32) = (0 : Int32) then ((1 : Int32), vp_updL it ((sheet.toNatClampNeg * 16) + i.toNatClampNeg) (s_X2_lowest (ln sheet.toNatClampNeg) v)) else (s_X2_faultOf ln sz sheet lane i (1 : Int32), it)) = V := hv
  refine r_aln C dX6_item_0 rfl 0 rfl ?_
  refine gf_X6_32 C 0 rfl rfl dX6_item_1 ?_
  refine r_iln C dX6_item_4 rfl 1 rfl ?_
  refine r_iln C dX6_item_5 rfl 2 rfl ?_
  refine r_iln C dX6_item_6 rfl 3 rfl ?_
  refine r_ic C (v := (1 : Int32)) dX6_item_7 (by decide) ?_
  refine aft_rd (st' := [.int (s_X2_faultOf ln sz sheet lane i (1 : Int32))]) (run_VN (rest := []) C (c_X2_faultOf l D s0 s1 s2 s3 ln sz it sheet lane i (1 : Int32) ) ok_X2_faultOf wn_X2_faultOf wl_X2_faultOf wm_X6_217 [1, 2, 3, 4] 0 rfl rfl rfl ⟨Nat.le_of_ble_eq_true rfl, Nat.le_of_ble_eq_true rfl⟩ rfl rfl (Nat.le_of_ble_eq_true rfl) dX6_item_8) rfl ?_
  refine r_is C (lv' := [(6, .int (s_X2_faultOf ln sz sheet lane i (1 : Int32))), (0, .ref b), (1, .int sheet), (2, .int lane), (3, .int i), (4, .long v)]) dX6_item_11 (by decide) rfl ?_
  refine r_il C dX6_item_13 0 rfl ?_
  refine r_ifeq C (tgt := 21) dX6_item_15 (by decide) (fun c1 => ?_) (fun c1 => ?_)
  · rw [if_pos c1] at hv
    have e2 := fault_sheet c1
    have e3 := fault_i (mn := 1) rfl (by omega) hz c1
    refine r_aln C dX6_item_21 rfl 1 rfl ?_
    refine gf_X6_32 C 0 rfl rfl dX6_item_22 ?_
    refine r_iln C dX6_item_25 rfl 2 rfl ?_
    refine r_iln C dX6_item_26 rfl 4 rfl ?_
    refine r_ll C dX6_item_27 5 rfl ?_
    refine r_stk (st2 := [.long v, .int i, .int (nI sheet.toNatClampNeg), .ref s0]) (congrArg (fun (z : Int32) => ([.long v, .int i, .int z, .ref s0] : List Value)) e2.1) ?_
    refine r_stk (st2 := [.long v, .int (nI i.toNatClampNeg), .int (nI sheet.toNatClampNeg), .ref s0]) (congrArg (fun (z : Int32) => ([.long v, .int z, .int (nI sheet.toNatClampNeg), .ref s0] : List Value)) e3.1) ?_
    refine aft_wr (ws2 := wBS D b s0 s1 s2 s3 h k0 g0 t0 u1 u2 u3 ln sz (vp_updL it ((sheet.toNatClampNeg * 16) + i.toNatClampNeg) (s_X2_lowest (ln sheet.toNatClampNeg) v)) im) (st' := []) h0 rfl [1, 2, 3, 4] (run_VN (rest := []) C (c_X2_put l D s0 s1 s2 s3 ln sz it sheet.toNatClampNeg i.toNatClampNeg v (by omega) (by omega) (dis_sub h0 [1, 2, 3, 4] (by decide) rfl)) ok_X2_put wn_X2_put wl_X2_put wm_X6_238 [1, 2, 3, 4] 0 rfl rfl rfl ⟨Nat.le_of_ble_eq_true rfl, Nat.le_of_ble_eq_true rfl⟩ rfl rfl (Nat.le_of_ble_eq_true rfl) dX6_item_29) rfl rfl rfl rfl rfl ?_
    refine r_ic C (v := (1 : Int32)) dX6_item_32 (by decide) ?_
    exact r_iret rfl C (by rw [← hv]) (by rw [← hv]) dX6_item_33
  · rw [if_neg c1] at hv
    refine r_il C dX6_item_18 0 rfl ?_
    exact r_iret rfl C (by rw [← hv]) (by rw [← hv]) dX6_item_20

def s_X6_copy (ln : Nat → Int32) (sz : Nat → Int32) (it : Nat → Int64) (sa : Int32) (i : Int32) (sb : Int32) (j : Int32) (m : Int32) : Int32 × (Nat → Int64) := (if s_X6_isSheet sa = (0 : Int32) then ((-1 : Int32), it) else (if s_X6_isSheet sb = (0 : Int32) then ((-1 : Int32), it) else (if s_X2_holds ln sa.toNatClampNeg = (0 : Int32) then ((-11 : Int32), it) else (if s_X2_holds ln sb.toNatClampNeg = (0 : Int32) then ((-11 : Int32), it) else (if ln sa.toNatClampNeg = ln sb.toNatClampNeg then (if s_X2_reaches sz sa.toNatClampNeg i m = (0 : Int32) then ((-13 : Int32), it) else (if s_X2_reaches sz sb.toNatClampNeg j m = (0 : Int32) then ((-13 : Int32), it) else (m, va_cpy it it ((sa.toNatClampNeg * 16) + i.toNatClampNeg) ((sb.toNatClampNeg * 16) + j.toNatClampNeg) m.toNatClampNeg))) else ((-12 : Int32), it))))))
set_option maxHeartbeats 8000000 in
set_option maxRecDepth 100000 in
theorem c_X6_copy (l : Launch) (D : va_G) (b : Nat) (s0 : Nat) (s1 : Nat) (s2 : Nat) (s3 : Nat) (h : Nat) (k0 : Nat) (g0 : Nat) (t0 : Nat) (u1 : Nat) (u2 : Nat) (u3 : Nat) (ln : Nat → Int32) (sz : Nat → Int32) (it : Nat → Int64) (im : Int32) (sa : Int32) (i : Int32) (sb : Int32) (j : Int32) (m : Int32) (hz : ∀ j, j < 4 → ∃ z : Nat, z ≤ 16 ∧ sz j = nI z) (h0 : va_D (fun _ => True) (wBS D b s0 s1 s2 s3 h k0 g0 t0 u1 u2 u3 ln sz it im)) : ct l yX6_copy cX6_copy 6 (some .int) 2 105 D [.ref b, .int sa, .int i, .int sb, .int j, .int m] (wBS D b s0 s1 s2 s3 h k0 g0 t0 u1 u2 u3 ln sz it im) (wBS D b s0 s1 s2 s3 h k0 g0 t0 u1 u2 u3 ln sz (s_X6_copy ln sz it sa i sb j m).2 im) (Ad (wBS D b s0 s1 s2 s3 h k0 g0 t0 u1 u2 u3 ln sz it im)) (some (Value.int (s_X6_copy ln sz it sa i sb j m).1)) := by
  obtain ⟨V, hv⟩ : ∃ V, s_X6_copy ln sz it sa i sb j m = V := ⟨_, rfl⟩
  rw [hv]
  refine ct_intro (own := RX6) (lv := [(0, .ref b), (1, .int sa), (2, .int i), (3, .int sb), (4, .int j), (5, .int m)]) (by decide) rfl (Nat.le_of_ble_eq_true rfl) rfl ?_
  intro p_ e_ s_ m_ below_ meth_ c_ C
  have hv : (if s_X6_isSheet sa = (0 : Int32) then ((-1 : Int32), it) else (if s_X6_isSheet sb = (0 : Int32) then ((-1 : Int32), it) else (if s_X2_holds ln sa.toNatClampNeg = (0 : Int32) then ((-11 : Int32), it) else (if s_X2_holds ln sb.toNatClampNeg = (0 : Int32) then ((-11 : Int32), it) else (if ln sa.toNatClampNeg = ln sb.toNatClampNeg then (if s_X2_reaches sz sa.toNatClampNeg i m = (0 : Int32) then ((-13 : Int32), it) else (if s_X2_reaches sz sb.toNatClampNeg j m = (0 : Int32) then ((-13 : Int32), it) else (m, va_cpy it it ((sa.toNatClampNeg * 16) + i.toNatClampNeg) ((sb.toNatClampNeg * 16) + j.toNatClampNeg) m.toNatClampNeg))) else ((-12 : Int32), it)))))) = V := hv
  refine r_iln C dX6_copy_0 rfl 1 rfl ?_
  refine aft_rd (st' := [.int (s_X6_isSheet sa)]) (run_S (rest := []) C (c_X6_isSheet l D sa ) ok_X6_isSheet ws_X6_isSheet wm_X6_242 [] rfl ⟨Nat.le_of_ble_eq_true rfl, Nat.le_of_ble_eq_true rfl⟩ rfl rfl (Nat.le_of_ble_eq_true rfl) dX6_copy_1) rfl ?_
  refine r_ifeq C (tgt := 14) dX6_copy_4 (by decide) (fun c1 => ?_) (fun c1 => ?_)
  · rw [if_pos c1] at hv
    refine r_ic C (v := (-1 : Int32)) dX6_copy_14 (by decide) ?_
    exact r_iret rfl C (by rw [← hv]) (by rw [← hv]) dX6_copy_15
  · rw [if_neg c1] at hv
    have e2 := isSheet_nat c1
    refine r_iln C dX6_copy_7 rfl 3 rfl ?_
    refine aft_rd (st' := [.int (s_X6_isSheet sb)]) (run_S (rest := []) C (c_X6_isSheet l D sb ) ok_X6_isSheet ws_X6_isSheet wm_X6_242 [] rfl ⟨Nat.le_of_ble_eq_true rfl, Nat.le_of_ble_eq_true rfl⟩ rfl rfl (Nat.le_of_ble_eq_true rfl) dX6_copy_8) rfl ?_
    refine r_ifne C (tgt := 16) dX6_copy_11 (by decide) (fun c3 => ?_) (fun c3 => ?_)
    · rw [if_neg c3] at hv
      have e4 := isSheet_nat c3
      refine r_aln C dX6_copy_16 rfl 0 rfl ?_
      refine gf_X6_32 C 0 rfl rfl dX6_copy_17 ?_
      refine r_iln C dX6_copy_20 rfl 1 rfl ?_
      refine r_stk (st2 := [.int (nI sa.toNatClampNeg), .ref s0]) (congrArg (fun (z : Int32) => ([.int z, .ref s0] : List Value)) e2.1) ?_
      refine aft_rd (st' := [.int (s_X2_holds ln sa.toNatClampNeg)]) (run_VN (rest := []) C (c_X2_holds l D s0 s1 s2 s3 ln sz it sa.toNatClampNeg (by omega)) ok_X2_holds wn_X2_holds wl_X2_holds wm_X6_252 [1, 2, 3, 4] 0 rfl rfl rfl ⟨Nat.le_of_ble_eq_true rfl, Nat.le_of_ble_eq_true rfl⟩ rfl rfl (Nat.le_of_ble_eq_true rfl) dX6_copy_21) rfl ?_
      refine r_ifeq C (tgt := 38) dX6_copy_24 (by decide) (fun c5 => ?_) (fun c5 => ?_)
      · rw [if_pos c5] at hv
        refine r_bp C (v := (-11 : Int32)) dX6_copy_38 (by decide) ?_
        exact r_iret rfl C (by rw [← hv]) (by rw [← hv]) dX6_copy_40
      · rw [if_neg c5] at hv
        refine r_aln C dX6_copy_27 rfl 0 rfl ?_
        refine gf_X6_32 C 0 rfl rfl dX6_copy_28 ?_
        refine r_iln C dX6_copy_31 rfl 3 rfl ?_
        refine r_stk (st2 := [.int (nI sb.toNatClampNeg), .ref s0]) (congrArg (fun (z : Int32) => ([.int z, .ref s0] : List Value)) e4.1) ?_
        refine aft_rd (st' := [.int (s_X2_holds ln sb.toNatClampNeg)]) (run_VN (rest := []) C (c_X2_holds l D s0 s1 s2 s3 ln sz it sb.toNatClampNeg (by omega)) ok_X2_holds wn_X2_holds wl_X2_holds wm_X6_252 [1, 2, 3, 4] 0 rfl rfl rfl ⟨Nat.le_of_ble_eq_true rfl, Nat.le_of_ble_eq_true rfl⟩ rfl rfl (Nat.le_of_ble_eq_true rfl) dX6_copy_32) rfl ?_
        refine r_ifne C (tgt := 41) dX6_copy_35 (by decide) (fun c6 => ?_) (fun c6 => ?_)
        · rw [if_neg c6] at hv
          refine r_aln C dX6_copy_41 rfl 0 rfl ?_
          refine gf_X6_32 C 0 rfl rfl dX6_copy_42 ?_
          refine gf_X6_258 C 1 rfl rfl dX6_copy_45 ?_
          refine r_iln C dX6_copy_48 rfl 1 rfl ?_
          refine r_iald C 2 sa.toNatClampNeg rfl e2.1 (by omega) (by decide) rfl dX6_copy_49 ?_
          refine r_aln C dX6_copy_50 rfl 0 rfl ?_
          refine gf_X6_32 C 0 rfl rfl dX6_copy_51 ?_
          refine gf_X6_258 C 1 rfl rfl dX6_copy_54 ?_
          refine r_iln C dX6_copy_57 rfl 3 rfl ?_
          refine r_iald C 2 sb.toNatClampNeg rfl e4.1 (by omega) (by decide) rfl dX6_copy_58 ?_
          refine r_iceq C (tgt := 65) dX6_copy_59 (by decide) (fun c7 => ?_) (fun c7 => ?_)
          · rw [if_pos c7] at hv
            refine r_aln C dX6_copy_65 rfl 0 rfl ?_
            refine gf_X6_32 C 0 rfl rfl dX6_copy_66 ?_
            refine r_iln C dX6_copy_69 rfl 1 rfl ?_
            refine r_iln C dX6_copy_70 rfl 2 rfl ?_
            refine r_il C dX6_copy_71 5 rfl ?_
            refine r_stk (st2 := [.int m, .int i, .int (nI sa.toNatClampNeg), .ref s0]) (congrArg (fun (z : Int32) => ([.int m, .int i, .int z, .ref s0] : List Value)) e2.1) ?_
            refine aft_rd (st' := [.int (s_X2_reaches sz sa.toNatClampNeg i m)]) (run_VN (rest := []) C (c_X2_reaches l D s0 s1 s2 s3 ln sz it sa.toNatClampNeg i m (by omega)) ok_X2_reaches wn_X2_reaches wl_X2_reaches wm_X6_261 [1, 2, 3, 4] 0 rfl rfl rfl ⟨Nat.le_of_ble_eq_true rfl, Nat.le_of_ble_eq_true rfl⟩ rfl rfl (Nat.le_of_ble_eq_true rfl) dX6_copy_73) rfl ?_
            refine r_ifeq C (tgt := 94) dX6_copy_76 (by decide) (fun c8 => ?_) (fun c8 => ?_)
            · rw [if_pos c8] at hv
              refine r_bp C (v := (-13 : Int32)) dX6_copy_94 (by decide) ?_
              exact r_iret rfl C (by rw [← hv]) (by rw [← hv]) dX6_copy_96
            · rw [if_neg c8] at hv
              have e9 := reach_i hz (by omega) c8
              refine r_aln C dX6_copy_79 rfl 0 rfl ?_
              refine gf_X6_32 C 0 rfl rfl dX6_copy_80 ?_
              refine r_iln C dX6_copy_83 rfl 3 rfl ?_
              refine r_il C dX6_copy_84 4 rfl ?_
              refine r_il C dX6_copy_86 5 rfl ?_
              refine r_stk (st2 := [.int m, .int j, .int (nI sb.toNatClampNeg), .ref s0]) (congrArg (fun (z : Int32) => ([.int m, .int j, .int z, .ref s0] : List Value)) e4.1) ?_
              refine aft_rd (st' := [.int (s_X2_reaches sz sb.toNatClampNeg j m)]) (run_VN (rest := []) C (c_X2_reaches l D s0 s1 s2 s3 ln sz it sb.toNatClampNeg j m (by omega)) ok_X2_reaches wn_X2_reaches wl_X2_reaches wm_X6_261 [1, 2, 3, 4] 0 rfl rfl rfl ⟨Nat.le_of_ble_eq_true rfl, Nat.le_of_ble_eq_true rfl⟩ rfl rfl (Nat.le_of_ble_eq_true rfl) dX6_copy_88) rfl ?_
              refine r_ifne C (tgt := 97) dX6_copy_91 (by decide) (fun c10 => ?_) (fun c10 => ?_)
              · rw [if_neg c10] at hv
                have e11 := reach_i hz (by omega) c10
                have e12 := (reach_i hz (by omega) c10).2
                refine r_aln C dX6_copy_97 rfl 0 rfl ?_
                refine gf_X6_32 C 0 rfl rfl dX6_copy_98 ?_
                refine r_iln C dX6_copy_101 rfl 1 rfl ?_
                refine r_iln C dX6_copy_102 rfl 2 rfl ?_
                refine r_iln C dX6_copy_103 rfl 3 rfl ?_
                refine r_il C dX6_copy_104 4 rfl ?_
                refine r_il C dX6_copy_106 5 rfl ?_
                refine r_stk (st2 := [.int m, .int j, .int sb, .int i, .int (nI sa.toNatClampNeg), .ref s0]) (congrArg (fun (z : Int32) => ([.int m, .int j, .int sb, .int i, .int z, .ref s0] : List Value)) e2.1) ?_
                refine r_stk (st2 := [.int m, .int j, .int sb, .int (nI i.toNatClampNeg), .int (nI sa.toNatClampNeg), .ref s0]) (congrArg (fun (z : Int32) => ([.int m, .int j, .int sb, .int z, .int (nI sa.toNatClampNeg), .ref s0] : List Value)) e9.1) ?_
                refine r_stk (st2 := [.int m, .int j, .int (nI sb.toNatClampNeg), .int (nI i.toNatClampNeg), .int (nI sa.toNatClampNeg), .ref s0]) (congrArg (fun (z : Int32) => ([.int m, .int j, .int z, .int (nI i.toNatClampNeg), .int (nI sa.toNatClampNeg), .ref s0] : List Value)) e4.1) ?_
                refine r_stk (st2 := [.int m, .int (nI j.toNatClampNeg), .int (nI sb.toNatClampNeg), .int (nI i.toNatClampNeg), .int (nI sa.toNatClampNeg), .ref s0]) (congrArg (fun (z : Int32) => ([.int m, .int z, .int (nI sb.toNatClampNeg), .int (nI i.toNatClampNeg), .int (nI sa.toNatClampNeg), .ref s0] : List Value)) e11.1) ?_
                refine r_stk (st2 := [.int (nI m.toNatClampNeg), .int (nI j.toNatClampNeg), .int (nI sb.toNatClampNeg), .int (nI i.toNatClampNeg), .int (nI sa.toNatClampNeg), .ref s0]) (congrArg (fun (z : Int32) => ([.int z, .int (nI j.toNatClampNeg), .int (nI sb.toNatClampNeg), .int (nI i.toNatClampNeg), .int (nI sa.toNatClampNeg), .ref s0] : List Value)) e12.1) ?_
                refine aft_wr (ws2 := wBS D b s0 s1 s2 s3 h k0 g0 t0 u1 u2 u3 ln sz (va_cpy it it ((sa.toNatClampNeg * 16) + i.toNatClampNeg) ((sb.toNatClampNeg * 16) + j.toNatClampNeg) m.toNatClampNeg) im) (st' := []) h0 rfl [1, 2, 3, 4] (run_VN (rest := []) C (c_X2_move l D s0 s1 s2 s3 ln sz it sa.toNatClampNeg i.toNatClampNeg sb.toNatClampNeg j.toNatClampNeg m.toNatClampNeg (by omega) (by omega) (by omega) (by omega) (dis_sub h0 [1, 2, 3, 4] (by decide) rfl)) ok_X2_move wn_X2_move wl_X2_move wm_X6_264 [1, 2, 3, 4] 0 rfl rfl rfl ⟨Nat.le_of_ble_eq_true rfl, Nat.le_of_ble_eq_true rfl⟩ rfl rfl (Nat.le_of_ble_eq_true rfl) dX6_copy_108) rfl rfl rfl rfl rfl ?_
                refine r_il C dX6_copy_111 5 rfl ?_
                exact r_iret rfl C (by rw [← hv]) (by rw [← hv]) dX6_copy_113
              · rw [if_pos c10] at hv
                refine r_bp C (v := (-13 : Int32)) dX6_copy_94 (by decide) ?_
                exact r_iret rfl C (by rw [← hv]) (by rw [← hv]) dX6_copy_96
          · rw [if_neg c7] at hv
            refine r_bp C (v := (-12 : Int32)) dX6_copy_62 (by decide) ?_
            exact r_iret rfl C (by rw [← hv]) (by rw [← hv]) dX6_copy_64
        · rw [if_pos c6] at hv
          refine r_bp C (v := (-11 : Int32)) dX6_copy_38 (by decide) ?_
          exact r_iret rfl C (by rw [← hv]) (by rw [← hv]) dX6_copy_40
    · rw [if_pos c3] at hv
      refine r_ic C (v := (-1 : Int32)) dX6_copy_14 (by decide) ?_
      exact r_iret rfl C (by rw [← hv]) (by rw [← hv]) dX6_copy_15

def s_X6_type (ty : Nat) (le : Nat → Int32) (letter : Int32) : Int32 × Nat × (Nat → Int32) := (if letter < (32 : Int32) then ((-1 : Int32), ty, le) else (if (126 : Int32) < letter then ((-1 : Int32), ty, le) else (if (s_X3_add ty le ((letter.toUInt32 % 65536).toInt32)).1 = (0 : Int32) then ((-3 : Int32), (s_X3_add ty le ((letter.toUInt32 % 65536).toInt32)).2.1, (s_X3_add ty le ((letter.toUInt32 % 65536).toInt32)).2.2) else (nI ((s_X3_add ty le ((letter.toUInt32 % 65536).toInt32)).2.1), (s_X3_add ty le ((letter.toUInt32 % 65536).toInt32)).2.1, (s_X3_add ty le ((letter.toUInt32 % 65536).toInt32)).2.2))))
set_option maxHeartbeats 8000000 in
set_option maxRecDepth 100000 in
theorem c_X6_type (l : Launch) (D : va_G) (b : Nat) (t0 : Nat) (t1 : Nat) (h : Nat) (k0 : Nat) (g0 : Nat) (s0 : Nat) (u1 : Nat) (u2 : Nat) (u3 : Nat) (ty : Nat) (aw : Int32) (tk : Int32) (le : Nat → Int32) (im : Int32) (letter : Int32) (hty : ty ≤ 80) (h0 : va_D (fun _ => True) (wBT D b t0 t1 h k0 g0 s0 u1 u2 u3 ty aw tk le im)) : ct l yX6_type cX6_type 2 (some .int) 1 21 D [.ref b, .int letter] (wBT D b t0 t1 h k0 g0 s0 u1 u2 u3 ty aw tk le im) (wBT D b t0 t1 h k0 g0 s0 u1 u2 u3 (s_X6_type ty le letter).2.1 aw tk (s_X6_type ty le letter).2.2 im) (Ad (wBT D b t0 t1 h k0 g0 s0 u1 u2 u3 ty aw tk le im)) (some (Value.int (s_X6_type ty le letter).1)) := by
  obtain ⟨V, hv⟩ : ∃ V, s_X6_type ty le letter = V := ⟨_, rfl⟩
  rw [hv]
  refine ct_intro (own := RX6) (lv := [(0, .ref b), (1, .int letter)]) (by decide) rfl (Nat.le_of_ble_eq_true rfl) rfl ?_
  intro p_ e_ s_ m_ below_ meth_ c_ C
  have hv : (if letter < (32 : Int32) then ((-1 : Int32), ty, le) else (if (126 : Int32) < letter then ((-1 : Int32), ty, le) else (if (s_X3_add ty le ((letter.toUInt32 % 65536).toInt32)).1 = (0 : Int32) then ((-3 : Int32), (s_X3_add ty le ((letter.toUInt32 % 65536).toInt32)).2.1, (s_X3_add ty le ((letter.toUInt32 % 65536).toInt32)).2.2) else (nI ((s_X3_add ty le ((letter.toUInt32 % 65536).toInt32)).2.1), (s_X3_add ty le ((letter.toUInt32 % 65536).toInt32)).2.1, (s_X3_add ty le ((letter.toUInt32 % 65536).toInt32)).2.2)))) = V := hv
  refine r_iln C dX6_type_0 rfl 1 rfl ?_
  refine r_bp C (v := (32 : Int32)) dX6_type_1 (by decide) ?_
  refine r_iclt C (tgt := 12) dX6_type_3 (by decide) (fun c1 => ?_) (fun c1 => ?_)
  · rw [if_pos c1] at hv
    refine r_ic C (v := (-1 : Int32)) dX6_type_12 (by decide) ?_
    exact r_iret rfl C (by rw [← hv]) (by rw [← hv]) dX6_type_13
  · rw [if_neg c1] at hv
    refine r_iln C dX6_type_6 rfl 1 rfl ?_
    refine r_bp C (v := (126 : Int32)) dX6_type_7 (by decide) ?_
    refine r_icle C (tgt := 14) dX6_type_9 (by decide) (fun c2 => ?_) (fun c2 => ?_)
    · rw [if_neg c2] at hv
      refine r_aln C dX6_type_14 rfl 0 rfl ?_
      refine gf_X6_25 C 0 rfl rfl dX6_type_15 ?_
      refine r_iln C dX6_type_18 rfl 1 rfl ?_
      refine r_i2c C dX6_type_19 ?_
      refine aft_wr (ws2 := wBT D b t0 t1 h k0 g0 s0 u1 u2 u3 ((s_X3_add ty le ((letter.toUInt32 % 65536).toInt32)).2.1) aw tk ((s_X3_add ty le ((letter.toUInt32 % 65536).toInt32)).2.2) im) (st' := [.int ((s_X3_add ty le ((letter.toUInt32 % 65536).toInt32)).1)]) h0 rfl [1, 2] (run_VN (rest := []) C (c_X3_add l D t0 t1 ty aw tk le ((letter.toUInt32 % 65536).toInt32) (by omega) (dis_sub h0 [1, 2] (by decide) rfl)) ok_X3_add wn_X3_add wl_X3_add wm_X6_121 [1, 2] 0 rfl rfl rfl ⟨Nat.le_of_ble_eq_true rfl, Nat.le_of_ble_eq_true rfl⟩ rfl rfl (Nat.le_of_ble_eq_true rfl) dX6_type_20) rfl rfl rfl rfl rfl ?_
      refine r_ifeq C (tgt := 36) dX6_type_23 (by decide) (fun c3 => ?_) (fun c3 => ?_)
      · rw [if_pos c3] at hv
        refine r_bp C (v := (-3 : Int32)) dX6_type_36 (by decide) ?_
        exact r_iret rfl C (by rw [← hv]) (by rw [← hv]) dX6_type_38
      · rw [if_neg c3] at hv
        refine r_aln C dX6_type_26 rfl 0 rfl ?_
        refine gf_X6_25 C 0 rfl rfl dX6_type_27 ?_
        refine gf_X6_124 C 1 rfl rfl dX6_type_30 ?_
        refine r_goto C (tgt := 38) dX6_type_33 (by decide) ?_
        exact r_iret rfl C (by rw [← hv]) (by rw [← hv]) dX6_type_38
    · rw [if_pos c2] at hv
      refine r_ic C (v := (-1 : Int32)) dX6_type_12 (by decide) ?_
      exact r_iret rfl C (by rw [← hv]) (by rw [← hv]) dX6_type_13

def s_X6_net_L102 (n : Nat) (kd : Nat → Int32) (dy : Nat → Int32) (it : Nat → Int64) (tl : Nat → Int32) (deed : Int32) (sheet : Int32) (i : Int32) (m : Int32) : Nat → Int32 → Int32 → Int32 × Int32
  | 0, cnt_13, least_14 => (cnt_13, least_14)
  | k11 + 1, cnt_13, least_14 => (if s_X6_isWithin (nI k11) (nI ((s_X5_needable dy deed.toNatClampNeg (dy deed.toNatClampNeg)).toNatClampNeg)) = (0 : Int32) then (s_X6_net_L102 n kd dy it tl deed sheet i m k11 cnt_13 least_14) else (if s_X1_fits ((s_X6_takeToldYears n it tl sheet.toNatClampNeg i.toNatClampNeg m.toNatClampNeg).2) (kd deed.toNatClampNeg) (nI k11) ((1 : Int32) <<< (deed &&& 31)) m.toNatClampNeg = (0 : Int32) then (s_X6_net_L102 n kd dy it tl deed sheet i m k11 cnt_13 least_14) else (s_X6_net_L102 n kd dy it tl deed sheet i m k11 (cnt_13 + (1 : Int32)) (nI k11))))
def s_X6_net (n : Nat) (kd : Nat → Int32) (dy : Nat → Int32) (ln : Nat → Int32) (sz : Nat → Int32) (it : Nat → Int64) (tl : Nat → Int32) (deed : Int32) (sheet : Int32) (lane : Int32) (i : Int32) (m : Int32) (what : Int32) : Int32 × (Nat → Int32) := (if s_X5_has n deed = (0 : Int32) then ((-1 : Int32), tl) else (if m < (1 : Int32) then ((-1 : Int32), tl) else (if (8 : Int32) < m then ((-1 : Int32), tl) else (if s_X6_isChoice what = (0 : Int32) then ((-1 : Int32), tl) else (if s_X2_faultOf ln sz sheet lane i m = (0 : Int32) then (if (s_X6_takeToldYears n it tl sheet.toNatClampNeg i.toNatClampNeg m.toNatClampNeg).1 = (0 : Int32) then ((-2 : Int32), (s_X6_takeToldYears n it tl sheet.toNatClampNeg i.toNatClampNeg m.toNatClampNeg).2) else (if what = (0 : Int32) then (((s_X6_net_L102 n kd dy it tl deed sheet i m ((s_X5_needable dy deed.toNatClampNeg (dy deed.toNatClampNeg)).toNatClampNeg + 1) (0 : Int32) (-4 : Int32)).1), (s_X6_takeToldYears n it tl sheet.toNatClampNeg i.toNatClampNeg m.toNatClampNeg).2) else (((s_X6_net_L102 n kd dy it tl deed sheet i m ((s_X5_needable dy deed.toNatClampNeg (dy deed.toNatClampNeg)).toNatClampNeg + 1) (0 : Int32) (-4 : Int32)).2), (s_X6_takeToldYears n it tl sheet.toNatClampNeg i.toNatClampNeg m.toNatClampNeg).2))) else (s_X2_faultOf ln sz sheet lane i m, tl))))))
set_option maxHeartbeats 8000000 in
set_option maxRecDepth 100000 in
theorem c_X6_net (l : Launch) (D : va_G) (b : Nat) (h : Nat) (a1 : Nat) (a2 : Nat) (a3 : Nat) (a4 : Nat) (a5 : Nat) (a6 : Nat) (s0 : Nat) (s1 : Nat) (s2 : Nat) (s3 : Nat) (u2 : Nat) (k0 : Nat) (g0 : Nat) (t0 : Nat) (u1 : Nat) (u3 : Nat) (pe : Nat) (n : Nat) (td : Int32) (ys : Int32) (la : Int32) (ri : Int32) (kd : Nat → Int32) (dy : Nat → Int32) (nd : Nat → Int32) (co : Nat → Int32) (od : Nat → Int32) (wo : Nat → Int32) (ln : Nat → Int32) (sz : Nat → Int32) (it : Nat → Int64) (tl : Nat → Int32) (im : Int32) (deed : Int32) (sheet : Int32) (lane : Int32) (i : Int32) (m : Int32) (what : Int32) (hn : n ≤ 12) (hz : ∀ j, j < 4 → ∃ z : Nat, z ≤ 16 ∧ sz j = nI z) (h0 : va_D (fun _ => True) (wBNS2 D b h a1 a2 a3 a4 a5 a6 s0 s1 s2 s3 u2 k0 g0 t0 u1 u3 pe n td ys la ri kd dy nd co od wo ln sz it tl im)) : ct l yX6_net cX6_net 12 (some .int) 2 49 D [.ref b, .int deed, .int sheet, .int lane, .int i, .int m, .int what] (wBNS2 D b h a1 a2 a3 a4 a5 a6 s0 s1 s2 s3 u2 k0 g0 t0 u1 u3 pe n td ys la ri kd dy nd co od wo ln sz it tl im) (wBNS2 D b h a1 a2 a3 a4 a5 a6 s0 s1 s2 s3 u2 k0 g0 t0 u1 u3 pe n td ys la ri kd dy nd co od wo ln sz it (s_X6_net n kd dy ln sz it tl deed sheet lane i m what).2 im) (Ad (wBNS2 D b h a1 a2 a3 a4 a5 a6 s0 s1 s2 s3 u2 k0 g0 t0 u1 u3 pe n td ys la ri kd dy nd co od wo ln sz it tl im)) (some (Value.int (s_X6_net n kd dy ln sz it tl deed sheet lane i m what).1)) := by
  obtain ⟨V, hv⟩ : ∃ V, s_X6_net n kd dy ln sz it tl deed sheet lane i m what = V := ⟨_, rfl⟩
  rw [hv]
  refine ct_intro (own := RX6) (lv := [(0, .ref b), (1, .int deed), (2, .int sheet), (3, .int lane), (4, .int i), (5, .int m), (6, .int what)]) (by decide) rfl (Nat.le_of_ble_eq_true rfl) rfl ?_
  intro p_ e_ s_ m_ below_ meth_ c_ C
  have hv : (if s_X5_has n deed = (0 : Int32) then ((-1 : Int32), tl) else (if m < (1 : Int32) then ((-1 : Int32), tl) else (if (8 : Int32) < m then ((-1 : Int32), tl) else (if s_X6_isChoice what = (0 : Int32) then ((-1 : Int32), tl) else (if s_X2_faultOf ln sz sheet lane i m = (0 : Int32) then (if (s_X6_takeToldYears n it tl sheet.toNatClampNeg i.toNatClampNeg m.toNatClampNeg).1 = (0 : Int32) then ((-2 : Int32), (s_X6_takeToldYears n it tl sheet.toNatClampNeg i.toNatClampNeg m.toNatClampNeg).2) else (if what = (0 : Int32) then (((s_X6_net_L102 n kd dy it tl deed sheet i m ((s_X5_needable dy deed.toNatClampNeg (dy deed.toNatClampNeg)).toNatClampNeg + 1) (0 : Int32) (-4 : Int32)).1), (s_X6_takeToldYears n it tl sheet.toNatClampNeg i.toNatClampNeg m.toNatClampNeg).2) else (((s_X6_net_L102 n kd dy it tl deed sheet i m ((s_X5_needable dy deed.toNatClampNeg (dy deed.toNatClampNeg)).toNatClampNeg + 1) (0 : Int32) (-4 : Int32)).2), (s_X6_takeToldYears n it tl sheet.toNatClampNeg i.toNatClampNeg m.toNatClampNeg).2))) else (s_X2_faultOf ln sz sheet lane i m, tl)))))) = V := hv
  refine r_aln C dX6_net_0 rfl 0 rfl ?_
  refine gf_X6_10 C 0 rfl rfl dX6_net_1 ?_
  refine r_iln C dX6_net_4 rfl 1 rfl ?_
  refine aft_rd (st' := [.int (s_X5_has n deed)]) (run_VN (rest := []) C (c_X5_has l D h a1 a2 a3 a4 a5 a6 pe n td ys la ri kd dy nd co od wo deed ) ok_X5_has wn_X5_has wl_X5_has wm_X6_73 [1, 2, 3, 4, 5, 6, 7] 0 rfl rfl rfl ⟨Nat.le_of_ble_eq_true rfl, Nat.le_of_ble_eq_true rfl⟩ rfl rfl (Nat.le_of_ble_eq_true rfl) dX6_net_5) rfl ?_
  refine r_ifeq C (tgt := 32) dX6_net_8 (by decide) (fun c1 => ?_) (fun c1 => ?_)
  · rw [if_pos c1] at hv
    refine r_ic C (v := (-1 : Int32)) dX6_net_32 (by decide) ?_
    exact r_iret rfl C (by rw [← hv]) (by rw [← hv]) dX6_net_33
  · rw [if_neg c1] at hv
    have e2 := has_nat hn c1
    refine r_il C dX6_net_11 5 rfl ?_
    refine r_ic C (v := (1 : Int32)) dX6_net_13 (by decide) ?_
    refine r_iclt C (tgt := 32) dX6_net_14 (by decide) (fun c3 => ?_) (fun c3 => ?_)
    · rw [if_pos c3] at hv
      refine r_ic C (v := (-1 : Int32)) dX6_net_32 (by decide) ?_
      exact r_iret rfl C (by rw [← hv]) (by rw [← hv]) dX6_net_33
    · rw [if_neg c3] at hv
      refine r_il C dX6_net_17 5 rfl ?_
      refine r_bp C (v := (8 : Int32)) dX6_net_19 (by decide) ?_
      refine r_icgt C (tgt := 32) dX6_net_21 (by decide) (fun c4 => ?_) (fun c4 => ?_)
      · rw [if_pos c4] at hv
        refine r_ic C (v := (-1 : Int32)) dX6_net_32 (by decide) ?_
        exact r_iret rfl C (by rw [← hv]) (by rw [← hv]) dX6_net_33
      · rw [if_neg c4] at hv
        have e5 := m8_nat (by assumption) c4
        refine r_il C dX6_net_24 6 rfl ?_
        refine aft_rd (st' := [.int (s_X6_isChoice what)]) (run_S (rest := []) C (c_X6_isChoice l D what ) ok_X6_isChoice ws_X6_isChoice wm_X6_101 [] rfl ⟨Nat.le_of_ble_eq_true rfl, Nat.le_of_ble_eq_true rfl⟩ rfl rfl (Nat.le_of_ble_eq_true rfl) dX6_net_26) rfl ?_
        refine r_ifne C (tgt := 34) dX6_net_29 (by decide) (fun c6 => ?_) (fun c6 => ?_)
        · rw [if_neg c6] at hv
          refine r_aln C dX6_net_34 rfl 0 rfl ?_
          refine gf_X6_32 C 0 rfl rfl dX6_net_35 ?_
          refine r_iln C dX6_net_38 rfl 2 rfl ?_
          refine r_iln C dX6_net_39 rfl 3 rfl ?_
          refine r_il C dX6_net_40 4 rfl ?_
          refine r_il C dX6_net_42 5 rfl ?_
          refine aft_rd (st' := [.int (s_X2_faultOf ln sz sheet lane i m)]) (run_VN (rest := []) C (c_X2_faultOf l D s0 s1 s2 s3 ln sz it sheet lane i m ) ok_X2_faultOf wn_X2_faultOf wl_X2_faultOf wm_X6_217 [8, 9, 10, 11] 0 rfl rfl rfl ⟨Nat.le_of_ble_eq_true rfl, Nat.le_of_ble_eq_true rfl⟩ rfl rfl (Nat.le_of_ble_eq_true rfl) dX6_net_44) rfl ?_
          refine r_is C (lv' := [(7, .int (s_X2_faultOf ln sz sheet lane i m)), (0, .ref b), (1, .int deed), (2, .int sheet), (3, .int lane), (4, .int i), (5, .int m), (6, .int what)]) dX6_net_47 (by decide) rfl ?_
          refine r_il C dX6_net_49 0 rfl ?_
          refine r_ifeq C (tgt := 57) dX6_net_51 (by decide) (fun c7 => ?_) (fun c7 => ?_)
          · rw [if_pos c7] at hv
            have e8 := fault_sheet c7
            have e9 := fault_i (mn := m.toNatClampNeg) (m8_nat (by assumption) (by assumption)).1 (by omega) hz c7
            refine r_aln C dX6_net_57 rfl 1 rfl ?_
            refine r_iln C dX6_net_58 rfl 3 rfl ?_
            refine r_il C dX6_net_59 5 rfl ?_
            refine r_il C dX6_net_61 6 rfl ?_
            refine r_stk (st2 := [.int m, .int i, .int (nI sheet.toNatClampNeg), .ref b]) (congrArg (fun (z : Int32) => ([.int m, .int i, .int z, .ref b] : List Value)) e8.1) ?_
            refine r_stk (st2 := [.int m, .int (nI i.toNatClampNeg), .int (nI sheet.toNatClampNeg), .ref b]) (congrArg (fun (z : Int32) => ([.int m, .int z, .int (nI sheet.toNatClampNeg), .ref b] : List Value)) e9.1) ?_
            refine r_stk (st2 := [.int (nI m.toNatClampNeg), .int (nI i.toNatClampNeg), .int (nI sheet.toNatClampNeg), .ref b]) (congrArg (fun (z : Int32) => ([.int z, .int (nI i.toNatClampNeg), .int (nI sheet.toNatClampNeg), .ref b] : List Value)) e5.1) ?_
            refine aft_wr (ws2 := wBNS2 D b h a1 a2 a3 a4 a5 a6 s0 s1 s2 s3 u2 k0 g0 t0 u1 u3 pe n td ys la ri kd dy nd co od wo ln sz it ((s_X6_takeToldYears n it tl sheet.toNatClampNeg i.toNatClampNeg m.toNatClampNeg).2) im) (st' := [.int ((s_X6_takeToldYears n it tl sheet.toNatClampNeg i.toNatClampNeg m.toNatClampNeg).1)]) h0 rfl [0, 1, 2, 3, 4, 5, 6, 7, 8, 9, 10, 11, 12] (run_V (rest := []) C (c_X6_takeToldYears l D b h a1 a2 a3 a4 a5 a6 s0 s1 s2 s3 u2 k0 g0 t0 u1 u3 pe n td ys la ri kd dy nd co od wo ln sz it tl im sheet.toNatClampNeg i.toNatClampNeg m.toNatClampNeg (by omega) (by omega) (by omega) (dis_sub h0 [0, 1, 2, 3, 4, 5, 6, 7, 8, 9, 10, 11, 12] (by decide) rfl)) ok_X6_takeToldYears wn_X6_takeToldYears wl_X6_takeToldYears wm_X6_231 [0, 1, 2, 3, 4, 5, 6, 7, 8, 9, 10, 11, 12] 0 rfl rfl rfl ⟨Nat.le_of_ble_eq_true rfl, Nat.le_of_ble_eq_true rfl⟩ rfl rfl (Nat.le_of_ble_eq_true rfl) dX6_net_63) rfl rfl rfl rfl rfl ?_
            refine r_ifne C (tgt := 72) dX6_net_66 (by decide) (fun c10 => ?_) (fun c10 => ?_)
            · rw [if_neg c10] at hv
              refine r_aln C dX6_net_72 rfl 1 rfl ?_
              refine gf_X6_10 C 0 rfl rfl dX6_net_73 ?_
              refine r_iln C dX6_net_76 rfl 2 rfl ?_
              refine r_aln C dX6_net_77 rfl 1 rfl ?_
              refine gf_X6_10 C 0 rfl rfl dX6_net_78 ?_
              refine gf_X6_79 C 1 rfl rfl dX6_net_81 ?_
              refine r_iln C dX6_net_84 rfl 2 rfl ?_
              refine r_iald C 3 deed.toNatClampNeg rfl e2.1 (by omega) (by decide) rfl dX6_net_85 ?_
              refine r_stk (st2 := [.int (dy deed.toNatClampNeg), .int (nI deed.toNatClampNeg), .ref h]) (congrArg (fun (z : Int32) => ([.int (dy deed.toNatClampNeg), .int z, .ref h] : List Value)) e2.1) ?_
              refine aft_rd (st' := [.int (s_X5_needable dy deed.toNatClampNeg (dy deed.toNatClampNeg))]) (run_VN (rest := []) C (c_X5_needable l D h a1 a2 a3 a4 a5 a6 pe n td ys la ri kd dy nd co od wo deed.toNatClampNeg (dy deed.toNatClampNeg) (by omega) (by omega)) ok_X5_needable wn_X5_needable wl_X5_needable wm_X6_61 [1, 2, 3, 4, 5, 6, 7] 0 rfl rfl rfl ⟨Nat.le_of_ble_eq_true rfl, Nat.le_of_ble_eq_true rfl⟩ rfl rfl (Nat.le_of_ble_eq_true rfl) dX6_net_86) rfl ?_
              refine r_top (nn_nI (isSet_nn hn (isSet_needable (number := deed.toNatClampNeg) hn (by omega) dy (dy deed.toNatClampNeg))).1) ?_
              have hO := (isSet_nn hn (isSet_needable (number := deed.toNatClampNeg) hn (by omega) dy (dy deed.toNatClampNeg))).2.2
              refine r_is C (lv' := [(8, .int (nI ((s_X5_needable dy deed.toNatClampNeg (dy deed.toNatClampNeg)).toNatClampNeg))), (7, .int (s_X2_faultOf ln sz sheet lane i m)), (0, .ref b), (1, .int deed), (2, .int sheet), (3, .int lane), (4, .int i), (5, .int m), (6, .int what)]) dX6_net_89 (by decide) rfl ?_
              refine r_ic C (v := (0 : Int32)) dX6_net_91 (by decide) ?_
              refine r_is C (lv' := [(9, .int (0 : Int32)), (8, .int (nI ((s_X5_needable dy deed.toNatClampNeg (dy deed.toNatClampNeg)).toNatClampNeg))), (7, .int (s_X2_faultOf ln sz sheet lane i m)), (0, .ref b), (1, .int deed), (2, .int sheet), (3, .int lane), (4, .int i), (5, .int m), (6, .int what)]) dX6_net_92 (by decide) rfl ?_
              refine r_bp C (v := (-4 : Int32)) dX6_net_94 (by decide) ?_
              refine r_is C (lv' := [(10, .int (-4 : Int32)), (9, .int (0 : Int32)), (8, .int (nI ((s_X5_needable dy deed.toNatClampNeg (dy deed.toNatClampNeg)).toNatClampNeg))), (7, .int (s_X2_faultOf ln sz sheet lane i m)), (0, .ref b), (1, .int deed), (2, .int sheet), (3, .int lane), (4, .int i), (5, .int m), (6, .int what)]) dX6_net_96 (by decide) rfl ?_
              refine r_il C dX6_net_98 2 rfl ?_
              refine r_is C (lv' := [(11, .int (nI ((s_X5_needable dy deed.toNatClampNeg (dy deed.toNatClampNeg)).toNatClampNeg))), (10, .int (-4 : Int32)), (9, .int (0 : Int32)), (8, .int (nI ((s_X5_needable dy deed.toNatClampNeg (dy deed.toNatClampNeg)).toNatClampNeg))), (7, .int (s_X2_faultOf ln sz sheet lane i m)), (0, .ref b), (1, .int deed), (2, .int sheet), (3, .int lane), (4, .int i), (5, .int m), (6, .int what)]) dX6_net_100 (by decide) rfl ?_
              have L21 : ∀ (k11 : Nat) (cnt_13 : Int32) (least_14 : Int32), (k11 ≤ (s_X5_needable dy deed.toNatClampNeg (dy deed.toNatClampNeg)).toNatClampNeg + 1) → (if what = (0 : Int32) then (((s_X6_net_L102 n kd dy it tl deed sheet i m k11 cnt_13 least_14).1), (s_X6_takeToldYears n it tl sheet.toNatClampNeg i.toNatClampNeg m.toNatClampNeg).2) else (((s_X6_net_L102 n kd dy it tl deed sheet i m k11 cnt_13 least_14).2), (s_X6_takeToldYears n it tl sheet.toNatClampNeg i.toNatClampNeg m.toNatClampNeg).2)) = V → GM p_ l e_ s_ m_ below_ meth_ c_ D 2 49 12 [.ref b, .int deed, .int sheet, .int lane, .int i, .int m, .int what] (wBNS2 D b h a1 a2 a3 a4 a5 a6 s0 s1 s2 s3 u2 k0 g0 t0 u1 u3 pe n td ys la ri kd dy nd co od wo ln sz it V.2 im) (Ad (wBNS2 D b h a1 a2 a3 a4 a5 a6 s0 s1 s2 s3 u2 k0 g0 t0 u1 u3 pe n td ys la ri kd dy nd co od wo ln sz it tl im)) (some (Value.int V.1)) (wBNS2 D b h a1 a2 a3 a4 a5 a6 s0 s1 s2 s3 u2 k0 g0 t0 u1 u3 pe n td ys la ri kd dy nd co od wo ln sz it ((s_X6_takeToldYears n it tl sheet.toNatClampNeg i.toNatClampNeg m.toNatClampNeg).2) im) 102 [(11, .int (dm k11)), (10, .int least_14), (9, .int cnt_13), (8, .int (nI ((s_X5_needable dy deed.toNatClampNeg (dy deed.toNatClampNeg)).toNatClampNeg))), (7, .int (s_X2_faultOf ln sz sheet lane i m)), (0, .ref b), (1, .int deed), (2, .int sheet), (3, .int lane), (4, .int i), (5, .int m), (6, .int what)] [] := by
                intro k11
                induction k11 with
                | zero =>
                  intro cnt_13 least_14 hk hv
                  have hv : (if what = (0 : Int32) then (cnt_13, (s_X6_takeToldYears n it tl sheet.toNatClampNeg i.toNatClampNeg m.toNatClampNeg).2) else (least_14, (s_X6_takeToldYears n it tl sheet.toNatClampNeg i.toNatClampNeg m.toNatClampNeg).2)) = V := hv
                  refine r_lve (lv2 := [(11, .int (-1 : Int32)), (10, .int least_14), (9, .int cnt_13), (8, .int (nI ((s_X5_needable dy deed.toNatClampNeg (dy deed.toNatClampNeg)).toNatClampNeg))), (7, .int (s_X2_faultOf ln sz sheet lane i m)), (0, .ref b), (1, .int deed), (2, .int sheet), (3, .int lane), (4, .int i), (5, .int m), (6, .int what)]) rfl ?_
                  refine r_il C dX6_net_102 0 rfl ?_
                  refine r_iflt C (tgt := 156) dX6_net_104 (by decide) (fun c15 => ?_) (fun c15 => ?_)
                  · skip
                    refine r_il C dX6_net_156 11 rfl ?_
                    refine r_ifne C (tgt := 166) dX6_net_158 (by decide) (fun c16 => ?_) (fun c16 => ?_)
                    · rw [if_neg c16] at hv
                      refine r_il C dX6_net_166 1 rfl ?_
                      exact r_iret rfl C (by rw [← hv]) (by rw [← hv]) dX6_net_168
                    · rw [if_pos c16] at hv
                      refine r_il C dX6_net_161 2 rfl ?_
                      refine r_goto C (tgt := 168) dX6_net_163 (by decide) ?_
                      exact r_iret rfl C (by rw [← hv]) (by rw [← hv]) dX6_net_168
                  · exact absurd (by decide) c15
                | succ k11 ih17 =>
                  intro cnt_13 least_14 hk hv
                  have hv : (if what = (0 : Int32) then (((if s_X6_isWithin (nI k11) (nI ((s_X5_needable dy deed.toNatClampNeg (dy deed.toNatClampNeg)).toNatClampNeg)) = (0 : Int32) then (s_X6_net_L102 n kd dy it tl deed sheet i m k11 cnt_13 least_14) else (if s_X1_fits ((s_X6_takeToldYears n it tl sheet.toNatClampNeg i.toNatClampNeg m.toNatClampNeg).2) (kd deed.toNatClampNeg) (nI k11) ((1 : Int32) <<< (deed &&& 31)) m.toNatClampNeg = (0 : Int32) then (s_X6_net_L102 n kd dy it tl deed sheet i m k11 cnt_13 least_14) else (s_X6_net_L102 n kd dy it tl deed sheet i m k11 (cnt_13 + (1 : Int32)) (nI k11)))).1), (s_X6_takeToldYears n it tl sheet.toNatClampNeg i.toNatClampNeg m.toNatClampNeg).2) else (((if s_X6_isWithin (nI k11) (nI ((s_X5_needable dy deed.toNatClampNeg (dy deed.toNatClampNeg)).toNatClampNeg)) = (0 : Int32) then (s_X6_net_L102 n kd dy it tl deed sheet i m k11 cnt_13 least_14) else (if s_X1_fits ((s_X6_takeToldYears n it tl sheet.toNatClampNeg i.toNatClampNeg m.toNatClampNeg).2) (kd deed.toNatClampNeg) (nI k11) ((1 : Int32) <<< (deed &&& 31)) m.toNatClampNeg = (0 : Int32) then (s_X6_net_L102 n kd dy it tl deed sheet i m k11 cnt_13 least_14) else (s_X6_net_L102 n kd dy it tl deed sheet i m k11 (cnt_13 + (1 : Int32)) (nI k11)))).2), (s_X6_takeToldYears n it tl sheet.toNatClampNeg i.toNatClampNeg m.toNatClampNeg).2)) = V := hv
                  refine r_lve (lv2 := [(11, .int (nI k11)), (10, .int least_14), (9, .int cnt_13), (8, .int (nI ((s_X5_needable dy deed.toNatClampNeg (dy deed.toNatClampNeg)).toNatClampNeg))), (7, .int (s_X2_faultOf ln sz sheet lane i m)), (0, .ref b), (1, .int deed), (2, .int sheet), (3, .int lane), (4, .int i), (5, .int m), (6, .int what)]) rfl ?_
                  refine r_il C dX6_net_102 0 rfl ?_
                  refine r_iflt C (tgt := 156) dX6_net_104 (by decide) (fun c18 => ?_) (fun c18 => ?_)
                  · exact absurd c18 (fun z => absurd ((nv_lt (a := k11) (b := 0) rfl rfl (by omega) (by omega)).mp z) (by omega))
                  · skip
                    refine r_il C dX6_net_107 0 rfl ?_
                    refine r_il C dX6_net_109 3 rfl ?_
                    refine aft_rd (st' := [.int (s_X6_isWithin (nI k11) (nI ((s_X5_needable dy deed.toNatClampNeg (dy deed.toNatClampNeg)).toNatClampNeg)))]) (run_S (rest := []) C (c_X6_isWithin l D (nI k11) (nI ((s_X5_needable dy deed.toNatClampNeg (dy deed.toNatClampNeg)).toNatClampNeg)) ) ok_X6_isWithin ws_X6_isWithin wm_X6_65 [] rfl ⟨Nat.le_of_ble_eq_true rfl, Nat.le_of_ble_eq_true rfl⟩ rfl rfl (Nat.le_of_ble_eq_true rfl) dX6_net_111) rfl ?_
                    refine r_ifeq C (tgt := 150) dX6_net_114 (by decide) (fun c19 => ?_) (fun c19 => ?_)
                    · rw [if_pos c19] at hv
                      refine r_inc C (v := (nI k11) + (-1 : Int32)) (lv' := [(11, .int ((nI k11) + (-1 : Int32))), (10, .int least_14), (9, .int cnt_13), (8, .int (nI ((s_X5_needable dy deed.toNatClampNeg (dy deed.toNatClampNeg)).toNatClampNeg))), (7, .int (s_X2_faultOf ln sz sheet lane i m)), (0, .ref b), (1, .int deed), (2, .int sheet), (3, .int lane), (4, .int i), (5, .int m), (6, .int what)]) dX6_net_150 0 rfl (by rfl) (by decide) rfl ?_
                      refine r_goto C (tgt := 102) dX6_net_153 (by decide) ?_
                      refine r_lve (lv2 := [(11, .int (dm k11)), (10, .int least_14), (9, .int cnt_13), (8, .int (nI ((s_X5_needable dy deed.toNatClampNeg (dy deed.toNatClampNeg)).toNatClampNeg))), (7, .int (s_X2_faultOf ln sz sheet lane i m)), (0, .ref b), (1, .int deed), (2, .int sheet), (3, .int lane), (4, .int i), (5, .int m), (6, .int what)]) (congrArg (fun (z : Int32) => ([(11, .int z), (10, .int least_14), (9, .int cnt_13), (8, .int (nI ((s_X5_needable dy deed.toNatClampNeg (dy deed.toNatClampNeg)).toNatClampNeg))), (7, .int (s_X2_faultOf ln sz sheet lane i m)), (0, .ref b), (1, .int deed), (2, .int sheet), (3, .int lane), (4, .int i), (5, .int m), (6, .int what)] : List (Nat × Value))) (dm_dec k11)) ?_
                      exact ih17 cnt_13 least_14 (by omega) hv
                    · rw [if_neg c19] at hv
                      refine r_aln C dX6_net_117 rfl 5 rfl ?_
                      refine gf_X6_10 C 0 rfl rfl dX6_net_118 ?_
                      refine gf_X6_76 C 1 rfl rfl dX6_net_121 ?_
                      refine r_iln C dX6_net_124 rfl 6 rfl ?_
                      refine r_iald C 2 deed.toNatClampNeg rfl e2.1 (by omega) (by decide) rfl dX6_net_125 ?_
                      refine r_il C dX6_net_126 0 rfl ?_
                      refine r_ic C (v := (1 : Int32)) dX6_net_128 (by decide) ?_
                      refine r_iln C dX6_net_129 rfl 6 rfl ?_
                      refine r_ishl C dX6_net_130 ?_
                      refine r_aln C dX6_net_131 rfl 5 rfl ?_
                      refine gf_X6_40 C 0 rfl rfl dX6_net_132 ?_
                      refine r_il C dX6_net_135 10 rfl ?_
                      refine r_stk (st2 := [.int (nI m.toNatClampNeg), .ref u2, .int ((1 : Int32) <<< (deed &&& 31)), .int (nI k11), .int (kd deed.toNatClampNeg)]) (congrArg (fun (z : Int32) => ([.int z, .ref u2, .int ((1 : Int32) <<< (deed &&& 31)), .int (nI k11), .int (kd deed.toNatClampNeg)] : List Value)) e5.1) ?_
                      refine aft_rd (st' := [.int (s_X1_fits ((s_X6_takeToldYears n it tl sheet.toNatClampNeg i.toNatClampNeg m.toNatClampNeg).2) (kd deed.toNatClampNeg) (nI k11) ((1 : Int32) <<< (deed &&& 31)) m.toNatClampNeg)]) (run_SN (rest := []) C (c_X1_fits l D u2 ((s_X6_takeToldYears n it tl sheet.toNatClampNeg i.toNatClampNeg m.toNatClampNeg).2) (kd deed.toNatClampNeg) (nI k11) ((1 : Int32) <<< (deed &&& 31)) m.toNatClampNeg (by omega)) ok_X1_fits ws_X1_fits wm_X6_234 [12] rfl ⟨Nat.le_of_ble_eq_true rfl, Nat.le_of_ble_eq_true rfl⟩ rfl rfl (Nat.le_of_ble_eq_true rfl) dX6_net_137) rfl ?_
                      refine r_ifeq C (tgt := 150) dX6_net_140 (by decide) (fun c20 => ?_) (fun c20 => ?_)
                      · rw [if_pos c20] at hv
                        refine r_inc C (v := (nI k11) + (-1 : Int32)) (lv' := [(11, .int ((nI k11) + (-1 : Int32))), (10, .int least_14), (9, .int cnt_13), (8, .int (nI ((s_X5_needable dy deed.toNatClampNeg (dy deed.toNatClampNeg)).toNatClampNeg))), (7, .int (s_X2_faultOf ln sz sheet lane i m)), (0, .ref b), (1, .int deed), (2, .int sheet), (3, .int lane), (4, .int i), (5, .int m), (6, .int what)]) dX6_net_150 0 rfl (by rfl) (by decide) rfl ?_
                        refine r_goto C (tgt := 102) dX6_net_153 (by decide) ?_
                        refine r_lve (lv2 := [(11, .int (dm k11)), (10, .int least_14), (9, .int cnt_13), (8, .int (nI ((s_X5_needable dy deed.toNatClampNeg (dy deed.toNatClampNeg)).toNatClampNeg))), (7, .int (s_X2_faultOf ln sz sheet lane i m)), (0, .ref b), (1, .int deed), (2, .int sheet), (3, .int lane), (4, .int i), (5, .int m), (6, .int what)]) (congrArg (fun (z : Int32) => ([(11, .int z), (10, .int least_14), (9, .int cnt_13), (8, .int (nI ((s_X5_needable dy deed.toNatClampNeg (dy deed.toNatClampNeg)).toNatClampNeg))), (7, .int (s_X2_faultOf ln sz sheet lane i m)), (0, .ref b), (1, .int deed), (2, .int sheet), (3, .int lane), (4, .int i), (5, .int m), (6, .int what)] : List (Nat × Value))) (dm_dec k11)) ?_
                        exact ih17 cnt_13 least_14 (by omega) hv
                      · rw [if_neg c20] at hv
                        refine r_inc C (v := cnt_13 + (1 : Int32)) (lv' := [(9, .int (cnt_13 + (1 : Int32))), (11, .int (nI k11)), (10, .int least_14), (8, .int (nI ((s_X5_needable dy deed.toNatClampNeg (dy deed.toNatClampNeg)).toNatClampNeg))), (7, .int (s_X2_faultOf ln sz sheet lane i m)), (0, .ref b), (1, .int deed), (2, .int sheet), (3, .int lane), (4, .int i), (5, .int m), (6, .int what)]) dX6_net_143 2 rfl (by rfl) (by decide) rfl ?_
                        refine r_il C dX6_net_146 1 rfl ?_
                        refine r_is C (lv' := [(10, .int (nI k11)), (9, .int (cnt_13 + (1 : Int32))), (11, .int (nI k11)), (8, .int (nI ((s_X5_needable dy deed.toNatClampNeg (dy deed.toNatClampNeg)).toNatClampNeg))), (7, .int (s_X2_faultOf ln sz sheet lane i m)), (0, .ref b), (1, .int deed), (2, .int sheet), (3, .int lane), (4, .int i), (5, .int m), (6, .int what)]) dX6_net_148 (by decide) rfl ?_
                        refine r_inc C (v := (nI k11) + (-1 : Int32)) (lv' := [(11, .int ((nI k11) + (-1 : Int32))), (10, .int (nI k11)), (9, .int (cnt_13 + (1 : Int32))), (8, .int (nI ((s_X5_needable dy deed.toNatClampNeg (dy deed.toNatClampNeg)).toNatClampNeg))), (7, .int (s_X2_faultOf ln sz sheet lane i m)), (0, .ref b), (1, .int deed), (2, .int sheet), (3, .int lane), (4, .int i), (5, .int m), (6, .int what)]) dX6_net_150 2 rfl (by rfl) (by decide) rfl ?_
                        refine r_goto C (tgt := 102) dX6_net_153 (by decide) ?_
                        refine r_lve (lv2 := [(11, .int (dm k11)), (10, .int (nI k11)), (9, .int (cnt_13 + (1 : Int32))), (8, .int (nI ((s_X5_needable dy deed.toNatClampNeg (dy deed.toNatClampNeg)).toNatClampNeg))), (7, .int (s_X2_faultOf ln sz sheet lane i m)), (0, .ref b), (1, .int deed), (2, .int sheet), (3, .int lane), (4, .int i), (5, .int m), (6, .int what)]) (congrArg (fun (z : Int32) => ([(11, .int z), (10, .int (nI k11)), (9, .int (cnt_13 + (1 : Int32))), (8, .int (nI ((s_X5_needable dy deed.toNatClampNeg (dy deed.toNatClampNeg)).toNatClampNeg))), (7, .int (s_X2_faultOf ln sz sheet lane i m)), (0, .ref b), (1, .int deed), (2, .int sheet), (3, .int lane), (4, .int i), (5, .int m), (6, .int what)] : List (Nat × Value))) (dm_dec k11)) ?_
                        exact ih17 (cnt_13 + (1 : Int32)) (nI k11) (by omega) hv
              refine r_lve (lv2 := [(11, .int (dm ((s_X5_needable dy deed.toNatClampNeg (dy deed.toNatClampNeg)).toNatClampNeg + 1))), (10, .int (-4 : Int32)), (9, .int (0 : Int32)), (8, .int (nI ((s_X5_needable dy deed.toNatClampNeg (dy deed.toNatClampNeg)).toNatClampNeg))), (7, .int (s_X2_faultOf ln sz sheet lane i m)), (0, .ref b), (1, .int deed), (2, .int sheet), (3, .int lane), (4, .int i), (5, .int m), (6, .int what)]) rfl ?_
              exact L21 ((s_X5_needable dy deed.toNatClampNeg (dy deed.toNatClampNeg)).toNatClampNeg + 1) (0 : Int32) (-4 : Int32) (by omega) hv
            · rw [if_pos c10] at hv
              refine r_bp C (v := (-2 : Int32)) dX6_net_69 (by decide) ?_
              exact r_iret rfl C (by rw [← hv]) (by rw [← hv]) dX6_net_71
          · rw [if_neg c7] at hv
            refine r_il C dX6_net_54 0 rfl ?_
            exact r_iret rfl C (by rw [← hv]) (by rw [← hv]) dX6_net_56
        · rw [if_pos c6] at hv
          refine r_ic C (v := (-1 : Int32)) dX6_net_32 (by decide) ?_
          exact r_iret rfl C (by rw [← hv]) (by rw [← hv]) dX6_net_33
