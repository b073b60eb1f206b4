/-! THE CLASS: first, last, back, acceleration, limit, speed, sum, below. -/
set_option maxHeartbeats 4000000 in
set_option maxRecDepth 100000 in
theorem c_X0_first (l : Launch) (dC : Nat → ClassId) (dI : Nat → Nat → Nat) (x a1 a2 a3 a4 a5 : Nat) (z1 z2 z3 z4 z5 : ClassId) (sz : Nat) (mo cf cl ac : Nat) (st : Int32) (T F G L S : Nat → Int32) (px py pz : Int32) : Met l yX0_first wsX0_first ({ frames := 2, cells := 0, slots := 0, locals := 44 }) (sr_pre dC dI (sr_tX z1 z2 z3 z4 z5) (sr_wX x a1 a2 a3 a4 a5 z1 z2 z3 z4 z5 mo cf cl ac st T F G L S) sz [.ref x, .int px, .int py, .int pz]) (va_Qi (fun (r : Int32) (u : va_W) => (sr_isS px py pz ∧ r = 1 ∧ ∃ q, sr_ok q ∧ px = sr_dg q 0 ∧ py = sr_dg q 1 ∧ pz = sr_dg q 2 ∧ u = sr_wX x a1 a2 a3 a4 a5 z1 z2 z3 z4 z5 mo q cl ac st T F G L S) ∨ (¬ sr_isS px py pz ∧ r = 0 ∧ u = sr_wX x a1 a2 a3 a4 a5 z1 z2 z3 z4 z5 mo cf cl ac st T F G L S)) (sr_at dC dI (sr_tX z1 z2 z3 z4 z5) (va_A (sr_wX x a1 a2 a3 a4 a5 z1 z2 z3 z4 z5 mo cf cl ac st T F G L S) sz)) (va_A (sr_wX x a1 a2 a3 a4 a5 z1 z2 z3 z4 z5 mo cf cl ac st T F G L S) sz)) 0 0 (va_A (sr_wX x a1 a2 a3 a4 a5 z1 z2 z3 z4 z5 mo cf cl ac st T F G L S) sz) := by
  refine Met.ofW (cc := cX0_first) (maxL := 4) (ret := (some .boolean)) (by decide) rfl ?_
  intro p e s m args below meth c s₁ B hml hv
  obtain ⟨rfl, hsz, hP, hK, hD0⟩ := hv
  have hx := B.exec
  have hb := B.bytes
  have hr := B.returns
  have hts := atoms_spec (ws := wsX0_first) B.pre
  have hown : s.vm.findClass RX0 = some m.cls := findClass_of_methodNamed B.named
  have hlocks := B.notSynchronized
  subst hsz
  have hD := hD0.self (sz := s.heap.size)
  generalize hAe : va_A (sr_wX x a1 a2 a3 a4 a5 z1 z2 z3 z4 z5 mo cf cl ac st T F G L S) s.heap.size = A at hD ⊢
  have hA : ∀ q : Nat, s.heap.size ≤ q → A q := fun q h => by rw [← hAe]; exact Or.inr h
  have hS : va_S A s.heap s.heap [] := va_S.rf
  have hP : va_P (dC, dI) vwCl [(x, .inr (0, [.ref a1, .ref a2, .ref a3, .ref a4, .ref a5, .int (nI mo), .int (nI cf), .int (nI cl), .int (nI ac), .int st])), (a1, .inl (z1, 2000, .inl T)), (a2, .inl (z2, 2000, .inl F)), (a3, .inl (z3, 2000, .inl G)), (a4, .inl (z4, 2000, .inl L)), (a5, .inl (z5, 2001, .inl S))] s.heap := hP
  have hD : va_D A [(x, .inr (0, [.ref a1, .ref a2, .ref a3, .ref a4, .ref a5, .int (nI mo), .int (nI cf), .int (nI cl), .int (nI ac), .int st])), (a1, .inl (z1, 2000, .inl T)), (a2, .inl (z2, 2000, .inl F)), (a3, .inl (z3, 2000, .inl G)), (a4, .inl (z4, 2000, .inl L)), (a5, .inl (z5, 2001, .inl S))] := hD
  have hK : va_K (dC, dI) vwCl [(z1, .int), (z2, .int), (z3, .int), (z4, .int), (z5, .int)] s := hK
  have hin0 : ∀ w ∈ u_ws RX0 TX0 10, w ∈ wsX0_first := by decide +kernel
  have hl := lv_entry ([.ref x, .int px, .int py, .int pz]) (n := 4) (Nat.le_of_ble_eq_true rfl)
  rw [lg_entry_eq]
  generalize (lg_sl ([.ref x, .int px, .int py, .int pz]) ++ List.replicate (4 - (lg_sl ([.ref x, .int px, .int py, .int pz])).length) Slot.unset).toArray = ls at hl ⊢
  have hl : lv_has ls 4 [(0, .ref x), (1, .int px), (2, .int py), (3, .int pz)] := hl
  refine lv_iload_n hx hb dX0_first_0 rfl (lv_at hl 1 rfl) ?_
  refine lv_iload_n hx hb dX0_first_1 rfl (lv_at hl 2 rfl) ?_
  refine lv_iload_n hx hb dX0_first_2 rfl (lv_at hl 3 rfl) ?_
  refine vp_callSi (W.runS (As := [.int px, .int py, .int pz]) (rest := []) ⟨hx, hb, hml, hown, hts⟩ (c_X0_isStep l px py pz) (va_cwS 3 hts gX0_first_X0_isStep rfl rfl rfl (by decide +kernel) ⟨Nat.le_of_ble_eq_true rfl, Nat.le_of_ble_eq_true rfl⟩) ⟨sr_blindT, sr_mkT⟩ rfl rfl hl.1 rfl (lv_room (Nat.le_of_ble_eq_true rfl)) dX0_first_3 ⟨Nat.zero_le _, Nat.zero_le _⟩) (fun r er => ?_)
  refine lv_if_ne (tgt := 11) hx hb dX0_first_6 (by decide) (fun c1 => ?_) (fun c1 => ?_)
  · have hc : sr_isS px py pz := by
      rcases er with ⟨_, q⟩ | ⟨q, _⟩
      · exact q
      · exact absurd q c1
    obtain ⟨q, hq, e1, e2, e3⟩ := sr_step hc
    refine lv_aload_n hx hb dX0_first_11 rfl (lv_at hl 0 rfl) ?_
    refine lv_iload_n hx hb dX0_first_12 rfl (lv_at hl 1 rfl) ?_
    refine lv_iload_n hx hb dX0_first_13 rfl (lv_at hl 2 rfl) ?_
    refine lv_iload_n hx hb dX0_first_14 rfl (lv_at hl 3 rfl) ?_
    refine vp_callSi (W.runS (As := [.int px, .int py, .int pz]) (rest := [.ref x]) ⟨hx, hb, hml, hown, hts⟩ (c_X0_packed l px py pz) (va_cwS 3 hts gX0_first_X0_packed rfl rfl rfl (by decide +kernel) ⟨Nat.le_of_ble_eq_true rfl, Nat.le_of_ble_eq_true rfl⟩) ⟨sr_blindT, sr_mkT⟩ rfl rfl hl.1 rfl (lv_room (Nat.le_of_ble_eq_true rfl)) dX0_first_15 ⟨Nat.zero_le _, Nat.zero_le _⟩) (fun r2 e4 => ?_)
    refine sr_ti (y := nI q) (by rw [e4, e1, e2, e3]; exact sr_dg_pack q hq.1) ?_
    refine va_put (D := (dC, dI)) (ci := 0) (v := .int (nI q)) (ty := .int) (C := RX0) (T := TX0) (N := 10) hx hb hts hin0 tyX0 tyX0_ok nmX0 hown hK hP hD hS 0 rfl rfl 6 (by decide) (hts (.fieldLink RX0 33 "SpeedRows" "nextFirst" "I") (by decide +kernel)) (fun _ h9 => h9) rfl (by decide +kernel) rfl rfl (Nat.le_of_ble_eq_true rfl) dX0_first_18 (fun H locs hP hD hS => ?_)
    have hP : va_P (dC, dI) vwCl [(x, .inr (0, [.ref a1, .ref a2, .ref a3, .ref a4, .ref a5, .int (nI mo), .int (nI q), .int (nI cl), .int (nI ac), .int st])), (a1, .inl (z1, 2000, .inl T)), (a2, .inl (z2, 2000, .inl F)), (a3, .inl (z3, 2000, .inl G)), (a4, .inl (z4, 2000, .inl L)), (a5, .inl (z5, 2001, .inl S))] H := hP
    have hD : va_D A [(x, .inr (0, [.ref a1, .ref a2, .ref a3, .ref a4, .ref a5, .int (nI mo), .int (nI q), .int (nI cl), .int (nI ac), .int st])), (a1, .inl (z1, 2000, .inl T)), (a2, .inl (z2, 2000, .inl F)), (a3, .inl (z3, 2000, .inl G)), (a4, .inl (z4, 2000, .inl L)), (a5, .inl (z5, 2001, .inl S))] := hD
    refine lv_iconst (v := 1) hx hb dX0_first_21 (by decide) ?_
    exact W.zret (v := 1) hx hb hr rfl (fun t ht hW => ⟨⟨1, _, rfl, Or.inl ⟨hc, rfl, q, hq, e1, e2, e3, rfl⟩, by rw [ht]; exact hP, va_K.moved hW.alike hK, hD⟩, hS.F ht⟩) hS.2.2 dX0_first_22
  · have hc : ¬ (sr_isS px py pz) := by
      rcases er with ⟨q, _⟩ | ⟨_, q⟩
      · exact absurd (q.symm.trans c1) (by decide)
      · exact q
    refine lv_iconst (v := 0) hx hb dX0_first_9 (by decide) ?_
    exact W.zret (v := 0) hx hb hr rfl (fun t ht hW => ⟨⟨0, _, rfl, Or.inr ⟨hc, rfl, rfl⟩, by rw [ht]; exact hP, va_K.moved hW.alike hK, hD⟩, hS.F ht⟩) hS.2.2 dX0_first_10
set_option maxHeartbeats 4000000 in
set_option maxRecDepth 100000 in
theorem c_X0_last (l : Launch) (dC : Nat → ClassId) (dI : Nat → Nat → Nat) (x a1 a2 a3 a4 a5 : Nat) (z1 z2 z3 z4 z5 : ClassId) (sz : Nat) (mo cf cl ac : Nat) (st : Int32) (T F G L S : Nat → Int32) (px py pz : Int32) : Met l yX0_last wsX0_last ({ frames := 2, cells := 0, slots := 0, locals := 44 }) (sr_pre dC dI (sr_tX z1 z2 z3 z4 z5) (sr_wX x a1 a2 a3 a4 a5 z1 z2 z3 z4 z5 mo cf cl ac st T F G L S) sz [.ref x, .int px, .int py, .int pz]) (va_Qi (fun (r : Int32) (u : va_W) => (sr_isS px py pz ∧ r = 1 ∧ ∃ q, sr_ok q ∧ px = sr_dg q 0 ∧ py = sr_dg q 1 ∧ pz = sr_dg q 2 ∧ u = sr_wX x a1 a2 a3 a4 a5 z1 z2 z3 z4 z5 mo cf q ac st T F G L S) ∨ (¬ sr_isS px py pz ∧ r = 0 ∧ u = sr_wX x a1 a2 a3 a4 a5 z1 z2 z3 z4 z5 mo cf cl ac st T F G L S)) (sr_at dC dI (sr_tX z1 z2 z3 z4 z5) (va_A (sr_wX x a1 a2 a3 a4 a5 z1 z2 z3 z4 z5 mo cf cl ac st T F G L S) sz)) (va_A (sr_wX x a1 a2 a3 a4 a5 z1 z2 z3 z4 z5 mo cf cl ac st T F G L S) sz)) 0 0 (va_A (sr_wX x a1 a2 a3 a4 a5 z1 z2 z3 z4 z5 mo cf cl ac st T F G L S) sz) := by
  refine Met.ofW (cc := cX0_last) (maxL := 4) (ret := (some .boolean)) (by decide) rfl ?_
  intro p e s m args below meth c s₁ B hml hv
  obtain ⟨rfl, hsz, hP, hK, hD0⟩ := hv
  have hx := B.exec
  have hb := B.bytes
  have hr := B.returns
  have hts := atoms_spec (ws := wsX0_last) B.pre
  have hown : s.vm.findClass RX0 = some m.cls := findClass_of_methodNamed B.named
  have hlocks := B.notSynchronized
  subst hsz
  have hD := hD0.self (sz := s.heap.size)
  generalize hAe : va_A (sr_wX x a1 a2 a3 a4 a5 z1 z2 z3 z4 z5 mo cf cl ac st T F G L S) s.heap.size = A at hD ⊢
  have hA : ∀ q : Nat, s.heap.size ≤ q → A q := fun q h => by rw [← hAe]; exact Or.inr h
  have hS : va_S A s.heap s.heap [] := va_S.rf
  have hP : va_P (dC, dI) vwCl [(x, .inr (0, [.ref a1, .ref a2, .ref a3, .ref a4, .ref a5, .int (nI mo), .int (nI cf), .int (nI cl), .int (nI ac), .int st])), (a1, .inl (z1, 2000, .inl T)), (a2, .inl (z2, 2000, .inl F)), (a3, .inl (z3, 2000, .inl G)), (a4, .inl (z4, 2000, .inl L)), (a5, .inl (z5, 2001, .inl S))] s.heap := hP
  have hD : va_D A [(x, .inr (0, [.ref a1, .ref a2, .ref a3, .ref a4, .ref a5, .int (nI mo), .int (nI cf), .int (nI cl), .int (nI ac), .int st])), (a1, .inl (z1, 2000, .inl T)), (a2, .inl (z2, 2000, .inl F)), (a3, .inl (z3, 2000, .inl G)), (a4, .inl (z4, 2000, .inl L)), (a5, .inl (z5, 2001, .inl S))] := hD
  have hK : va_K (dC, dI) vwCl [(z1, .int), (z2, .int), (z3, .int), (z4, .int), (z5, .int)] s := hK
  have hin0 : ∀ w ∈ u_ws RX0 TX0 10, w ∈ wsX0_last := by decide +kernel
  have hl := lv_entry ([.ref x, .int px, .int py, .int pz]) (n := 4) (Nat.le_of_ble_eq_true rfl)
  rw [lg_entry_eq]
  generalize (lg_sl ([.ref x, .int px, .int py, .int pz]) ++ List.replicate (4 - (lg_sl ([.ref x, .int px, .int py, .int pz])).length) Slot.unset).toArray = ls at hl ⊢
  have hl : lv_has ls 4 [(0, .ref x), (1, .int px), (2, .int py), (3, .int pz)] := hl
  refine lv_iload_n hx hb dX0_last_0 rfl (lv_at hl 1 rfl) ?_
  refine lv_iload_n hx hb dX0_last_1 rfl (lv_at hl 2 rfl) ?_
  refine lv_iload_n hx hb dX0_last_2 rfl (lv_at hl 3 rfl) ?_
  refine vp_callSi (W.runS (As := [.int px, .int py, .int pz]) (rest := []) ⟨hx, hb, hml, hown, hts⟩ (c_X0_isStep l px py pz) (va_cwS 3 hts gX0_last_X0_isStep rfl rfl rfl (by decide +kernel) ⟨Nat.le_of_ble_eq_true rfl, Nat.le_of_ble_eq_true rfl⟩) ⟨sr_blindT, sr_mkT⟩ rfl rfl hl.1 rfl (lv_room (Nat.le_of_ble_eq_true rfl)) dX0_last_3 ⟨Nat.zero_le _, Nat.zero_le _⟩) (fun r er => ?_)
  refine lv_if_ne (tgt := 11) hx hb dX0_last_6 (by decide) (fun c1 => ?_) (fun c1 => ?_)
  · have hc : sr_isS px py pz := by
      rcases er with ⟨_, q⟩ | ⟨q, _⟩
      · exact q
      · exact absurd q c1
    obtain ⟨q, hq, e1, e2, e3⟩ := sr_step hc
    refine lv_aload_n hx hb dX0_last_11 rfl (lv_at hl 0 rfl) ?_
    refine lv_iload_n hx hb dX0_last_12 rfl (lv_at hl 1 rfl) ?_
    refine lv_iload_n hx hb dX0_last_13 rfl (lv_at hl 2 rfl) ?_
    refine lv_iload_n hx hb dX0_last_14 rfl (lv_at hl 3 rfl) ?_
    refine vp_callSi (W.runS (As := [.int px, .int py, .int pz]) (rest := [.ref x]) ⟨hx, hb, hml, hown, hts⟩ (c_X0_packed l px py pz) (va_cwS 3 hts gX0_last_X0_packed rfl rfl rfl (by decide +kernel) ⟨Nat.le_of_ble_eq_true rfl, Nat.le_of_ble_eq_true rfl⟩) ⟨sr_blindT, sr_mkT⟩ rfl rfl hl.1 rfl (lv_room (Nat.le_of_ble_eq_true rfl)) dX0_last_15 ⟨Nat.zero_le _, Nat.zero_le _⟩) (fun r2 e4 => ?_)
    refine sr_ti (y := nI q) (by rw [e4, e1, e2, e3]; exact sr_dg_pack q hq.1) ?_
    refine va_put (D := (dC, dI)) (ci := 0) (v := .int (nI q)) (ty := .int) (C := RX0) (T := TX0) (N := 10) hx hb hts hin0 tyX0 tyX0_ok nmX0 hown hK hP hD hS 0 rfl rfl 7 (by decide) (hts (.fieldLink RX0 36 "SpeedRows" "nextLast" "I") (by decide +kernel)) (fun _ h9 => h9) rfl (by decide +kernel) rfl rfl (Nat.le_of_ble_eq_true rfl) dX0_last_18 (fun H locs hP hD hS => ?_)
    have hP : va_P (dC, dI) vwCl [(x, .inr (0, [.ref a1, .ref a2, .ref a3, .ref a4, .ref a5, .int (nI mo), .int (nI cf), .int (nI q), .int (nI ac), .int st])), (a1, .inl (z1, 2000, .inl T)), (a2, .inl (z2, 2000, .inl F)), (a3, .inl (z3, 2000, .inl G)), (a4, .inl (z4, 2000, .inl L)), (a5, .inl (z5, 2001, .inl S))] H := hP
    have hD : va_D A [(x, .inr (0, [.ref a1, .ref a2, .ref a3, .ref a4, .ref a5, .int (nI mo), .int (nI cf), .int (nI q), .int (nI ac), .int st])), (a1, .inl (z1, 2000, .inl T)), (a2, .inl (z2, 2000, .inl F)), (a3, .inl (z3, 2000, .inl G)), (a4, .inl (z4, 2000, .inl L)), (a5, .inl (z5, 2001, .inl S))] := hD
    refine lv_iconst (v := 1) hx hb dX0_last_21 (by decide) ?_
    exact W.zret (v := 1) hx hb hr rfl (fun t ht hW => ⟨⟨1, _, rfl, Or.inl ⟨hc, rfl, q, hq, e1, e2, e3, rfl⟩, by rw [ht]; exact hP, va_K.moved hW.alike hK, hD⟩, hS.F ht⟩) hS.2.2 dX0_last_22
  · have hc : ¬ (sr_isS px py pz) := by
      rcases er with ⟨q, _⟩ | ⟨_, q⟩
      · exact absurd (q.symm.trans c1) (by decide)
      · exact q
    refine lv_iconst (v := 0) hx hb dX0_last_9 (by decide) ?_
    exact W.zret (v := 0) hx hb hr rfl (fun t ht hW => ⟨⟨0, _, rfl, Or.inr ⟨hc, rfl, rfl⟩, by rw [ht]; exact hP, va_K.moved hW.alike hK, hD⟩, hS.F ht⟩) hS.2.2 dX0_last_10
set_option maxHeartbeats 4000000 in
set_option maxRecDepth 100000 in
theorem c_X0_back (l : Launch) (dC : Nat → ClassId) (dI : Nat → Nat → Nat) (x a1 a2 a3 a4 a5 : Nat) (z1 z2 z3 z4 z5 : ClassId) (sz : Nat) (mo cf cl ac : Nat) (st : Int32) (T F G L S : Nat → Int32) (n : Int32) (hmo : mo ≤ 2000) : Met l yX0_back wsX0_back ({ frames := 1, cells := 0, slots := 0, locals := 22 }) (sr_pre dC dI (sr_tX z1 z2 z3 z4 z5) (sr_wX x a1 a2 a3 a4 a5 z1 z2 z3 z4 z5 mo cf cl ac st T F G L S) sz [.ref x, .int n]) (va_Qi (fun (r : Int32) (u : va_W) => ((0 ≤ n ∧ n ≤ nI mo) ∧ r = nI (mo - n.toNatClampNeg) ∧ u = sr_wX x a1 a2 a3 a4 a5 z1 z2 z3 z4 z5 (mo - n.toNatClampNeg) cf cl ac 0 T F G L S) ∨ (¬ (0 ≤ n ∧ n ≤ nI mo) ∧ r = -1 ∧ u = sr_wX x a1 a2 a3 a4 a5 z1 z2 z3 z4 z5 mo cf cl ac st T F G L S)) (sr_at dC dI (sr_tX z1 z2 z3 z4 z5) (va_A (sr_wX x a1 a2 a3 a4 a5 z1 z2 z3 z4 z5 mo cf cl ac st T F G L S) sz)) (va_A (sr_wX x a1 a2 a3 a4 a5 z1 z2 z3 z4 z5 mo cf cl ac st T F G L S) sz)) 0 0 (va_A (sr_wX x a1 a2 a3 a4 a5 z1 z2 z3 z4 z5 mo cf cl ac st T F G L S) sz) := by
  refine Met.ofW (cc := cX0_back) (maxL := 2) (ret := (some .int)) (by decide) rfl ?_
  intro p e s m args below meth c s₁ B hml hv
  obtain ⟨rfl, hsz, hP, hK, hD0⟩ := hv
  have hx := B.exec
  have hb := B.bytes
  have hr := B.returns
  have hts := atoms_spec (ws := wsX0_back) B.pre
  have hown : s.vm.findClass RX0 = some m.cls := findClass_of_methodNamed B.named
  have hlocks := B.notSynchronized
  subst hsz
  have hD := hD0.self (sz := s.heap.size)
  generalize hAe : va_A (sr_wX x a1 a2 a3 a4 a5 z1 z2 z3 z4 z5 mo cf cl ac st T F G L S) s.heap.size = A at hD ⊢
  have hA : ∀ q : Nat, s.heap.size ≤ q → A q := fun q h => by rw [← hAe]; exact Or.inr h
  have hS : va_S A s.heap s.heap [] := va_S.rf
  have hP : va_P (dC, dI) vwCl [(x, .inr (0, [.ref a1, .ref a2, .ref a3, .ref a4, .ref a5, .int (nI mo), .int (nI cf), .int (nI cl), .int (nI ac), .int st])), (a1, .inl (z1, 2000, .inl T)), (a2, .inl (z2, 2000, .inl F)), (a3, .inl (z3, 2000, .inl G)), (a4, .inl (z4, 2000, .inl L)), (a5, .inl (z5, 2001, .inl S))] s.heap := hP
  have hD : va_D A [(x, .inr (0, [.ref a1, .ref a2, .ref a3, .ref a4, .ref a5, .int (nI mo), .int (nI cf), .int (nI cl), .int (nI ac), .int st])), (a1, .inl (z1, 2000, .inl T)), (a2, .inl (z2, 2000, .inl F)), (a3, .inl (z3, 2000, .inl G)), (a4, .inl (z4, 2000, .inl L)), (a5, .inl (z5, 2001, .inl S))] := hD
  have hK : va_K (dC, dI) vwCl [(z1, .int), (z2, .int), (z3, .int), (z4, .int), (z5, .int)] s := hK
  have hin0 : ∀ w ∈ u_ws RX0 TX0 10, w ∈ wsX0_back := by decide +kernel
  have hl := lv_entry ([.ref x, .int n]) (n := 2) (Nat.le_of_ble_eq_true rfl)
  rw [lg_entry_eq]
  generalize (lg_sl ([.ref x, .int n]) ++ List.replicate (2 - (lg_sl ([.ref x, .int n])).length) Slot.unset).toArray = ls at hl ⊢
  have hl : lv_has ls 2 [(0, .ref x), (1, .int n)] := hl
  refine lv_iload_n hx hb dX0_back_0 rfl (lv_at hl 1 rfl) ?_
  refine lv_iconst (v := 0) hx hb dX0_back_1 (by decide) ?_
  refine lv_aload_n hx hb dX0_back_2 rfl (lv_at hl 0 rfl) ?_
  refine va_get (D := (dC, dI)) (ci := 0) (v := .int (nI mo)) (C := RX0) (T := TX0) (N := 10) hx hb hts hin0 hown hK hP 0 rfl rfl 5 (by decide) (hts (.fieldLink RX0 25 "SpeedRows" "moves" "I") (by decide +kernel)) (fun _ h9 => h9) rfl dX0_back_3 ?_
  refine vp_callSi (W.runS (As := [.int n, .int 0, .int (nI mo)]) (rest := []) ⟨hx, hb, hml, hown, hts⟩ (c_X0_isWithin l n 0 (nI mo)) (va_cwS 3 hts gX0_back_X0_isWithin rfl rfl rfl (by decide +kernel) ⟨Nat.le_of_ble_eq_true rfl, Nat.le_of_ble_eq_true rfl⟩) ⟨sr_blindT, sr_mkT⟩ rfl rfl hl.1 rfl (lv_room (Nat.le_of_ble_eq_true rfl)) dX0_back_6 ⟨Nat.zero_le _, Nat.zero_le _⟩) (fun r er => ?_)
  refine lv_if_ne (tgt := 14) hx hb dX0_back_9 (by decide) (fun c1 => ?_) (fun c1 => ?_)
  · have hc : 0 ≤ n ∧ n ≤ nI mo := by
      rcases er with ⟨_, q⟩ | ⟨q, _⟩
      · exact q
      · exact absurd q c1
    obtain ⟨j, hj, rfl⟩ : ∃ j, j ≤ mo ∧ n = nI j := nI_of2 (nI_toInt (by omega)) (Int32.not_lt.mpr hc.1) hc.2
    refine lv_aload_n hx hb dX0_back_14 rfl (lv_at hl 0 rfl) ?_
    refine lv_dup hx hb dX0_back_15 rfl ?_
    refine va_get (D := (dC, dI)) (ci := 0) (v := .int (nI mo)) (C := RX0) (T := TX0) (N := 10) hx hb hts hin0 hown hK hP 0 rfl rfl 5 (by decide) (hts (.fieldLink RX0 25 "SpeedRows" "moves" "I") (by decide +kernel)) (fun _ h9 => h9) rfl dX0_back_16 ?_
    refine lv_iload_n hx hb dX0_back_19 rfl (lv_at hl 1 rfl) ?_
    refine lv_isub hx hb dX0_back_20 ?_
    refine sr_ti (y := nI (mo - j)) (pk_sub (by omega)) ?_
    refine va_put (D := (dC, dI)) (ci := 0) (v := .int (nI (mo - j))) (ty := .int) (C := RX0) (T := TX0) (N := 10) hx hb hts hin0 tyX0 tyX0_ok nmX0 hown hK hP hD hS 0 rfl rfl 5 (by decide) (hts (.fieldLink RX0 25 "SpeedRows" "moves" "I") (by decide +kernel)) (fun _ h9 => h9) rfl (by decide +kernel) rfl rfl (Nat.le_of_ble_eq_true rfl) dX0_back_21 (fun H locs hP hD hS => ?_)
    have hP : va_P (dC, dI) vwCl [(x, .inr (0, [.ref a1, .ref a2, .ref a3, .ref a4, .ref a5, .int (nI (mo - j)), .int (nI cf), .int (nI cl), .int (nI ac), .int st])), (a1, .inl (z1, 2000, .inl T)), (a2, .inl (z2, 2000, .inl F)), (a3, .inl (z3, 2000, .inl G)), (a4, .inl (z4, 2000, .inl L)), (a5, .inl (z5, 2001, .inl S))] H := hP
    have hD : va_D A [(x, .inr (0, [.ref a1, .ref a2, .ref a3, .ref a4, .ref a5, .int (nI (mo - j)), .int (nI cf), .int (nI cl), .int (nI ac), .int st])), (a1, .inl (z1, 2000, .inl T)), (a2, .inl (z2, 2000, .inl F)), (a3, .inl (z3, 2000, .inl G)), (a4, .inl (z4, 2000, .inl L)), (a5, .inl (z5, 2001, .inl S))] := hD
    refine lv_aload_n hx hb dX0_back_24 rfl (lv_at hl 0 rfl) ?_
    refine lv_iconst (v := 0) hx hb dX0_back_25 (by decide) ?_
    refine va_put (D := (dC, dI)) (ci := 0) (v := .int 0) (ty := .boolean) (C := RX0) (T := TX0) (N := 10) hx hb hts hin0 tyX0 tyX0_ok nmX0 hown hK hP hD hS 0 rfl rfl 9 (by decide) (hts (.fieldLink RX0 42 "SpeedRows" "speedsStand" "Z") (by decide +kernel)) (fun _ h9 => h9) rfl (by decide +kernel) rfl rfl (Nat.le_of_ble_eq_true rfl) dX0_back_26 (fun H locs hP hD hS => ?_)
    have hP : va_P (dC, dI) vwCl [(x, .inr (0, [.ref a1, .ref a2, .ref a3, .ref a4, .ref a5, .int (nI (mo - j)), .int (nI cf), .int (nI cl), .int (nI ac), .int 0])), (a1, .inl (z1, 2000, .inl T)), (a2, .inl (z2, 2000, .inl F)), (a3, .inl (z3, 2000, .inl G)), (a4, .inl (z4, 2000, .inl L)), (a5, .inl (z5, 2001, .inl S))] H := hP
    have hD : va_D A [(x, .inr (0, [.ref a1, .ref a2, .ref a3, .ref a4, .ref a5, .int (nI (mo - j)), .int (nI cf), .int (nI cl), .int (nI ac), .int 0])), (a1, .inl (z1, 2000, .inl T)), (a2, .inl (z2, 2000, .inl F)), (a3, .inl (z3, 2000, .inl G)), (a4, .inl (z4, 2000, .inl L)), (a5, .inl (z5, 2001, .inl S))] := hD
    refine lv_aload_n hx hb dX0_back_29 rfl (lv_at hl 0 rfl) ?_
    refine va_get (D := (dC, dI)) (ci := 0) (v := .int (nI (mo - j))) (C := RX0) (T := TX0) (N := 10) hx hb hts hin0 hown hK hP 0 rfl rfl 5 (by decide) (hts (.fieldLink RX0 25 "SpeedRows" "moves" "I") (by decide +kernel)) (fun _ h9 => h9) rfl dX0_back_30 ?_
    exact W.iret (v := nI (mo - j)) hx hb hr (fun t ht hW => ⟨⟨nI (mo - j), _, rfl, Or.inl ⟨hc, by rw [nI_clamp (by omega)], by rw [nI_clamp (by omega)]⟩, by rw [ht]; exact hP, va_K.moved hW.alike hK, hD⟩, hS.F ht⟩) hS.2.2 dX0_back_33
  · have hc : ¬ (0 ≤ n ∧ n ≤ nI mo) := by
      rcases er with ⟨q, _⟩ | ⟨_, q⟩
      · exact absurd (q.symm.trans c1) (by decide)
      · exact q
    refine lv_iconst (v := (-1)) hx hb dX0_back_12 (by decide) ?_
    exact W.iret (v := (-1)) hx hb hr (fun t ht hW => ⟨⟨(-1), _, rfl, Or.inr ⟨hc, rfl, rfl⟩, by rw [ht]; exact hP, va_K.moved hW.alike hK, hD⟩, hS.F ht⟩) hS.2.2 dX0_back_13
set_option maxHeartbeats 4000000 in
set_option maxRecDepth 100000 in
theorem c_X0_acceleration (l : Launch) (dC : Nat → ClassId) (dI : Nat → Nat → Nat) (x a1 a2 a3 a4 a5 : Nat) (z1 z2 z3 z4 z5 : ClassId) (sz : Nat) (mo cf cl ac : Nat) (st : Int32) (T F G L S : Nat → Int32) (a : Int32) : Met l yX0_acceleration wsX0_acceleration ({ frames := 1, cells := 0, slots := 0, locals := 22 }) (sr_pre dC dI (sr_tX z1 z2 z3 z4 z5) (sr_wX x a1 a2 a3 a4 a5 z1 z2 z3 z4 z5 mo cf cl ac st T F G L S) sz [.ref x, .int a]) (va_Qi (fun (r : Int32) (u : va_W) => ((1 ≤ a ∧ a ≤ 10000) ∧ r = 1 ∧ u = sr_wX x a1 a2 a3 a4 a5 z1 z2 z3 z4 z5 mo cf cl a.toNatClampNeg 0 T F G L S) ∨ (¬ (1 ≤ a ∧ a ≤ 10000) ∧ r = 0 ∧ u = sr_wX x a1 a2 a3 a4 a5 z1 z2 z3 z4 z5 mo cf cl ac st T F G L S)) (sr_at dC dI (sr_tX z1 z2 z3 z4 z5) (va_A (sr_wX x a1 a2 a3 a4 a5 z1 z2 z3 z4 z5 mo cf cl ac st T F G L S) sz)) (va_A (sr_wX x a1 a2 a3 a4 a5 z1 z2 z3 z4 z5 mo cf cl ac st T F G L S) sz)) 0 0 (va_A (sr_wX x a1 a2 a3 a4 a5 z1 z2 z3 z4 z5 mo cf cl ac st T F G L S) sz) := by
  refine Met.ofW (cc := cX0_acceleration) (maxL := 2) (ret := (some .boolean)) (by decide) rfl ?_
  intro p e s m args below meth c s₁ B hml hv
  obtain ⟨rfl, hsz, hP, hK, hD0⟩ := hv
  have hx := B.exec
  have hb := B.bytes
  have hr := B.returns
  have hts := atoms_spec (ws := wsX0_acceleration) B.pre
  have hown : s.vm.findClass RX0 = some m.cls := findClass_of_methodNamed B.named
  have hlocks := B.notSynchronized
  subst hsz
  have hD := hD0.self (sz := s.heap.size)
  generalize hAe : va_A (sr_wX x a1 a2 a3 a4 a5 z1 z2 z3 z4 z5 mo cf cl ac st T F G L S) s.heap.size = A at hD ⊢
  have hA : ∀ q : Nat, s.heap.size ≤ q → A q := fun q h => by rw [← hAe]; exact Or.inr h
  have hS : va_S A s.heap s.heap [] := va_S.rf
  have hP : va_P (dC, dI) vwCl [(x, .inr (0, [.ref a1, .ref a2, .ref a3, .ref a4, .ref a5, .int (nI mo), .int (nI cf), .int (nI cl), .int (nI ac), .int st])), (a1, .inl (z1, 2000, .inl T)), (a2, .inl (z2, 2000, .inl F)), (a3, .inl (z3, 2000, .inl G)), (a4, .inl (z4, 2000, .inl L)), (a5, .inl (z5, 2001, .inl S))] s.heap := hP
  have hD : va_D A [(x, .inr (0, [.ref a1, .ref a2, .ref a3, .ref a4, .ref a5, .int (nI mo), .int (nI cf), .int (nI cl), .int (nI ac), .int st])), (a1, .inl (z1, 2000, .inl T)), (a2, .inl (z2, 2000, .inl F)), (a3, .inl (z3, 2000, .inl G)), (a4, .inl (z4, 2000, .inl L)), (a5, .inl (z5, 2001, .inl S))] := hD
  have hK : va_K (dC, dI) vwCl [(z1, .int), (z2, .int), (z3, .int), (z4, .int), (z5, .int)] s := hK
  have hin0 : ∀ w ∈ u_ws RX0 TX0 10, w ∈ wsX0_acceleration := by decide +kernel
  have hl := lv_entry ([.ref x, .int a]) (n := 2) (Nat.le_of_ble_eq_true rfl)
  rw [lg_entry_eq]
  generalize (lg_sl ([.ref x, .int a]) ++ List.replicate (2 - (lg_sl ([.ref x, .int a])).length) Slot.unset).toArray = ls at hl ⊢
  have hl : lv_has ls 2 [(0, .ref x), (1, .int a)] := hl
  refine lv_iload_n hx hb dX0_acceleration_0 rfl (lv_at hl 1 rfl) ?_
  refine lv_iconst (v := 1) hx hb dX0_acceleration_1 (by decide) ?_
  refine lv_sipush (v := 10000) hx hb dX0_acceleration_2 (by decide) ?_
  refine vp_callSi (W.runS (As := [.int a, .int 1, .int 10000]) (rest := []) ⟨hx, hb, hml, hown, hts⟩ (c_X0_isWithin l a 1 10000) (va_cwS 3 hts gX0_acceleration_X0_isWithin rfl rfl rfl (by decide +kernel) ⟨Nat.le_of_ble_eq_true rfl, Nat.le_of_ble_eq_true rfl⟩) ⟨sr_blindT, sr_mkT⟩ rfl rfl hl.1 rfl (lv_room (Nat.le_of_ble_eq_true rfl)) dX0_acceleration_5 ⟨Nat.zero_le _, Nat.zero_le _⟩) (fun r er => ?_)
  refine lv_if_ne (tgt := 13) hx hb dX0_acceleration_8 (by decide) (fun c1 => ?_) (fun c1 => ?_)
  · have hc : 1 ≤ a ∧ a ≤ 10000 := by
      rcases er with ⟨_, q⟩ | ⟨q, _⟩
      · exact q
      · exact absurd q c1
    obtain ⟨j, hj, rfl⟩ : ∃ j, j ≤ 10000 ∧ a = nI j := nI_of2 (M := 10000) (by decide) (fun q => absurd (Int32.lt_of_lt_of_le q (by decide : (0 : Int32) ≤ 1)) (Int32.not_lt.mpr hc.1)) hc.2
    refine lv_aload_n hx hb dX0_acceleration_13 rfl (lv_at hl 0 rfl) ?_
    refine lv_iload_n hx hb dX0_acceleration_14 rfl (lv_at hl 1 rfl) ?_
    refine va_put (D := (dC, dI)) (ci := 0) (v := .int (nI j)) (ty := .int) (C := RX0) (T := TX0) (N := 10) hx hb hts hin0 tyX0 tyX0_ok nmX0 hown hK hP hD hS 0 rfl rfl 8 (by decide) (hts (.fieldLink RX0 39 "SpeedRows" "rate" "I") (by decide +kernel)) (fun _ h9 => h9) rfl (by decide +kernel) rfl rfl (Nat.le_of_ble_eq_true rfl) dX0_acceleration_15 (fun H locs hP hD hS => ?_)
    have hP : va_P (dC, dI) vwCl [(x, .inr (0, [.ref a1, .ref a2, .ref a3, .ref a4, .ref a5, .int (nI mo), .int (nI cf), .int (nI cl), .int (nI j), .int st])), (a1, .inl (z1, 2000, .inl T)), (a2, .inl (z2, 2000, .inl F)), (a3, .inl (z3, 2000, .inl G)), (a4, .inl (z4, 2000, .inl L)), (a5, .inl (z5, 2001, .inl S))] H := hP
    have hD : va_D A [(x, .inr (0, [.ref a1, .ref a2, .ref a3, .ref a4, .ref a5, .int (nI mo), .int (nI cf), .int (nI cl), .int (nI j), .int st])), (a1, .inl (z1, 2000, .inl T)), (a2, .inl (z2, 2000, .inl F)), (a3, .inl (z3, 2000, .inl G)), (a4, .inl (z4, 2000, .inl L)), (a5, .inl (z5, 2001, .inl S))] := hD
    refine lv_aload_n hx hb dX0_acceleration_18 rfl (lv_at hl 0 rfl) ?_
    refine lv_iconst (v := 0) hx hb dX0_acceleration_19 (by decide) ?_
    refine va_put (D := (dC, dI)) (ci := 0) (v := .int 0) (ty := .boolean) (C := RX0) (T := TX0) (N := 10) hx hb hts hin0 tyX0 tyX0_ok nmX0 hown hK hP hD hS 0 rfl rfl 9 (by decide) (hts (.fieldLink RX0 42 "SpeedRows" "speedsStand" "Z") (by decide +kernel)) (fun _ h9 => h9) rfl (by decide +kernel) rfl rfl (Nat.le_of_ble_eq_true rfl) dX0_acceleration_20 (fun H locs hP hD hS => ?_)
    have hP : va_P (dC, dI) vwCl [(x, .inr (0, [.ref a1, .ref a2, .ref a3, .ref a4, .ref a5, .int (nI mo), .int (nI cf), .int (nI cl), .int (nI j), .int 0])), (a1, .inl (z1, 2000, .inl T)), (a2, .inl (z2, 2000, .inl F)), (a3, .inl (z3, 2000, .inl G)), (a4, .inl (z4, 2000, .inl L)), (a5, .inl (z5, 2001, .inl S))] H := hP
    have hD : va_D A [(x, .inr (0, [.ref a1, .ref a2, .ref a3, .ref a4, .ref a5, .int (nI mo), .int (nI cf), .int (nI cl), .int (nI j), .int 0])), (a1, .inl (z1, 2000, .inl T)), (a2, .inl (z2, 2000, .inl F)), (a3, .inl (z3, 2000, .inl G)), (a4, .inl (z4, 2000, .inl L)), (a5, .inl (z5, 2001, .inl S))] := hD
    refine lv_iconst (v := 1) hx hb dX0_acceleration_23 (by decide) ?_
    exact W.zret (v := 1) hx hb hr rfl (fun t ht hW => ⟨⟨1, _, rfl, Or.inl ⟨hc, rfl, by rw [nI_clamp (by omega)]⟩, by rw [ht]; exact hP, va_K.moved hW.alike hK, hD⟩, hS.F ht⟩) hS.2.2 dX0_acceleration_24
  · have hc : ¬ (1 ≤ a ∧ a ≤ 10000) := by
      rcases er with ⟨q, _⟩ | ⟨_, q⟩
      · exact absurd (q.symm.trans c1) (by decide)
      · exact q
    refine lv_iconst (v := 0) hx hb dX0_acceleration_11 (by decide) ?_
    exact W.zret (v := 0) hx hb hr rfl (fun t ht hW => ⟨⟨0, _, rfl, Or.inr ⟨hc, rfl, rfl⟩, by rw [ht]; exact hP, va_K.moved hW.alike hK, hD⟩, hS.F ht⟩) hS.2.2 dX0_acceleration_12
set_option maxHeartbeats 4000000 in
set_option maxRecDepth 100000 in
theorem c_X0_limit (l : Launch) (dC : Nat → ClassId) (dI : Nat → Nat → Nat) (x a1 a2 a3 a4 a5 : Nat) (z1 z2 z3 z4 z5 : ClassId) (sz : Nat) (mo cf cl ac : Nat) (st : Int32) (T F G L S : Nat → Int32) (k : Int32) (tk fd fs la : Nat → Nat) (hI : sr_XI mo tk fd fs la T F G L) (hmo : mo ≤ 2000) : Met l yX0_limit wsX0_limit ({ frames := 1, cells := 0, slots := 0, locals := 22 }) (sr_pre dC dI (sr_tX z1 z2 z3 z4 z5) (sr_wX x a1 a2 a3 a4 a5 z1 z2 z3 z4 z5 mo cf cl ac st T F G L S) sz [.ref x, .int k]) (va_Qi (fun (r : Int32) (u : va_W) => u = sr_wX x a1 a2 a3 a4 a5 z1 z2 z3 z4 z5 mo cf cl ac st T F G L S ∧ r = sr_an mo (sr_lim mo fd fs la) k) (sr_at dC dI (sr_tX z1 z2 z3 z4 z5) (va_A (sr_wX x a1 a2 a3 a4 a5 z1 z2 z3 z4 z5 mo cf cl ac st T F G L S) sz)) (va_A (sr_wX x a1 a2 a3 a4 a5 z1 z2 z3 z4 z5 mo cf cl ac st T F G L S) sz)) 0 0 (va_A (sr_wX x a1 a2 a3 a4 a5 z1 z2 z3 z4 z5 mo cf cl ac st T F G L S) sz) := by
  refine Met.ofW (cc := cX0_limit) (maxL := 2) (ret := (some .int)) (by decide) rfl ?_
  intro p e s m args below meth c s₁ B hml hv
  obtain ⟨rfl, hsz, hP, hK, hD0⟩ := hv
  have hx := B.exec
  have hb := B.bytes
  have hr := B.returns
  have hts := atoms_spec (ws := wsX0_limit) B.pre
  have hown : s.vm.findClass RX0 = some m.cls := findClass_of_methodNamed B.named
  have hlocks := B.notSynchronized
  subst hsz
  have hD := hD0.self (sz := s.heap.size)
  generalize hAe : va_A (sr_wX x a1 a2 a3 a4 a5 z1 z2 z3 z4 z5 mo cf cl ac st T F G L S) s.heap.size = A at hD ⊢
  have hA : ∀ q : Nat, s.heap.size ≤ q → A q := fun q h => by rw [← hAe]; exact Or.inr h
  have hS : va_S A s.heap s.heap [] := va_S.rf
  have hP : va_P (dC, dI) vwCl [(x, .inr (0, [.ref a1, .ref a2, .ref a3, .ref a4, .ref a5, .int (nI mo), .int (nI cf), .int (nI cl), .int (nI ac), .int st])), (a1, .inl (z1, 2000, .inl T)), (a2, .inl (z2, 2000, .inl F)), (a3, .inl (z3, 2000, .inl G)), (a4, .inl (z4, 2000, .inl L)), (a5, .inl (z5, 2001, .inl S))] s.heap := hP
  have hD : va_D A [(x, .inr (0, [.ref a1, .ref a2, .ref a3, .ref a4, .ref a5, .int (nI mo), .int (nI cf), .int (nI cl), .int (nI ac), .int st])), (a1, .inl (z1, 2000, .inl T)), (a2, .inl (z2, 2000, .inl F)), (a3, .inl (z3, 2000, .inl G)), (a4, .inl (z4, 2000, .inl L)), (a5, .inl (z5, 2001, .inl S))] := hD
  have hK : va_K (dC, dI) vwCl [(z1, .int), (z2, .int), (z3, .int), (z4, .int), (z5, .int)] s := hK
  have hin0 : ∀ w ∈ u_ws RX0 TX0 10, w ∈ wsX0_limit := by decide +kernel
  have hl := lv_entry ([.ref x, .int k]) (n := 2) (Nat.le_of_ble_eq_true rfl)
  rw [lg_entry_eq]
  generalize (lg_sl ([.ref x, .int k]) ++ List.replicate (2 - (lg_sl ([.ref x, .int k])).length) Slot.unset).toArray = ls at hl ⊢
  have hl : lv_has ls 2 [(0, .ref x), (1, .int k)] := hl
  refine lv_iload_n hx hb dX0_limit_0 rfl (lv_at hl 1 rfl) ?_
  refine lv_iconst (v := 0) hx hb dX0_limit_1 (by decide) ?_
  refine lv_aload_n hx hb dX0_limit_2 rfl (lv_at hl 0 rfl) ?_
  refine va_get (D := (dC, dI)) (ci := 0) (v := .int (nI mo)) (C := RX0) (T := TX0) (N := 10) hx hb hts hin0 hown hK hP 0 rfl rfl 5 (by decide) (hts (.fieldLink RX0 25 "SpeedRows" "moves" "I") (by decide +kernel)) (fun _ h9 => h9) rfl dX0_limit_3 ?_
  refine vp_callSi (W.runS (As := [.int k, .int 0, .int (nI mo)]) (rest := []) ⟨hx, hb, hml, hown, hts⟩ (c_X0_isWithin l k 0 (nI mo)) (va_cwS 3 hts gX0_limit_X0_isWithin rfl rfl rfl (by decide +kernel) ⟨Nat.le_of_ble_eq_true rfl, Nat.le_of_ble_eq_true rfl⟩) ⟨sr_blindT, sr_mkT⟩ rfl rfl hl.1 rfl (lv_room (Nat.le_of_ble_eq_true rfl)) dX0_limit_6 ⟨Nat.zero_le _, Nat.zero_le _⟩) (fun r er => ?_)
  refine lv_if_eq (tgt := 20) hx hb dX0_limit_9 (by decide) (fun c1 => ?_) (fun c1 => ?_)
  · have hc : ¬ (0 ≤ k ∧ k ≤ nI mo) := by
      rcases er with ⟨q, _⟩ | ⟨_, q⟩
      · exact absurd (q.symm.trans c1) (by decide)
      · exact q
    refine lv_iconst (v := (-1)) hx hb dX0_limit_20 (by decide) ?_
    exact W.iret (v := (-1)) hx hb hr (fun t ht hW => ⟨⟨(-1), _, rfl, ⟨rfl, by rw [sr_an, if_neg hc]⟩, by rw [ht]; exact hP, va_K.moved hW.alike hK, hD⟩, hS.F ht⟩) hS.2.2 dX0_limit_21
  · have hc : 0 ≤ k ∧ k ≤ nI mo := by
      rcases er with ⟨_, q⟩ | ⟨q, _⟩
      · exact q
      · exact absurd q c1
    obtain ⟨j, hj, rfl⟩ : ∃ j, j ≤ mo ∧ k = nI j := nI_of2 (nI_toInt (by omega)) (Int32.not_lt.mpr hc.1) hc.2
    refine lv_aload_n hx hb dX0_limit_12 rfl (lv_at hl 0 rfl) ?_
    refine lv_iload_n hx hb dX0_limit_13 rfl (lv_at hl 1 rfl) ?_
    have hPc := hP.sub (ws' := [(x, .inr (0, [.ref a1, .ref a2, .ref a3, .ref a4, .ref a5, .int (nI mo), .int (nI cf), .int (nI cl), .int (nI ac), .int st])), (a1, .inl (z1, 2000, .inl T)), (a2, .inl (z2, 2000, .inl F)), (a3, .inl (z3, 2000, .inl G)), (a4, .inl (z4, 2000, .inl L)), (a5, .inl (z5, 2001, .inl S))]) [0, 1, 2, 3, 4, 5] rfl
    have hDc := hD.sub (ws' := [(x, .inr (0, [.ref a1, .ref a2, .ref a3, .ref a4, .ref a5, .int (nI mo), .int (nI cf), .int (nI cl), .int (nI ac), .int st])), (a1, .inl (z1, 2000, .inl T)), (a2, .inl (z2, 2000, .inl F)), (a3, .inl (z3, 2000, .inl G)), (a4, .inl (z4, 2000, .inl L)), (a5, .inl (z5, 2001, .inl S))]) [0, 1, 2, 3, 4, 5] (by decide) rfl
    have hKc := hK.sub (tys' := [(z1, .int), (z2, .int), (z3, .int), (z4, .int), (z5, .int)]) [0, 1, 2, 3, 4] rfl
    have hFc := va_free (wc := [(x, .inr (0, [.ref a1, .ref a2, .ref a3, .ref a4, .ref a5, .int (nI mo), .int (nI cf), .int (nI cl), .int (nI ac), .int st])), (a1, .inl (z1, 2000, .inl T)), (a2, .inl (z2, 2000, .inl F)), (a3, .inl (z3, 2000, .inl G)), (a4, .inl (z4, 2000, .inl L)), (a5, .inl (z5, 2001, .inl S))]) hD hS hA [0, 1, 2, 3, 4, 5] rfl
    refine va_calli (va_runV (As := [.int (nI j)]) (rest := []) ⟨hx, hb, hml, hown, hts⟩ (c_X0_limitAt l dC dI x a1 a2 a3 a4 a5 z1 z2 z3 z4 z5 s.heap.size mo cf cl ac st T F G L S tk fd fs la j hI hmo (by omega)) (cwV 1 hts gX0_limit_X0_limitAt rfl rfl rfl (by decide +kernel) ⟨Nat.le_of_ble_eq_true rfl, Nat.le_of_ble_eq_true rfl⟩) ⟨sr_blind, va_recv hKc hPc (ci := 0) (q0 := 0) rfl rfl, sr_mk hPc hKc hDc⟩ rfl rfl hl.1 rfl (lv_room (Nat.le_of_ble_eq_true rfl)) dX0_limit_14 ⟨Nat.zero_le _, Nat.zero_le _⟩) hS (fun q _ h => hFc q h) hFc (fun r1 u t H1 locs ht hvm hw hB hz1 hk1 hS => ?_)
    obtain ⟨hP1, hK1, hD1⟩ := hB
    rw [ht] at hP1
    obtain ⟨rfl, rfl⟩ := hw
    obtain ⟨hP, hD⟩ := va_join (wr := []) (w1 := [(x, .inr (0, [.ref a1, .ref a2, .ref a3, .ref a4, .ref a5, .int (nI mo), .int (nI cf), .int (nI cl), .int (nI ac), .int st])), (a1, .inl (z1, 2000, .inl T)), (a2, .inl (z2, 2000, .inl F)), (a3, .inl (z3, 2000, .inl G)), (a4, .inl (z4, 2000, .inl L)), (a5, .inl (z5, 2001, .inl S))]) hP hD [0, 1, 2, 3, 4, 5] [] rfl rfl (by decide) (by decide) hk1 hFc hP1 hD1
    generalize H1 = H at hP hS ⊢
    have hP : va_P (dC, dI) vwCl [(x, .inr (0, [.ref a1, .ref a2, .ref a3, .ref a4, .ref a5, .int (nI mo), .int (nI cf), .int (nI cl), .int (nI ac), .int st])), (a1, .inl (z1, 2000, .inl T)), (a2, .inl (z2, 2000, .inl F)), (a3, .inl (z3, 2000, .inl G)), (a4, .inl (z4, 2000, .inl L)), (a5, .inl (z5, 2001, .inl S))] H := hP
    have hD : va_D A [(x, .inr (0, [.ref a1, .ref a2, .ref a3, .ref a4, .ref a5, .int (nI mo), .int (nI cf), .int (nI cl), .int (nI ac), .int st])), (a1, .inl (z1, 2000, .inl T)), (a2, .inl (z2, 2000, .inl F)), (a3, .inl (z3, 2000, .inl G)), (a4, .inl (z4, 2000, .inl L)), (a5, .inl (z5, 2001, .inl S))] := hD
    refine lv_goto (tgt := 21) hx hb dX0_limit_17 (by decide) ?_
    exact W.iret (v := nI (sr_lim mo fd fs la j)) hx hb hr (fun t ht hW => ⟨⟨nI (sr_lim mo fd fs la j), _, rfl, ⟨rfl, by rw [sr_an, if_pos hc, nI_clamp (by omega)]⟩, by rw [ht]; exact hP, va_K.moved hW.alike hK, hD⟩, hS.F ht⟩) hS.2.2 dX0_limit_21
set_option maxHeartbeats 4000000 in
set_option maxRecDepth 100000 in
theorem c_X0_speed (l : Launch) (dC : Nat → ClassId) (dI : Nat → Nat → Nat) (x a1 a2 a3 a4 a5 : Nat) (z1 z2 z3 z4 z5 : ClassId) (sz : Nat) (mo cf cl ac : Nat) (st : Int32) (T F G L S : Nat → Int32) (k : Int32) (tk fd fs la : Nat → Nat) (g : sr_G mo ac cf cl tk fd fs la) (hI : sr_XI mo tk fd fs la T F G L) (hQ : sr_XS mo ac tk fd fs la st S) : Met l yX0_speed wsX0_speed ({ frames := 2, cells := 0, slots := 0, locals := 50 }) (sr_pre dC dI (sr_tX z1 z2 z3 z4 z5) (sr_wX x a1 a2 a3 a4 a5 z1 z2 z3 z4 z5 mo cf cl ac st T F G L S) sz [.ref x, .int k]) (va_Qi (fun (r : Int32) (u : va_W) => ∃ (S' : Nat → Int32) (st' : Int32), u = sr_wX x a1 a2 a3 a4 a5 z1 z2 z3 z4 z5 mo cf cl ac st' T F G L S' ∧ sr_XS mo ac tk fd fs la st' S' ∧ r = sr_an mo (sr_sp mo ac tk fd fs la) k) (sr_at dC dI (sr_tX z1 z2 z3 z4 z5) (va_A (sr_wX x a1 a2 a3 a4 a5 z1 z2 z3 z4 z5 mo cf cl ac st T F G L S) sz)) (va_A (sr_wX x a1 a2 a3 a4 a5 z1 z2 z3 z4 z5 mo cf cl ac st T F G L S) sz)) 0 0 (va_A (sr_wX x a1 a2 a3 a4 a5 z1 z2 z3 z4 z5 mo cf cl ac st T F G L S) sz) := by
  refine Met.ofW (cc := cX0_speed) (maxL := 2) (ret := (some .int)) (by decide) rfl ?_
  intro p e s m args below meth c s₁ B hml hv
  obtain ⟨rfl, hsz, hP, hK, hD0⟩ := hv
  have hx := B.exec
  have hb := B.bytes
  have hr := B.returns
  have hts := atoms_spec (ws := wsX0_speed) B.pre
  have hown : s.vm.findClass RX0 = some m.cls := findClass_of_methodNamed B.named
  have hlocks := B.notSynchronized
  subst hsz
  have hD := hD0.self (sz := s.heap.size)
  generalize hAe : va_A (sr_wX x a1 a2 a3 a4 a5 z1 z2 z3 z4 z5 mo cf cl ac st T F G L S) s.heap.size = A at hD ⊢
  have hA : ∀ q : Nat, s.heap.size ≤ q → A q := fun q h => by rw [← hAe]; exact Or.inr h
  have hS : va_S A s.heap s.heap [] := va_S.rf
  have hP : va_P (dC, dI) vwCl [(x, .inr (0, [.ref a1, .ref a2, .ref a3, .ref a4, .ref a5, .int (nI mo), .int (nI cf), .int (nI cl), .int (nI ac), .int st])), (a1, .inl (z1, 2000, .inl T)), (a2, .inl (z2, 2000, .inl F)), (a3, .inl (z3, 2000, .inl G)), (a4, .inl (z4, 2000, .inl L)), (a5, .inl (z5, 2001, .inl S))] s.heap := hP
  have hD : va_D A [(x, .inr (0, [.ref a1, .ref a2, .ref a3, .ref a4, .ref a5, .int (nI mo), .int (nI cf), .int (nI cl), .int (nI ac), .int st])), (a1, .inl (z1, 2000, .inl T)), (a2, .inl (z2, 2000, .inl F)), (a3, .inl (z3, 2000, .inl G)), (a4, .inl (z4, 2000, .inl L)), (a5, .inl (z5, 2001, .inl S))] := hD
  have hK : va_K (dC, dI) vwCl [(z1, .int), (z2, .int), (z3, .int), (z4, .int), (z5, .int)] s := hK
  have hin0 : ∀ w ∈ u_ws RX0 TX0 10, w ∈ wsX0_speed := by decide +kernel
  have hl := lv_entry ([.ref x, .int k]) (n := 2) (Nat.le_of_ble_eq_true rfl)
  rw [lg_entry_eq]
  generalize (lg_sl ([.ref x, .int k]) ++ List.replicate (2 - (lg_sl ([.ref x, .int k])).length) Slot.unset).toArray = ls at hl ⊢
  have hl : lv_has ls 2 [(0, .ref x), (1, .int k)] := hl
  have hmo : mo ≤ 2000 := g.1
  refine lv_iload_n hx hb dX0_speed_0 rfl (lv_at hl 1 rfl) ?_
  refine lv_iconst (v := 0) hx hb dX0_speed_1 (by decide) ?_
  refine lv_aload_n hx hb dX0_speed_2 rfl (lv_at hl 0 rfl) ?_
  refine va_get (D := (dC, dI)) (ci := 0) (v := .int (nI mo)) (C := RX0) (T := TX0) (N := 10) hx hb hts hin0 hown hK hP 0 rfl rfl 5 (by decide) (hts (.fieldLink RX0 25 "SpeedRows" "moves" "I") (by decide +kernel)) (fun _ h9 => h9) rfl dX0_speed_3 ?_
  refine vp_callSi (W.runS (As := [.int k, .int 0, .int (nI mo)]) (rest := []) ⟨hx, hb, hml, hown, hts⟩ (c_X0_isWithin l k 0 (nI mo)) (va_cwS 3 hts gX0_speed_X0_isWithin rfl rfl rfl (by decide +kernel) ⟨Nat.le_of_ble_eq_true rfl, Nat.le_of_ble_eq_true rfl⟩) ⟨sr_blindT, sr_mkT⟩ rfl rfl hl.1 rfl (lv_room (Nat.le_of_ble_eq_true rfl)) dX0_speed_6 ⟨Nat.zero_le _, Nat.zero_le _⟩) (fun r er => ?_)
  refine lv_if_ne (tgt := 14) hx hb dX0_speed_9 (by decide) (fun c1 => ?_) (fun c1 => ?_)
  · have hc : 0 ≤ k ∧ k ≤ nI mo := by
      rcases er with ⟨_, q⟩ | ⟨q, _⟩
      · exact q
      · exact absurd q c1
    obtain ⟨j, hj, rfl⟩ : ∃ j, j ≤ mo ∧ k = nI j := nI_of2 (nI_toInt (by omega)) (Int32.not_lt.mpr hc.1) hc.2
    refine lv_aload_n hx hb dX0_speed_14 rfl (lv_at hl 0 rfl) ?_
    have hPc := hP.sub (ws' := [(x, .inr (0, [.ref a1, .ref a2, .ref a3, .ref a4, .ref a5, .int (nI mo), .int (nI cf), .int (nI cl), .int (nI ac), .int st])), (a1, .inl (z1, 2000, .inl T)), (a2, .inl (z2, 2000, .inl F)), (a3, .inl (z3, 2000, .inl G)), (a4, .inl (z4, 2000, .inl L)), (a5, .inl (z5, 2001, .inl S))]) [0, 1, 2, 3, 4, 5] rfl
    have hDc := hD.sub (ws' := [(x, .inr (0, [.ref a1, .ref a2, .ref a3, .ref a4, .ref a5, .int (nI mo), .int (nI cf), .int (nI cl), .int (nI ac), .int st])), (a1, .inl (z1, 2000, .inl T)), (a2, .inl (z2, 2000, .inl F)), (a3, .inl (z3, 2000, .inl G)), (a4, .inl (z4, 2000, .inl L)), (a5, .inl (z5, 2001, .inl S))]) [0, 1, 2, 3, 4, 5] (by decide) rfl
    have hKc := hK.sub (tys' := [(z1, .int), (z2, .int), (z3, .int), (z4, .int), (z5, .int)]) [0, 1, 2, 3, 4] rfl
    have hFc := va_free (wc := [(x, .inr (0, [.ref a1, .ref a2, .ref a3, .ref a4, .ref a5, .int (nI mo), .int (nI cf), .int (nI cl), .int (nI ac), .int st])), (a1, .inl (z1, 2000, .inl T)), (a2, .inl (z2, 2000, .inl F)), (a3, .inl (z3, 2000, .inl G)), (a4, .inl (z4, 2000, .inl L)), (a5, .inl (z5, 2001, .inl S))]) hD hS hA [0, 1, 2, 3, 4, 5] rfl
    refine va_callv (va_runV (As := []) (rest := []) ⟨hx, hb, hml, hown, hts⟩ (c_X0_reckonSpeeds l dC dI x a1 a2 a3 a4 a5 z1 z2 z3 z4 z5 s.heap.size mo cf cl ac st T F G L S tk fd fs la g hI hQ) (cwV 0 hts gX0_speed_X0_reckonSpeeds rfl rfl rfl (by decide +kernel) ⟨Nat.le_of_ble_eq_true rfl, Nat.le_of_ble_eq_true rfl⟩) ⟨sr_blind, va_recv hKc hPc (ci := 0) (q0 := 0) rfl rfl, sr_mk hPc hKc hDc⟩ rfl rfl hl.1 rfl (lv_room (Nat.le_of_ble_eq_true rfl)) dX0_speed_15 ⟨Nat.zero_le _, Nat.zero_le _⟩) hS (fun q _ h => hFc q h) hFc (fun u t H1 locs ht hvm hw hB hz1 hk1 hS => ?_)
    obtain ⟨hP1, hK1, hD1⟩ := hB
    rw [ht] at hP1
    obtain ⟨S2, rfl, hS2⟩ := hw
    obtain ⟨hP, hD⟩ := va_join (wr := []) (w1 := [(x, .inr (0, [.ref a1, .ref a2, .ref a3, .ref a4, .ref a5, .int (nI mo), .int (nI cf), .int (nI cl), .int (nI ac), .int 1])), (a1, .inl (z1, 2000, .inl T)), (a2, .inl (z2, 2000, .inl F)), (a3, .inl (z3, 2000, .inl G)), (a4, .inl (z4, 2000, .inl L)), (a5, .inl (z5, 2001, .inl S2))]) hP hD [0, 1, 2, 3, 4, 5] [] rfl rfl (by decide) (by decide) hk1 hFc hP1 hD1
    generalize H1 = H at hP hS ⊢
    have hP : va_P (dC, dI) vwCl [(x, .inr (0, [.ref a1, .ref a2, .ref a3, .ref a4, .ref a5, .int (nI mo), .int (nI cf), .int (nI cl), .int (nI ac), .int 1])), (a1, .inl (z1, 2000, .inl T)), (a2, .inl (z2, 2000, .inl F)), (a3, .inl (z3, 2000, .inl G)), (a4, .inl (z4, 2000, .inl L)), (a5, .inl (z5, 2001, .inl S2))] H := hP
    have hD : va_D A [(x, .inr (0, [.ref a1, .ref a2, .ref a3, .ref a4, .ref a5, .int (nI mo), .int (nI cf), .int (nI cl), .int (nI ac), .int 1])), (a1, .inl (z1, 2000, .inl T)), (a2, .inl (z2, 2000, .inl F)), (a3, .inl (z3, 2000, .inl G)), (a4, .inl (z4, 2000, .inl L)), (a5, .inl (z5, 2001, .inl S2))] := hD
    refine lv_aload_n hx hb dX0_speed_18 rfl (lv_at hl 0 rfl) ?_
    refine va_get (D := (dC, dI)) (ci := 0) (v := .ref a5) (C := RX0) (T := TX0) (N := 10) hx hb hts hin0 hown hK hP 0 rfl rfl 4 (by decide) (hts (.fieldLink RX0 22 "SpeedRows" "speeds" "[I") (by decide +kernel)) (fun _ h9 => h9) rfl dX0_speed_19 ?_
    refine lv_iload_n hx hb dX0_speed_22 rfl (lv_at hl 1 rfl) ?_
    refine sr_iald (v := nI (sr_sp mo ac tk fd fs la j)) hx hb hK hP 5 4 rfl rfl (by omega) (by decide) (hS2 j hj) dX0_speed_23 ?_
    exact W.iret (v := nI (sr_sp mo ac tk fd fs la j)) hx hb hr (fun t ht hW => ⟨⟨nI (sr_sp mo ac tk fd fs la j), _, rfl, ⟨S2, 1, rfl, Or.inr ⟨rfl, hS2⟩, by rw [sr_an, if_pos hc, nI_clamp (by omega)]⟩, by rw [ht]; exact hP, va_K.moved hW.alike hK, hD⟩, hS.F ht⟩) hS.2.2 dX0_speed_24
  · have hc : ¬ (0 ≤ k ∧ k ≤ nI mo) := by
      rcases er with ⟨q, _⟩ | ⟨_, q⟩
      · exact absurd (q.symm.trans c1) (by decide)
      · exact q
    refine lv_iconst (v := (-1)) hx hb dX0_speed_12 (by decide) ?_
    exact W.iret (v := (-1)) hx hb hr (fun t ht hW => ⟨⟨(-1), _, rfl, ⟨S, st, rfl, hQ, by rw [sr_an, if_neg hc]⟩, by rw [ht]; exact hP, va_K.moved hW.alike hK, hD⟩, hS.F ht⟩) hS.2.2 dX0_speed_13
set_option maxHeartbeats 4000000 in
set_option maxRecDepth 100000 in
theorem lp_X0_sum {p : Program} {l : Launch} {e : Env} {R : Room} {s : State} {m : MethodId} {args : Array Value} {below : List Frame} {meth : Method} {c : Code} {Q : State → Prop} (C0 : CallFix p m c cX0_sum 4 s args wsX0_sum RX0) {dC : Nat → ClassId} {dI : Nat → Nat → Nat} {x a1 a2 a3 a4 a5 : Nat} {z1 z2 z3 z4 z5 : ClassId} {mo cf cl ac : Nat} {st : Int32} {T F G L S : Nat → Int32} {sp : Nat → Nat} (hmo : mo ≤ 2000) (hsp : ∀ k, k ≤ mo → sp k ≤ 99999) (hS2 : ∀ k, k ≤ mo → S k = nI (sp k)) (hK : va_K (dC, dI) vwCl (sr_tX z1 z2 z3 z4 z5) s) {H : Heap} {locs : List Loc} (hP : va_P (dC, dI) vwCl (sr_wX x a1 a2 a3 a4 a5 z1 z2 z3 z4 z5 mo cf cl ac st T F G L S) H)
    (hk : ∀ (ls : Array Slot), lv_has ls 4 [(1, .long (lN (sr_sum sp (mo + 1))))] → W p l e R s m args below meth c H locs 0 0 Q (F0 m 32 ls [])) :
    ∀ (n i : Nat) (ls : Array Slot), i ≤ mo + 1 → mo + 2 ≤ i + n → lv_has ls 4 [(0, .ref x), (1, .long (lN (sr_sum sp i))), (3, .int (nI i))] → W p l e R s m args below meth c H locs 0 0 Q (F0 m 8 ls []) := by
  obtain ⟨hx, hb, hml, hown, hts⟩ := C0
  have hin0 : ∀ w ∈ u_ws RX0 TX0 10, w ∈ wsX0_sum := by decide +kernel
  have hK : va_K (dC, dI) vwCl [(z1, .int), (z2, .int), (z3, .int), (z4, .int), (z5, .int)] s := hK
  have hP : va_P (dC, dI) vwCl [(x, .inr (0, [.ref a1, .ref a2, .ref a3, .ref a4, .ref a5, .int (nI mo), .int (nI cf), .int (nI cl), .int (nI ac), .int st])), (a1, .inl (z1, 2000, .inl T)), (a2, .inl (z2, 2000, .inl F)), (a3, .inl (z3, 2000, .inl G)), (a4, .inl (z4, 2000, .inl L)), (a5, .inl (z5, 2001, .inl S))] H := hP
  intro n
  induction n with
  | zero =>
    intro i ls h1 h2
    exact absurd h2 (by omega)
  | succ n ih =>
    intro i ls h1 h2 hl
    refine lv_iload_n hx hb dX0_sum_8 rfl (lv_at hl 2 rfl) ?_
    refine lv_aload_n hx hb dX0_sum_9 rfl (lv_at hl 0 rfl) ?_
    refine va_get (D := (dC, dI)) (ci := 0) (v := .int (nI mo)) (C := RX0) (T := TX0) (N := 10) hx hb hts hin0 hown hK hP 0 rfl rfl 5 (by decide) (hts (.fieldLink RX0 25 "SpeedRows" "moves" "I") (by decide +kernel)) (fun _ h9 => h9) rfl dX0_sum_10 ?_
    refine lv_icmp_gt (tgt := 32) hx hb dX0_sum_13 (by decide) (fun c1 => ?_) (fun c1 => ?_)
    · have e1 : mo < i := (nI_ltI (by omega) (by omega)).mp c1
      obtain rfl : i = mo + 1 := by omega
      exact hk ls (lv_sub hl [1] rfl)
    · have e1 : i ≤ mo := by
        rcases Nat.lt_or_ge mo i with q | q
        · exact absurd ((nI_ltI (by omega) (by omega)).mpr q) c1
        · exact q
      have e2 := hsp i e1
      refine lv_lload_n hx hb dX0_sum_16 rfl (lv_at hl 1 rfl) ?_
      refine lv_aload_n hx hb dX0_sum_17 rfl (lv_at hl 0 rfl) ?_
      refine va_get (D := (dC, dI)) (ci := 0) (v := .ref a5) (C := RX0) (T := TX0) (N := 10) hx hb hts hin0 hown hK hP 0 rfl rfl 4 (by decide) (hts (.fieldLink RX0 22 "SpeedRows" "speeds" "[I") (by decide +kernel)) (fun _ h9 => h9) rfl dX0_sum_18 ?_
      refine lv_iload_n hx hb dX0_sum_21 rfl (lv_at hl 2 rfl) ?_
      refine sr_iald (v := nI (sp i)) hx hb hK hP 5 4 rfl rfl (by omega) (by decide) (hS2 i e1) dX0_sum_22 ?_
      refine lv_i2l (v := lN (sp i)) hx hb dX0_sum_23 (nI_l (by omega)) ?_
      refine lv_ladd hx hb dX0_sum_24 ?_
      refine sr_tl (y := lN ((sr_sum sp i) + (sp i))) (lN_add _ _) ?_
      refine lv_lstore_n (lv' := [(1, .long (lN ((sr_sum sp i) + (sp i)))), (0, .ref x), (3, .int (nI i))]) hx hb dX0_sum_25 rfl hl (by decide) rfl (fun ls hl => ?_)
      refine lv_iinc (v := nI (i + 1)) (lv' := [(3, .int (nI (i + 1))), (1, .long (lN ((sr_sum sp i) + (sp i)))), (0, .ref x)]) hx hb dX0_sum_26 hl (k := 2) rfl (nI_1 _) (by decide) rfl (fun ls hl => ?_)
      refine lv_goto (tgt := 8) hx hb dX0_sum_29 (by decide) ?_
      exact ih (i + 1) ls (by omega) (by omega) (lv_sub hl [2, 1, 0] rfl)
set_option maxHeartbeats 4000000 in
set_option maxRecDepth 100000 in
theorem c_X0_sum (l : Launch) (dC : Nat → ClassId) (dI : Nat → Nat → Nat) (x a1 a2 a3 a4 a5 : Nat) (z1 z2 z3 z4 z5 : ClassId) (sz : Nat) (mo cf cl ac : Nat) (st : Int32) (T F G L S : Nat → Int32) (tk fd fs la : Nat → Nat) (g : sr_G mo ac cf cl tk fd fs la) (hI : sr_XI mo tk fd fs la T F G L) (hQ : sr_XS mo ac tk fd fs la st S) : Met l yX0_sum wsX0_sum ({ frames := 2, cells := 0, slots := 0, locals := 50 }) (sr_pre dC dI (sr_tX z1 z2 z3 z4 z5) (sr_wX x a1 a2 a3 a4 a5 z1 z2 z3 z4 z5 mo cf cl ac st T F G L S) sz [.ref x]) (va_Ql (fun (r : Int64) (u : va_W) => ∃ S' : Nat → Int32, u = sr_wX x a1 a2 a3 a4 a5 z1 z2 z3 z4 z5 mo cf cl ac 1 T F G L S' ∧ sr_XS mo ac tk fd fs la 1 S' ∧ r = lN (sr_sum (sr_sp mo ac tk fd fs la) (mo + 1))) (sr_at dC dI (sr_tX z1 z2 z3 z4 z5) (va_A (sr_wX x a1 a2 a3 a4 a5 z1 z2 z3 z4 z5 mo cf cl ac st T F G L S) sz)) (va_A (sr_wX x a1 a2 a3 a4 a5 z1 z2 z3 z4 z5 mo cf cl ac st T F G L S) sz)) 0 0 (va_A (sr_wX x a1 a2 a3 a4 a5 z1 z2 z3 z4 z5 mo cf cl ac st T F G L S) sz) := by
  refine Met.ofW (cc := cX0_sum) (maxL := 4) (ret := (some .long)) (by decide) rfl ?_
  intro p e s m args below meth c s₁ B hml hv
  obtain ⟨rfl, hsz, hP, hK, hD0⟩ := hv
  have hx := B.exec
  have hb := B.bytes
  have hr := B.returns
  have hts := atoms_spec (ws := wsX0_sum) B.pre
  have hown : s.vm.findClass RX0 = some m.cls := findClass_of_methodNamed B.named
  have hlocks := B.notSynchronized
  subst hsz
  have hD := hD0.self (sz := s.heap.size)
  generalize hAe : va_A (sr_wX x a1 a2 a3 a4 a5 z1 z2 z3 z4 z5 mo cf cl ac st T F G L S) s.heap.size = A at hD ⊢
  have hA : ∀ q : Nat, s.heap.size ≤ q → A q := fun q h => by rw [← hAe]; exact Or.inr h
  have hS : va_S A s.heap s.heap [] := va_S.rf
  have hP : va_P (dC, dI) vwCl [(x, .inr (0, [.ref a1, .ref a2, .ref a3, .ref a4, .ref a5, .int (nI mo), .int (nI cf), .int (nI cl), .int (nI ac), .int st])), (a1, .inl (z1, 2000, .inl T)), (a2, .inl (z2, 2000, .inl F)), (a3, .inl (z3, 2000, .inl G)), (a4, .inl (z4, 2000, .inl L)), (a5, .inl (z5, 2001, .inl S))] s.heap := hP
  have hD : va_D A [(x, .inr (0, [.ref a1, .ref a2, .ref a3, .ref a4, .ref a5, .int (nI mo), .int (nI cf), .int (nI cl), .int (nI ac), .int st])), (a1, .inl (z1, 2000, .inl T)), (a2, .inl (z2, 2000, .inl F)), (a3, .inl (z3, 2000, .inl G)), (a4, .inl (z4, 2000, .inl L)), (a5, .inl (z5, 2001, .inl S))] := hD
  have hK : va_K (dC, dI) vwCl [(z1, .int), (z2, .int), (z3, .int), (z4, .int), (z5, .int)] s := hK
  have hin0 : ∀ w ∈ u_ws RX0 TX0 10, w ∈ wsX0_sum := by decide +kernel
  have hl := lv_entry ([.ref x]) (n := 4) (Nat.le_of_ble_eq_true rfl)
  rw [lg_entry_eq]
  generalize (lg_sl ([.ref x]) ++ List.replicate (4 - (lg_sl ([.ref x])).length) Slot.unset).toArray = ls at hl ⊢
  have hl : lv_has ls 4 [(0, .ref x)] := hl
  have hmo : mo ≤ 2000 := g.1
  refine lv_aload_n hx hb dX0_sum_0 rfl (lv_at hl 0 rfl) ?_
  have hPc := hP.sub (ws' := [(x, .inr (0, [.ref a1, .ref a2, .ref a3, .ref a4, .ref a5, .int (nI mo), .int (nI cf), .int (nI cl), .int (nI ac), .int st])), (a1, .inl (z1, 2000, .inl T)), (a2, .inl (z2, 2000, .inl F)), (a3, .inl (z3, 2000, .inl G)), (a4, .inl (z4, 2000, .inl L)), (a5, .inl (z5, 2001, .inl S))]) [0, 1, 2, 3, 4, 5] rfl
  have hDc := hD.sub (ws' := [(x, .inr (0, [.ref a1, .ref a2, .ref a3, .ref a4, .ref a5, .int (nI mo), .int (nI cf), .int (nI cl), .int (nI ac), .int st])), (a1, .inl (z1, 2000, .inl T)), (a2, .inl (z2, 2000, .inl F)), (a3, .inl (z3, 2000, .inl G)), (a4, .inl (z4, 2000, .inl L)), (a5, .inl (z5, 2001, .inl S))]) [0, 1, 2, 3, 4, 5] (by decide) rfl
  have hKc := hK.sub (tys' := [(z1, .int), (z2, .int), (z3, .int), (z4, .int), (z5, .int)]) [0, 1, 2, 3, 4] rfl
  have hFc := va_free (wc := [(x, .inr (0, [.ref a1, .ref a2, .ref a3, .ref a4, .ref a5, .int (nI mo), .int (nI cf), .int (nI cl), .int (nI ac), .int st])), (a1, .inl (z1, 2000, .inl T)), (a2, .inl (z2, 2000, .inl F)), (a3, .inl (z3, 2000, .inl G)), (a4, .inl (z4, 2000, .inl L)), (a5, .inl (z5, 2001, .inl S))]) hD hS hA [0, 1, 2, 3, 4, 5] rfl
  refine va_callv (va_runV (As := []) (rest := []) ⟨hx, hb, hml, hown, hts⟩ (c_X0_reckonSpeeds l dC dI x a1 a2 a3 a4 a5 z1 z2 z3 z4 z5 s.heap.size mo cf cl ac st T F G L S tk fd fs la g hI hQ) (cwV 0 hts gX0_sum_X0_reckonSpeeds rfl rfl rfl (by decide +kernel) ⟨Nat.le_of_ble_eq_true rfl, Nat.le_of_ble_eq_true rfl⟩) ⟨sr_blind, va_recv hKc hPc (ci := 0) (q0 := 0) rfl rfl, sr_mk hPc hKc hDc⟩ rfl rfl hl.1 rfl (lv_room (Nat.le_of_ble_eq_true rfl)) dX0_sum_1 ⟨Nat.zero_le _, Nat.zero_le _⟩) hS (fun q _ h => hFc q h) hFc (fun u t H1 locs ht hvm hw hB hz1 hk1 hS => ?_)
  obtain ⟨hP1, hK1, hD1⟩ := hB
  rw [ht] at hP1
  obtain ⟨S2, rfl, hS2⟩ := hw
  obtain ⟨hP, hD⟩ := va_join (wr := []) (w1 := [(x, .inr (0, [.ref a1, .ref a2, .ref a3, .ref a4, .ref a5, .int (nI mo), .int (nI cf), .int (nI cl), .int (nI ac), .int 1])), (a1, .inl (z1, 2000, .inl T)), (a2, .inl (z2, 2000, .inl F)), (a3, .inl (z3, 2000, .inl G)), (a4, .inl (z4, 2000, .inl L)), (a5, .inl (z5, 2001, .inl S2))]) hP hD [0, 1, 2, 3, 4, 5] [] rfl rfl (by decide) (by decide) hk1 hFc hP1 hD1
  generalize H1 = H at hP hS ⊢
  have hP : va_P (dC, dI) vwCl [(x, .inr (0, [.ref a1, .ref a2, .ref a3, .ref a4, .ref a5, .int (nI mo), .int (nI cf), .int (nI cl), .int (nI ac), .int 1])), (a1, .inl (z1, 2000, .inl T)), (a2, .inl (z2, 2000, .inl F)), (a3, .inl (z3, 2000, .inl G)), (a4, .inl (z4, 2000, .inl L)), (a5, .inl (z5, 2001, .inl S2))] H := hP
  have hD : va_D A [(x, .inr (0, [.ref a1, .ref a2, .ref a3, .ref a4, .ref a5, .int (nI mo), .int (nI cf), .int (nI cl), .int (nI ac), .int 1])), (a1, .inl (z1, 2000, .inl T)), (a2, .inl (z2, 2000, .inl F)), (a3, .inl (z3, 2000, .inl G)), (a4, .inl (z4, 2000, .inl L)), (a5, .inl (z5, 2001, .inl S2))] := hD
  refine lv_lconst (v := lN 0) hx hb dX0_sum_4 (by decide) ?_
  refine lv_lstore_n (lv' := [(1, .long (lN 0)), (0, .ref x)]) hx hb dX0_sum_5 rfl hl (by decide) rfl (fun ls hl => ?_)
  refine lv_iconst (v := nI 0) hx hb dX0_sum_6 (by decide) ?_
  refine lv_istore_n (lv' := [(3, .int (nI 0)), (1, .long (lN 0)), (0, .ref x)]) hx hb dX0_sum_7 rfl hl (by decide) rfl (fun ls hl => ?_)
  refine lp_X0_sum ⟨hx, hb, hml, hown, hts⟩ (sp := sr_sp mo ac tk fd fs la) hmo (fun k q => sr_sp_le g q) hS2 hK hP (fun ls hl => ?_) (mo + 2) 0 ls (by omega) (by omega) (lv_sub hl [2, 1, 0] rfl)
  refine lv_lload_n hx hb dX0_sum_32 rfl (lv_at hl 0 rfl) ?_
  exact W.lret (v := lN (sr_sum (sr_sp mo ac tk fd fs la) (mo + 1))) hx hb hr (fun t ht hW => ⟨⟨lN (sr_sum (sr_sp mo ac tk fd fs la) (mo + 1)), _, rfl, ⟨S2, rfl, Or.inr ⟨rfl, hS2⟩, rfl⟩, by rw [ht]; exact hP, va_K.moved hW.alike hK, hD⟩, hS.F ht⟩) hS.2.2 dX0_sum_33
set_option maxHeartbeats 4000000 in
set_option maxRecDepth 100000 in
theorem lp_X0_below {p : Program} {l : Launch} {e : Env} {R : Room} {s : State} {m : MethodId} {args : Array Value} {below : List Frame} {meth : Method} {c : Code} {Q : State → Prop} (C0 : CallFix p m c cX0_below 3 s args wsX0_below RX0) {dC : Nat → ClassId} {dI : Nat → Nat → Nat} {x a1 a2 a3 a4 a5 : Nat} {z1 z2 z3 z4 z5 : ClassId} {mo cf cl ac : Nat} {st : Int32} {T F G L S : Nat → Int32} {sp : Nat → Nat} (hmo : mo ≤ 2000) (hsp : ∀ k, k ≤ mo → sp k ≤ 99999) (hS2 : ∀ k, k ≤ mo → S k = nI (sp k)) (hK : va_K (dC, dI) vwCl (sr_tX z1 z2 z3 z4 z5) s) {A : Nat → Prop} {H0 : Heap} {tk fd fs la : Nat → Nat} (hRf : 1 ≤ R.frames) (hRl : 21 ≤ R.locals) (hI : sr_XI mo tk fd fs la T F G L) (hA : ∀ q, H0.size ≤ q → A q) (hlm : ∀ k, sr_lim mo fd fs la k ≤ 99999)
    (hk : ∀ (H : Heap) (locs : List Loc) (ls : Array Slot), va_P (dC, dI) vwCl (sr_wX x a1 a2 a3 a4 a5 z1 z2 z3 z4 z5 mo cf cl ac st T F G L S) H → va_D A (sr_wX x a1 a2 a3 a4 a5 z1 z2 z3 z4 z5 mo cf cl ac st T F G L S) → va_S A H0 H locs → lv_has ls 3 [(1, .int (nI (sr_cnt sp (sr_lim mo fd fs la) (mo + 1))))] → W p l e R s m args below meth c H locs 0 0 Q (F0 m 39 ls [])) :
    ∀ (n i : Nat) (H : Heap) (locs : List Loc) (ls : Array Slot), i ≤ mo + 1 → mo + 2 ≤ i + n → va_P (dC, dI) vwCl (sr_wX x a1 a2 a3 a4 a5 z1 z2 z3 z4 z5 mo cf cl ac st T F G L S) H → va_D A (sr_wX x a1 a2 a3 a4 a5 z1 z2 z3 z4 z5 mo cf cl ac st T F G L S) → va_S A H0 H locs → lv_has ls 3 [(0, .ref x), (1, .int (nI (sr_cnt sp (sr_lim mo fd fs la) i))), (2, .int (nI i))] → W p l e R s m args below meth c H locs 0 0 Q (F0 m 8 ls []) := by
  obtain ⟨hx, hb, hml, hown, hts⟩ := C0
  have hin0 : ∀ w ∈ u_ws RX0 TX0 10, w ∈ wsX0_below := by decide +kernel
  have hK : va_K (dC, dI) vwCl [(z1, .int), (z2, .int), (z3, .int), (z4, .int), (z5, .int)] s := hK
  intro n
  induction n with
  | zero =>
    intro i H locs ls h1 h2
    exact absurd h2 (by omega)
  | succ n ih =>
    intro i H locs ls h1 h2 hP hD hS hl
    have hP : va_P (dC, dI) vwCl [(x, .inr (0, [.ref a1, .ref a2, .ref a3, .ref a4, .ref a5, .int (nI mo), .int (nI cf), .int (nI cl), .int (nI ac), .int st])), (a1, .inl (z1, 2000, .inl T)), (a2, .inl (z2, 2000, .inl F)), (a3, .inl (z3, 2000, .inl G)), (a4, .inl (z4, 2000, .inl L)), (a5, .inl (z5, 2001, .inl S))] H := hP
    have hD : va_D A [(x, .inr (0, [.ref a1, .ref a2, .ref a3, .ref a4, .ref a5, .int (nI mo), .int (nI cf), .int (nI cl), .int (nI ac), .int st])), (a1, .inl (z1, 2000, .inl T)), (a2, .inl (z2, 2000, .inl F)), (a3, .inl (z3, 2000, .inl G)), (a4, .inl (z4, 2000, .inl L)), (a5, .inl (z5, 2001, .inl S))] := hD
    refine lv_iload_n hx hb dX0_below_8 rfl (lv_at hl 2 rfl) ?_
    refine lv_aload_n hx hb dX0_below_9 rfl (lv_at hl 0 rfl) ?_
    refine va_get (D := (dC, dI)) (ci := 0) (v := .int (nI mo)) (C := RX0) (T := TX0) (N := 10) hx hb hts hin0 hown hK hP 0 rfl rfl 5 (by decide) (hts (.fieldLink RX0 25 "SpeedRows" "moves" "I") (by decide +kernel)) (fun _ h9 => h9) rfl dX0_below_10 ?_
    refine lv_icmp_gt (tgt := 39) hx hb dX0_below_13 (by decide) (fun c1 => ?_) (fun c1 => ?_)
    · have e1 : mo < i := (nI_ltI (by omega) (by omega)).mp c1
      obtain rfl : i = mo + 1 := by omega
      exact hk H locs ls hP hD hS (lv_sub hl [1] rfl)
    · have e1 : i ≤ mo := by
        rcases Nat.lt_or_ge mo i with q | q
        · exact absurd ((nI_ltI (by omega) (by omega)).mpr q) c1
        · exact q
      have e2 := hsp i e1
      have e3 := hlm i
      refine lv_aload_n hx hb dX0_below_16 rfl (lv_at hl 0 rfl) ?_
      refine va_get (D := (dC, dI)) (ci := 0) (v := .ref a5) (C := RX0) (T := TX0) (N := 10) hx hb hts hin0 hown hK hP 0 rfl rfl 4 (by decide) (hts (.fieldLink RX0 22 "SpeedRows" "speeds" "[I") (by decide +kernel)) (fun _ h9 => h9) rfl dX0_below_17 ?_
      refine lv_iload_n hx hb dX0_below_20 rfl (lv_at hl 2 rfl) ?_
      refine sr_iald (v := nI (sp i)) hx hb hK hP 5 4 rfl rfl (by omega) (by decide) (hS2 i e1) dX0_below_21 ?_
      refine lv_aload_n hx hb dX0_below_22 rfl (lv_at hl 0 rfl) ?_
      refine lv_iload_n hx hb dX0_below_23 rfl (lv_at hl 2 rfl) ?_
      have hPc := hP.sub (ws' := [(x, .inr (0, [.ref a1, .ref a2, .ref a3, .ref a4, .ref a5, .int (nI mo), .int (nI cf), .int (nI cl), .int (nI ac), .int st])), (a1, .inl (z1, 2000, .inl T)), (a2, .inl (z2, 2000, .inl F)), (a3, .inl (z3, 2000, .inl G)), (a4, .inl (z4, 2000, .inl L)), (a5, .inl (z5, 2001, .inl S))]) [0, 1, 2, 3, 4, 5] rfl
      have hDc := hD.sub (ws' := [(x, .inr (0, [.ref a1, .ref a2, .ref a3, .ref a4, .ref a5, .int (nI mo), .int (nI cf), .int (nI cl), .int (nI ac), .int st])), (a1, .inl (z1, 2000, .inl T)), (a2, .inl (z2, 2000, .inl F)), (a3, .inl (z3, 2000, .inl G)), (a4, .inl (z4, 2000, .inl L)), (a5, .inl (z5, 2001, .inl S))]) [0, 1, 2, 3, 4, 5] (by decide) rfl
      have hKc := hK.sub (tys' := [(z1, .int), (z2, .int), (z3, .int), (z4, .int), (z5, .int)]) [0, 1, 2, 3, 4] rfl
      have hFc := va_free (wc := [(x, .inr (0, [.ref a1, .ref a2, .ref a3, .ref a4, .ref a5, .int (nI mo), .int (nI cf), .int (nI cl), .int (nI ac), .int st])), (a1, .inl (z1, 2000, .inl T)), (a2, .inl (z2, 2000, .inl F)), (a3, .inl (z3, 2000, .inl G)), (a4, .inl (z4, 2000, .inl L)), (a5, .inl (z5, 2001, .inl S))]) hD hS hA [0, 1, 2, 3, 4, 5] rfl
      refine va_calli (va_runV (As := [.int (nI i)]) (rest := [.int (nI (sp i))]) ⟨hx, hb, hml, hown, hts⟩ (c_X0_limitAt l dC dI x a1 a2 a3 a4 a5 z1 z2 z3 z4 z5 H.size mo cf cl ac st T F G L S tk fd fs la i hI hmo (by omega)) (cwV 1 hts gX0_below_X0_limitAt rfl rfl rfl (by decide +kernel) ⟨Nat.le_trans (show _ ≤ 1 from Nat.le_of_ble_eq_true rfl) hRf, Nat.le_trans (show _ ≤ 21 from Nat.le_of_ble_eq_true rfl) hRl⟩) ⟨sr_blind, va_recv hKc hPc (ci := 0) (q0 := 0) rfl rfl, sr_mk hPc hKc hDc⟩ rfl rfl hl.1 rfl (lv_room (Nat.le_of_ble_eq_true rfl)) dX0_below_24 ⟨Nat.zero_le _, Nat.zero_le _⟩) hS (fun q _ h => hFc q h) hFc (fun r1 u t H1 locs ht hvm hw hB hz1 hk1 hS => ?_)
      obtain ⟨hP1, hK1, hD1⟩ := hB
      rw [ht] at hP1
      obtain ⟨rfl, rfl⟩ := hw
      obtain ⟨hP, hD⟩ := va_join (wr := []) (w1 := [(x, .inr (0, [.ref a1, .ref a2, .ref a3, .ref a4, .ref a5, .int (nI mo), .int (nI cf), .int (nI cl), .int (nI ac), .int st])), (a1, .inl (z1, 2000, .inl T)), (a2, .inl (z2, 2000, .inl F)), (a3, .inl (z3, 2000, .inl G)), (a4, .inl (z4, 2000, .inl L)), (a5, .inl (z5, 2001, .inl S))]) hP hD [0, 1, 2, 3, 4, 5] [] rfl rfl (by decide) (by decide) hk1 hFc hP1 hD1
      generalize H1 = H at hP hS ⊢
      have hP : va_P (dC, dI) vwCl [(x, .inr (0, [.ref a1, .ref a2, .ref a3, .ref a4, .ref a5, .int (nI mo), .int (nI cf), .int (nI cl), .int (nI ac), .int st])), (a1, .inl (z1, 2000, .inl T)), (a2, .inl (z2, 2000, .inl F)), (a3, .inl (z3, 2000, .inl G)), (a4, .inl (z4, 2000, .inl L)), (a5, .inl (z5, 2001, .inl S))] H := hP
      have hD : va_D A [(x, .inr (0, [.ref a1, .ref a2, .ref a3, .ref a4, .ref a5, .int (nI mo), .int (nI cf), .int (nI cl), .int (nI ac), .int st])), (a1, .inl (z1, 2000, .inl T)), (a2, .inl (z2, 2000, .inl F)), (a3, .inl (z3, 2000, .inl G)), (a4, .inl (z4, 2000, .inl L)), (a5, .inl (z5, 2001, .inl S))] := hD
      refine lv_icmp_ge (tgt := 33) hx hb dX0_below_27 (by decide) (fun c2 => ?_) (fun c2 => ?_)
      · have e4 : ¬ sp i < sr_lim mo fd fs la i := fun q => absurd c2 (nI_ge q (by omega))
        have e5 : sr_cnt sp (sr_lim mo fd fs la) (i + 1) = sr_cnt sp (sr_lim mo fd fs la) i := by rw [sr_cnt, if_neg e4]; rfl
        refine lv_iinc (v := nI (i + 1)) (lv' := [(2, .int (nI (i + 1))), (0, .ref x), (1, .int (nI (sr_cnt sp (sr_lim mo fd fs la) i)))]) hx hb dX0_below_33 hl (k := 2) rfl (nI_1 _) (by decide) rfl (fun ls hl => ?_)
        refine lv_goto (tgt := 8) hx hb dX0_below_36 (by decide) ?_
        exact ih (i + 1) H locs ls (by omega) (by omega) hP hD hS (by rw [e5]; exact lv_sub hl [1, 2, 0] rfl)
      · have e4 : sp i < sr_lim mo fd fs la i := Nat.lt_of_not_le (fun q => c2 (nI_le q (by omega)))
        have e5 : sr_cnt sp (sr_lim mo fd fs la) (i + 1) = sr_cnt sp (sr_lim mo fd fs la) i + 1 := by rw [sr_cnt, if_pos e4]
        refine lv_iinc (v := nI ((sr_cnt sp (sr_lim mo fd fs la) i) + 1)) (lv' := [(1, .int (nI ((sr_cnt sp (sr_lim mo fd fs la) i) + 1))), (0, .ref x), (2, .int (nI i))]) hx hb dX0_below_30 hl (k := 1) rfl (nI_1 _) (by decide) rfl (fun ls hl => ?_)
        refine lv_iinc (v := nI (i + 1)) (lv' := [(2, .int (nI (i + 1))), (1, .int (nI ((sr_cnt sp (sr_lim mo fd fs la) i) + 1))), (0, .ref x)]) hx hb dX0_below_33 hl (k := 2) rfl (nI_1 _) (by decide) rfl (fun ls hl => ?_)
        refine lv_goto (tgt := 8) hx hb dX0_below_36 (by decide) ?_
        exact ih (i + 1) H locs ls (by omega) (by omega) hP hD hS (by rw [e5]; exact lv_sub hl [2, 1, 0] rfl)
set_option maxHeartbeats 4000000 in
set_option maxRecDepth 100000 in
theorem c_X0_below (l : Launch) (dC : Nat → ClassId) (dI : Nat → Nat → Nat) (x a1 a2 a3 a4 a5 : Nat) (z1 z2 z3 z4 z5 : ClassId) (sz : Nat) (mo cf cl ac : Nat) (st : Int32) (T F G L S : Nat → Int32) (tk fd fs la : Nat → Nat) (g : sr_G mo ac cf cl tk fd fs la) (hI : sr_XI mo tk fd fs la T F G L) (hQ : sr_XS mo ac tk fd fs la st S) : Met l yX0_below wsX0_below ({ frames := 2, cells := 0, slots := 0, locals := 50 }) (sr_pre dC dI (sr_tX z1 z2 z3 z4 z5) (sr_wX x a1 a2 a3 a4 a5 z1 z2 z3 z4 z5 mo cf cl ac st T F G L S) sz [.ref x]) (va_Qi (fun (r : Int32) (u : va_W) => ∃ S' : Nat → Int32, u = sr_wX x a1 a2 a3 a4 a5 z1 z2 z3 z4 z5 mo cf cl ac 1 T F G L S' ∧ sr_XS mo ac tk fd fs la 1 S' ∧ r = nI (sr_cnt (sr_sp mo ac tk fd fs la) (sr_lim mo fd fs la) (mo + 1))) (sr_at dC dI (sr_tX z1 z2 z3 z4 z5) (va_A (sr_wX x a1 a2 a3 a4 a5 z1 z2 z3 z4 z5 mo cf cl ac st T F G L S) sz)) (va_A (sr_wX x a1 a2 a3 a4 a5 z1 z2 z3 z4 z5 mo cf cl ac st T F G L S) sz)) 0 0 (va_A (sr_wX x a1 a2 a3 a4 a5 z1 z2 z3 z4 z5 mo cf cl ac st T F G L S) sz) := by
  refine Met.ofW (cc := cX0_below) (maxL := 3) (ret := (some .int)) (by decide) rfl ?_
  intro p e s m args below meth c s₁ B hml hv
  obtain ⟨rfl, hsz, hP, hK, hD0⟩ := hv
  have hx := B.exec
  have hb := B.bytes
  have hr := B.returns
  have hts := atoms_spec (ws := wsX0_below) B.pre
  have hown : s.vm.findClass RX0 = some m.cls := findClass_of_methodNamed B.named
  have hlocks := B.notSynchronized
  subst hsz
  have hD := hD0.self (sz := s.heap.size)
  generalize hAe : va_A (sr_wX x a1 a2 a3 a4 a5 z1 z2 z3 z4 z5 mo cf cl ac st T F G L S) s.heap.size = A at hD ⊢
  have hA : ∀ q : Nat, s.heap.size ≤ q → A q := fun q h => by rw [← hAe]; exact Or.inr h
  have hS : va_S A s.heap s.heap [] := va_S.rf
  have hP : va_P (dC, dI) vwCl [(x, .inr (0, [.ref a1, .ref a2, .ref a3, .ref a4, .ref a5, .int (nI mo), .int (nI cf), .int (nI cl), .int (nI ac), .int st])), (a1, .inl (z1, 2000, .inl T)), (a2, .inl (z2, 2000, .inl F)), (a3, .inl (z3, 2000, .inl G)), (a4, .inl (z4, 2000, .inl L)), (a5, .inl (z5, 2001, .inl S))] s.heap := hP
  have hD : va_D A [(x, .inr (0, [.ref a1, .ref a2, .ref a3, .ref a4, .ref a5, .int (nI mo), .int (nI cf), .int (nI cl), .int (nI ac), .int st])), (a1, .inl (z1, 2000, .inl T)), (a2, .inl (z2, 2000, .inl F)), (a3, .inl (z3, 2000, .inl G)), (a4, .inl (z4, 2000, .inl L)), (a5, .inl (z5, 2001, .inl S))] := hD
  have hK : va_K (dC, dI) vwCl [(z1, .int), (z2, .int), (z3, .int), (z4, .int), (z5, .int)] s := hK
  have hin0 : ∀ w ∈ u_ws RX0 TX0 10, w ∈ wsX0_below := by decide +kernel
  have hl := lv_entry ([.ref x]) (n := 3) (Nat.le_of_ble_eq_true rfl)
  rw [lg_entry_eq]
  generalize (lg_sl ([.ref x]) ++ List.replicate (3 - (lg_sl ([.ref x])).length) Slot.unset).toArray = ls at hl ⊢
  have hl : lv_has ls 3 [(0, .ref x)] := hl
  have hmo : mo ≤ 2000 := g.1
  refine lv_aload_n hx hb dX0_below_0 rfl (lv_at hl 0 rfl) ?_
  have hPc := hP.sub (ws' := [(x, .inr (0, [.ref a1, .ref a2, .ref a3, .ref a4, .ref a5, .int (nI mo), .int (nI cf), .int (nI cl), .int (nI ac), .int st])), (a1, .inl (z1, 2000, .inl T)), (a2, .inl (z2, 2000, .inl F)), (a3, .inl (z3, 2000, .inl G)), (a4, .inl (z4, 2000, .inl L)), (a5, .inl (z5, 2001, .inl S))]) [0, 1, 2, 3, 4, 5] rfl
  have hDc := hD.sub (ws' := [(x, .inr (0, [.ref a1, .ref a2, .ref a3, .ref a4, .ref a5, .int (nI mo), .int (nI cf), .int (nI cl), .int (nI ac), .int st])), (a1, .inl (z1, 2000, .inl T)), (a2, .inl (z2, 2000, .inl F)), (a3, .inl (z3, 2000, .inl G)), (a4, .inl (z4, 2000, .inl L)), (a5, .inl (z5, 2001, .inl S))]) [0, 1, 2, 3, 4, 5] (by decide) rfl
  have hKc := hK.sub (tys' := [(z1, .int), (z2, .int), (z3, .int), (z4, .int), (z5, .int)]) [0, 1, 2, 3, 4] rfl
  have hFc := va_free (wc := [(x, .inr (0, [.ref a1, .ref a2, .ref a3, .ref a4, .ref a5, .int (nI mo), .int (nI cf), .int (nI cl), .int (nI ac), .int st])), (a1, .inl (z1, 2000, .inl T)), (a2, .inl (z2, 2000, .inl F)), (a3, .inl (z3, 2000, .inl G)), (a4, .inl (z4, 2000, .inl L)), (a5, .inl (z5, 2001, .inl S))]) hD hS hA [0, 1, 2, 3, 4, 5] rfl
  refine va_callv (va_runV (As := []) (rest := []) ⟨hx, hb, hml, hown, hts⟩ (c_X0_reckonSpeeds l dC dI x a1 a2 a3 a4 a5 z1 z2 z3 z4 z5 s.heap.size mo cf cl ac st T F G L S tk fd fs la g hI hQ) (cwV 0 hts gX0_below_X0_reckonSpeeds rfl rfl rfl (by decide +kernel) ⟨Nat.le_of_ble_eq_true rfl, Nat.le_of_ble_eq_true rfl⟩) ⟨sr_blind, va_recv hKc hPc (ci := 0) (q0 := 0) rfl rfl, sr_mk hPc hKc hDc⟩ rfl rfl hl.1 rfl (lv_room (Nat.le_of_ble_eq_true rfl)) dX0_below_1 ⟨Nat.zero_le _, Nat.zero_le _⟩) hS (fun q _ h => hFc q h) hFc (fun u t H1 locs ht hvm hw hB hz1 hk1 hS => ?_)
  obtain ⟨hP1, hK1, hD1⟩ := hB
  rw [ht] at hP1
  obtain ⟨S2, rfl, hS2⟩ := hw
  obtain ⟨hP, hD⟩ := va_join (wr := []) (w1 := [(x, .inr (0, [.ref a1, .ref a2, .ref a3, .ref a4, .ref a5, .int (nI mo), .int (nI cf), .int (nI cl), .int (nI ac), .int 1])), (a1, .inl (z1, 2000, .inl T)), (a2, .inl (z2, 2000, .inl F)), (a3, .inl (z3, 2000, .inl G)), (a4, .inl (z4, 2000, .inl L)), (a5, .inl (z5, 2001, .inl S2))]) hP hD [0, 1, 2, 3, 4, 5] [] rfl rfl (by decide) (by decide) hk1 hFc hP1 hD1
  generalize H1 = H at hP hS ⊢
  have hP : va_P (dC, dI) vwCl [(x, .inr (0, [.ref a1, .ref a2, .ref a3, .ref a4, .ref a5, .int (nI mo), .int (nI cf), .int (nI cl), .int (nI ac), .int 1])), (a1, .inl (z1, 2000, .inl T)), (a2, .inl (z2, 2000, .inl F)), (a3, .inl (z3, 2000, .inl G)), (a4, .inl (z4, 2000, .inl L)), (a5, .inl (z5, 2001, .inl S2))] H := hP
  have hD : va_D A [(x, .inr (0, [.ref a1, .ref a2, .ref a3, .ref a4, .ref a5, .int (nI mo), .int (nI cf), .int (nI cl), .int (nI ac), .int 1])), (a1, .inl (z1, 2000, .inl T)), (a2, .inl (z2, 2000, .inl F)), (a3, .inl (z3, 2000, .inl G)), (a4, .inl (z4, 2000, .inl L)), (a5, .inl (z5, 2001, .inl S2))] := hD
  refine lv_iconst (v := nI 0) hx hb dX0_below_4 (by decide) ?_
  refine lv_istore_n (lv' := [(1, .int (nI 0)), (0, .ref x)]) hx hb dX0_below_5 rfl hl (by decide) rfl (fun ls hl => ?_)
  refine lv_iconst (v := nI 0) hx hb dX0_below_6 (by decide) ?_
  refine lv_istore_n (lv' := [(2, .int (nI 0)), (1, .int (nI 0)), (0, .ref x)]) hx hb dX0_below_7 rfl hl (by decide) rfl (fun ls hl => ?_)
  refine lp_X0_below ⟨hx, hb, hml, hown, hts⟩ (sp := sr_sp mo ac tk fd fs la) hmo (fun k q => sr_sp_le g q) hS2 hK (Nat.le_of_ble_eq_true rfl) (Nat.le_of_ble_eq_true rfl) hI hA (fun k => sr_lim_le g k) (fun H locs ls hP hD hS hl => ?_) (mo + 2) 0 H locs ls (by omega) (by omega) hP hD hS (lv_sub hl [2, 1, 0] rfl)
  have hP : va_P (dC, dI) vwCl [(x, .inr (0, [.ref a1, .ref a2, .ref a3, .ref a4, .ref a5, .int (nI mo), .int (nI cf), .int (nI cl), .int (nI ac), .int 1])), (a1, .inl (z1, 2000, .inl T)), (a2, .inl (z2, 2000, .inl F)), (a3, .inl (z3, 2000, .inl G)), (a4, .inl (z4, 2000, .inl L)), (a5, .inl (z5, 2001, .inl S2))] H := hP
  have hD : va_D A [(x, .inr (0, [.ref a1, .ref a2, .ref a3, .ref a4, .ref a5, .int (nI mo), .int (nI cf), .int (nI cl), .int (nI ac), .int 1])), (a1, .inl (z1, 2000, .inl T)), (a2, .inl (z2, 2000, .inl F)), (a3, .inl (z3, 2000, .inl G)), (a4, .inl (z4, 2000, .inl L)), (a5, .inl (z5, 2001, .inl S2))] := hD
  refine lv_iload_n hx hb dX0_below_39 rfl (lv_at hl 0 rfl) ?_
  exact W.iret (v := nI (sr_cnt (sr_sp mo ac tk fd fs la) (sr_lim mo fd fs la) (mo + 1))) hx hb hr (fun t ht hW => ⟨⟨nI (sr_cnt (sr_sp mo ac tk fd fs la) (sr_lim mo fd fs la) (mo + 1)), _, rfl, ⟨S2, rfl, Or.inr ⟨rfl, hS2⟩, rfl⟩, by rw [ht]; exact hP, va_K.moved hW.alike hK, hD⟩, hS.F ht⟩) hS.2.2 dX0_below_40
