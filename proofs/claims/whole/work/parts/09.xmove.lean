/-! THE CLASS: move. -/
theorem sr_tm_up {mo f1 cf cl i : Nat} {fd fs la : Nat → Nat} (h : i < mo) : sr_tm (sr_up fd mo f1) (sr_up fs mo cf) (sr_up la mo cl) i = sr_tm fd fs la i := by
  have h1 : i - 1 ≠ mo := by omega
  have h2 : i ≠ mo := by omega
  unfold sr_tm
  simp only [sr_up_n h1, sr_up_n h2]
theorem sr_XI_push {mo : Nat} {tk fd fs la : Nat → Nat} {T F G L : Nat → Int32} (hI : sr_XI mo tk fd fs la T F G L) (n1 f1 cf cl : Nat) : sr_XI (mo + 1) (sr_up tk mo n1) (sr_up fd mo f1) (sr_up fs mo cf) (sr_up la mo cl) (upd T mo (nI n1)) (upd F mo (nI f1)) (upd G mo (nI cl)) (upd L mo (nI (sr_tm (sr_up fd mo f1) (sr_up fs mo cf) (sr_up la mo cl) mo))) := by
  intro i hi
  rcases Nat.lt_or_ge i mo with h | h
  · have e : i ≠ mo := by omega
    rw [pk_un e, pk_un e, pk_un e, pk_un e, sr_up_n e, sr_up_n e, sr_up_n e, sr_tm_up h]
    exact hI i h
  · obtain rfl : i = mo := by omega
    rw [pk_us, pk_us, pk_us, pk_us, sr_up_s, sr_up_s, sr_up_s]
    exact ⟨rfl, rfl, rfl, rfl⟩
set_option maxHeartbeats 4000000 in
set_option maxRecDepth 100000 in
theorem c_X0_move (l : Launch) (dC : Nat → ClassId) (dI : Nat → Nat → Nat) (x a1 a2 a3 a4 a5 : Nat) (z1 z2 z3 z4 z5 : ClassId) (sz : Nat) (mo cf cl ac : Nat) (st : Int32) (T F G L S : Nat → Int32) (n f : Int32) (tk fd fs la : Nat → Nat) (g : sr_G mo ac cf cl tk fd fs la) (hI : sr_XI mo tk fd fs la T F G L) : Met l yX0_move wsX0_move ({ frames := 3, cells := 0, slots := 0, locals := 68 }) (sr_pre dC dI (sr_tX z1 z2 z3 z4 z5) (sr_wX x a1 a2 a3 a4 a5 z1 z2 z3 z4 z5 mo cf cl ac st T F G L S) sz [.ref x, .int n, .int f]) (va_Qi (fun (r : Int32) (u : va_W) => (((1 ≤ n ∧ n ≤ 100000) ∧ (1 ≤ f ∧ f ≤ 99999) ∧ mo < 2000) ∧ r = nI (mo + 1) ∧ ∃ T' F' G' L' : Nat → Int32, u = sr_wX x a1 a2 a3 a4 a5 z1 z2 z3 z4 z5 (mo + 1) cf cl ac 0 T' F' G' L' S ∧ sr_XI (mo + 1) (sr_up tk mo n.toNatClampNeg) (sr_up fd mo f.toNatClampNeg) (sr_up fs mo cf) (sr_up la mo cl) T' F' G' L') ∨ (¬ ((1 ≤ n ∧ n ≤ 100000) ∧ (1 ≤ f ∧ f ≤ 99999) ∧ mo < 2000) ∧ r = -1 ∧ u = sr_wX x a1 a2 a3 a4 a5 z1 z2 z3 z4 z5 mo cf cl ac st T F G L S)) (sr_at dC dI (sr_tX z1 z2 z3 z4 z5) (va_A (sr_wX x a1 a2 a3 a4 a5 z1 z2 z3 z4 z5 mo cf cl ac st T F G L S) sz)) (va_A (sr_wX x a1 a2 a3 a4 a5 z1 z2 z3 z4 z5 mo cf cl ac st T F G L S) sz)) 0 0 (va_A (sr_wX x a1 a2 a3 a4 a5 z1 z2 z3 z4 z5 mo cf cl ac st T F G L S) sz) := by
  refine Met.ofW (cc := cX0_move) (maxL := 3) (ret := (some .int)) (by decide) rfl ?_
  intro p e s m args below meth c s₁ B hml hv
  obtain ⟨rfl, hsz, hP, hK, hD0⟩ := hv
  have hx := B.exec
  have hb := B.bytes
  have hr := B.returns
  have hts := atoms_spec (ws := wsX0_move) B.pre
  have hown : s.vm.findClass RX0 = some m.cls := findClass_of_methodNamed B.named
  have hlocks := B.notSynchronized
  subst hsz
  have hD := hD0.self (sz := s.heap.size)
  generalize hAe : va_A (sr_wX x a1 a2 a3 a4 a5 z1 z2 z3 z4 z5 mo cf cl ac st T F G L S) s.heap.size = A at hD ⊢
  have hA : ∀ q : Nat, s.heap.size ≤ q → A q := fun q h => by rw [← hAe]; exact Or.inr h
  have hS : va_S A s.heap s.heap [] := va_S.rf
  have hP : va_P (dC, dI) vwCl [(x, .inr (0, [.ref a1, .ref a2, .ref a3, .ref a4, .ref a5, .int (nI mo), .int (nI cf), .int (nI cl), .int (nI ac), .int st])), (a1, .inl (z1, 2000, .inl T)), (a2, .inl (z2, 2000, .inl F)), (a3, .inl (z3, 2000, .inl G)), (a4, .inl (z4, 2000, .inl L)), (a5, .inl (z5, 2001, .inl S))] s.heap := hP
  have hD : va_D A [(x, .inr (0, [.ref a1, .ref a2, .ref a3, .ref a4, .ref a5, .int (nI mo), .int (nI cf), .int (nI cl), .int (nI ac), .int st])), (a1, .inl (z1, 2000, .inl T)), (a2, .inl (z2, 2000, .inl F)), (a3, .inl (z3, 2000, .inl G)), (a4, .inl (z4, 2000, .inl L)), (a5, .inl (z5, 2001, .inl S))] := hD
  have hK : va_K (dC, dI) vwCl [(z1, .int), (z2, .int), (z3, .int), (z4, .int), (z5, .int)] s := hK
  have hin0 : ∀ w ∈ u_ws RX0 TX0 10, w ∈ wsX0_move := by decide +kernel
  have hl := lv_entry ([.ref x, .int n, .int f]) (n := 3) (Nat.le_of_ble_eq_true rfl)
  rw [lg_entry_eq]
  generalize (lg_sl ([.ref x, .int n, .int f]) ++ List.replicate (3 - (lg_sl ([.ref x, .int n, .int f])).length) Slot.unset).toArray = ls at hl ⊢
  have hl : lv_has ls 3 [(0, .ref x), (1, .int n), (2, .int f)] := hl
  obtain ⟨hmo, ⟨hac1, hac2⟩, hcf, hcl, hpath⟩ := id g
  refine lv_iload_n hx hb dX0_move_0 rfl (lv_at hl 1 rfl) ?_
  refine lv_iconst (v := 1) hx hb dX0_move_1 (by decide) ?_
  refine lv_ldc (v := 100000) hx hb hown (hts (.constant RX0 50 (100000)) (by decide +kernel)) dX0_move_2 ?_
  refine vp_callSi (W.runS (As := [.int n, .int 1, .int 100000]) (rest := []) ⟨hx, hb, hml, hown, hts⟩ (c_X0_isWithin l n 1 100000) (va_cwS 3 hts gX0_move_X0_isWithin rfl rfl rfl (by decide +kernel) ⟨Nat.le_of_ble_eq_true rfl, Nat.le_of_ble_eq_true rfl⟩) ⟨sr_blindT, sr_mkT⟩ rfl rfl hl.1 rfl (lv_room (Nat.le_of_ble_eq_true rfl)) dX0_move_4 ⟨Nat.zero_le _, Nat.zero_le _⟩) (fun r1 e1 => ?_)
  refine lv_if_eq (tgt := 30) hx hb dX0_move_7 (by decide) (fun c1 => ?_) (fun c1 => ?_)
  · have hc : ¬ (1 ≤ n ∧ n ≤ 100000) := by
      rcases e1 with ⟨q, _⟩ | ⟨_, q⟩
      · exact absurd (q.symm.trans c1) (by decide)
      · exact q
    refine lv_iconst (v := (-1)) hx hb dX0_move_30 (by decide) ?_
    exact W.iret (v := (-1)) hx hb hr (fun t ht hW => ⟨⟨(-1), _, rfl, Or.inr ⟨fun q => hc q.1, rfl, rfl⟩, by rw [ht]; exact hP, va_K.moved hW.alike hK, hD⟩, hS.F ht⟩) hS.2.2 dX0_move_31
  · have hc : 1 ≤ n ∧ n ≤ 100000 := by
      rcases e1 with ⟨_, q⟩ | ⟨q, _⟩
      · exact q
      · exact absurd q c1
    have hn := hc
    refine lv_iload_n hx hb dX0_move_10 rfl (lv_at hl 2 rfl) ?_
    refine lv_iconst (v := 1) hx hb dX0_move_11 (by decide) ?_
    refine lv_ldc (v := 99999) hx hb hown (hts (.constant RX0 54 (99999)) (by decide +kernel)) dX0_move_12 ?_
    refine vp_callSi (W.runS (As := [.int f, .int 1, .int 99999]) (rest := []) ⟨hx, hb, hml, hown, hts⟩ (c_X0_isWithin l f 1 99999) (va_cwS 3 hts gX0_move_X0_isWithin rfl rfl rfl (by decide +kernel) ⟨Nat.le_of_ble_eq_true rfl, Nat.le_of_ble_eq_true rfl⟩) ⟨sr_blindT, sr_mkT⟩ rfl rfl hl.1 rfl (lv_room (Nat.le_of_ble_eq_true rfl)) dX0_move_14 ⟨Nat.zero_le _, Nat.zero_le _⟩) (fun r2 e2 => ?_)
    refine lv_if_eq (tgt := 30) hx hb dX0_move_17 (by decide) (fun c2 => ?_) (fun c2 => ?_)
    · have hc : ¬ (1 ≤ f ∧ f ≤ 99999) := by
        rcases e2 with ⟨q, _⟩ | ⟨_, q⟩
        · exact absurd (q.symm.trans c2) (by decide)
        · exact q
      refine lv_iconst (v := (-1)) hx hb dX0_move_30 (by decide) ?_
      exact W.iret (v := (-1)) hx hb hr (fun t ht hW => ⟨⟨(-1), _, rfl, Or.inr ⟨fun q => hc q.2.1, rfl, rfl⟩, by rw [ht]; exact hP, va_K.moved hW.alike hK, hD⟩, hS.F ht⟩) hS.2.2 dX0_move_31
    · have hc : 1 ≤ f ∧ f ≤ 99999 := by
        rcases e2 with ⟨_, q⟩ | ⟨q, _⟩
        · exact q
        · exact absurd q c2
      have hf := hc
      refine lv_aload_n hx hb dX0_move_20 rfl (lv_at hl 0 rfl) ?_
      refine va_get (D := (dC, dI)) (ci := 0) (v := .int (nI mo)) (C := RX0) (T := TX0) (N := 10) hx hb hts hin0 hown hK hP 0 rfl rfl 5 (by decide) (hts (.fieldLink RX0 25 "SpeedRows" "moves" "I") (by decide +kernel)) (fun _ h9 => h9) rfl dX0_move_21 ?_
      refine lv_sipush (v := nI 2000) hx hb dX0_move_24 (by decide) ?_
      refine lv_icmp_lt (tgt := 32) hx hb dX0_move_27 (by decide) (fun c3 => ?_) (fun c3 => ?_)
      · have hm : mo < 2000 := (nI_ltI (by omega) (by omega)).mp c3
        obtain ⟨n1, hn1, rfl⟩ : ∃ j, j ≤ 100000 ∧ n = nI j := nI_of2 (M := 100000) (by decide) (fun q => absurd (Int32.lt_of_lt_of_le q (by decide : (0 : Int32) ≤ 1)) (Int32.not_lt.mpr hn.1)) hn.2
        obtain ⟨f1, hf1, rfl⟩ : ∃ j, j ≤ 99999 ∧ f = nI j := nI_of2 (M := 99999) (by decide) (fun q => absurd (Int32.lt_of_lt_of_le q (by decide : (0 : Int32) ≤ 1)) (Int32.not_lt.mpr hf.1)) hf.2
        refine lv_aload_n hx hb dX0_move_32 rfl (lv_at hl 0 rfl) ?_
        refine va_get (D := (dC, dI)) (ci := 0) (v := .ref a1) (C := RX0) (T := TX0) (N := 10) hx hb hts hin0 hown hK hP 0 rfl rfl 0 (by decide) (hts (.fieldLink RX0 9 "SpeedRows" "ticks" "[I") (by decide +kernel)) (fun _ h9 => h9) rfl dX0_move_33 ?_
        refine lv_aload_n hx hb dX0_move_36 rfl (lv_at hl 0 rfl) ?_
        refine va_get (D := (dC, dI)) (ci := 0) (v := .int (nI mo)) (C := RX0) (T := TX0) (N := 10) hx hb hts hin0 hown hK hP 0 rfl rfl 5 (by decide) (hts (.fieldLink RX0 25 "SpeedRows" "moves" "I") (by decide +kernel)) (fun _ h9 => h9) rfl dX0_move_37 ?_
        refine lv_iload_n hx hb dX0_move_40 rfl (lv_at hl 1 rfl) ?_
        refine sr_iast hx hb hK hP hD hS 1 0 rfl rfl (by omega) (by decide) dX0_move_41 (fun H locs hP hD hS => ?_)
        have hP : va_P (dC, dI) vwCl [(x, .inr (0, [.ref a1, .ref a2, .ref a3, .ref a4, .ref a5, .int (nI mo), .int (nI cf), .int (nI cl), .int (nI ac), .int st])), (a1, .inl (z1, 2000, .inl (upd T mo (nI n1)))), (a2, .inl (z2, 2000, .inl F)), (a3, .inl (z3, 2000, .inl G)), (a4, .inl (z4, 2000, .inl L)), (a5, .inl (z5, 2001, .inl S))] H := hP
        have hD : va_D A [(x, .inr (0, [.ref a1, .ref a2, .ref a3, .ref a4, .ref a5, .int (nI mo), .int (nI cf), .int (nI cl), .int (nI ac), .int st])), (a1, .inl (z1, 2000, .inl (upd T mo (nI n1)))), (a2, .inl (z2, 2000, .inl F)), (a3, .inl (z3, 2000, .inl G)), (a4, .inl (z4, 2000, .inl L)), (a5, .inl (z5, 2001, .inl S))] := hD
        refine lv_aload_n hx hb dX0_move_42 rfl (lv_at hl 0 rfl) ?_
        refine va_get (D := (dC, dI)) (ci := 0) (v := .ref a2) (C := RX0) (T := TX0) (N := 10) hx hb hts hin0 hown hK hP 0 rfl rfl 1 (by decide) (hts (.fieldLink RX0 13 "SpeedRows" "feeds" "[I") (by decide +kernel)) (fun _ h9 => h9) rfl dX0_move_43 ?_
        refine lv_aload_n hx hb dX0_move_46 rfl (lv_at hl 0 rfl) ?_
        refine va_get (D := (dC, dI)) (ci := 0) (v := .int (nI mo)) (C := RX0) (T := TX0) (N := 10) hx hb hts hin0 hown hK hP 0 rfl rfl 5 (by decide) (hts (.fieldLink RX0 25 "SpeedRows" "moves" "I") (by decide +kernel)) (fun _ h9 => h9) rfl dX0_move_47 ?_
        refine lv_iload_n hx hb dX0_move_50 rfl (lv_at hl 2 rfl) ?_
        refine sr_iast hx hb hK hP hD hS 2 1 rfl rfl (by omega) (by decide) dX0_move_51 (fun H locs hP hD hS => ?_)
        have hP : va_P (dC, dI) vwCl [(x, .inr (0, [.ref a1, .ref a2, .ref a3, .ref a4, .ref a5, .int (nI mo), .int (nI cf), .int (nI cl), .int (nI ac), .int st])), (a1, .inl (z1, 2000, .inl (upd T mo (nI n1)))), (a2, .inl (z2, 2000, .inl (upd F mo (nI f1)))), (a3, .inl (z3, 2000, .inl G)), (a4, .inl (z4, 2000, .inl L)), (a5, .inl (z5, 2001, .inl S))] H := hP
        have hD : va_D A [(x, .inr (0, [.ref a1, .ref a2, .ref a3, .ref a4, .ref a5, .int (nI mo), .int (nI cf), .int (nI cl), .int (nI ac), .int st])), (a1, .inl (z1, 2000, .inl (upd T mo (nI n1)))), (a2, .inl (z2, 2000, .inl (upd F mo (nI f1)))), (a3, .inl (z3, 2000, .inl G)), (a4, .inl (z4, 2000, .inl L)), (a5, .inl (z5, 2001, .inl S))] := hD
        refine lv_aload_n hx hb dX0_move_52 rfl (lv_at hl 0 rfl) ?_
        refine va_get (D := (dC, dI)) (ci := 0) (v := .ref a3) (C := RX0) (T := TX0) (N := 10) hx hb hts hin0 hown hK hP 0 rfl rfl 2 (by decide) (hts (.fieldLink RX0 16 "SpeedRows" "lastSteps" "[I") (by decide +kernel)) (fun _ h9 => h9) rfl dX0_move_53 ?_
        refine lv_aload_n hx hb dX0_move_56 rfl (lv_at hl 0 rfl) ?_
        refine va_get (D := (dC, dI)) (ci := 0) (v := .int (nI mo)) (C := RX0) (T := TX0) (N := 10) hx hb hts hin0 hown hK hP 0 rfl rfl 5 (by decide) (hts (.fieldLink RX0 25 "SpeedRows" "moves" "I") (by decide +kernel)) (fun _ h9 => h9) rfl dX0_move_57 ?_
        refine lv_aload_n hx hb dX0_move_60 rfl (lv_at hl 0 rfl) ?_
        refine va_get (D := (dC, dI)) (ci := 0) (v := .int (nI cl)) (C := RX0) (T := TX0) (N := 10) hx hb hts hin0 hown hK hP 0 rfl rfl 7 (by decide) (hts (.fieldLink RX0 36 "SpeedRows" "nextLast" "I") (by decide +kernel)) (fun _ h9 => h9) rfl dX0_move_61 ?_
        refine sr_iast hx hb hK hP hD hS 3 2 rfl rfl (by omega) (by decide) dX0_move_64 (fun H locs hP hD hS => ?_)
        have hP : va_P (dC, dI) vwCl [(x, .inr (0, [.ref a1, .ref a2, .ref a3, .ref a4, .ref a5, .int (nI mo), .int (nI cf), .int (nI cl), .int (nI ac), .int st])), (a1, .inl (z1, 2000, .inl (upd T mo (nI n1)))), (a2, .inl (z2, 2000, .inl (upd F mo (nI f1)))), (a3, .inl (z3, 2000, .inl (upd G mo (nI cl)))), (a4, .inl (z4, 2000, .inl L)), (a5, .inl (z5, 2001, .inl S))] H := hP
        have hD : va_D A [(x, .inr (0, [.ref a1, .ref a2, .ref a3, .ref a4, .ref a5, .int (nI mo), .int (nI cf), .int (nI cl), .int (nI ac), .int st])), (a1, .inl (z1, 2000, .inl (upd T mo (nI n1)))), (a2, .inl (z2, 2000, .inl (upd F mo (nI f1)))), (a3, .inl (z3, 2000, .inl (upd G mo (nI cl)))), (a4, .inl (z4, 2000, .inl L)), (a5, .inl (z5, 2001, .inl S))] := hD
        refine lv_aload_n hx hb dX0_move_65 rfl (lv_at hl 0 rfl) ?_
        refine va_get (D := (dC, dI)) (ci := 0) (v := .ref a4) (C := RX0) (T := TX0) (N := 10) hx hb hts hin0 hown hK hP 0 rfl rfl 3 (by decide) (hts (.fieldLink RX0 19 "SpeedRows" "turnLimits" "[I") (by decide +kernel)) (fun _ h9 => h9) rfl dX0_move_66 ?_
        refine lv_aload_n hx hb dX0_move_69 rfl (lv_at hl 0 rfl) ?_
        refine va_get (D := (dC, dI)) (ci := 0) (v := .int (nI mo)) (C := RX0) (T := TX0) (N := 10) hx hb hts hin0 hown hK hP 0 rfl rfl 5 (by decide) (hts (.fieldLink RX0 25 "SpeedRows" "moves" "I") (by decide +kernel)) (fun _ h9 => h9) rfl dX0_move_70 ?_
        refine lv_aload_n hx hb dX0_move_73 rfl (lv_at hl 0 rfl) ?_
        refine va_get (D := (dC, dI)) (ci := 0) (v := .int (nI mo)) (C := RX0) (T := TX0) (N := 10) hx hb hts hin0 hown hK hP 0 rfl rfl 5 (by decide) (hts (.fieldLink RX0 25 "SpeedRows" "moves" "I") (by decide +kernel)) (fun _ h9 => h9) rfl dX0_move_74 ?_
        refine lv_if_ne (tgt := 84) hx hb dX0_move_77 (by decide) (fun c4 => ?_) (fun c4 => ?_)
        · have hm0 : mo ≠ 0 := fun q => c4 (by rw [q]; decide)
          have hm1 : mo - 1 < mo := by omega
          refine lv_aload_n hx hb dX0_move_84 rfl (lv_at hl 0 rfl) ?_
          refine lv_aload_n hx hb dX0_move_85 rfl (lv_at hl 0 rfl) ?_
          refine va_get (D := (dC, dI)) (ci := 0) (v := .int (nI mo)) (C := RX0) (T := TX0) (N := 10) hx hb hts hin0 hown hK hP 0 rfl rfl 5 (by decide) (hts (.fieldLink RX0 25 "SpeedRows" "moves" "I") (by decide +kernel)) (fun _ h9 => h9) rfl dX0_move_86 ?_
          refine lv_iconst (v := nI 1) hx hb dX0_move_89 (by decide) ?_
          refine lv_isub hx hb dX0_move_90 ?_
          refine sr_ti (y := nI (mo - 1)) (pk_sub (by omega)) ?_
          refine lv_iload_n hx hb dX0_move_91 rfl (lv_at hl 2 rfl) ?_
          have hPc := hP.sub (ws' := [(x, .inr (0, [.ref a1, .ref a2, .ref a3, .ref a4, .ref a5, .int (nI mo), .int (nI cf), .int (nI cl), .int (nI ac), .int st])), (a1, .inl (z1, 2000, .inl (upd T mo (nI n1)))), (a2, .inl (z2, 2000, .inl (upd F mo (nI f1)))), (a3, .inl (z3, 2000, .inl (upd G mo (nI cl)))), (a4, .inl (z4, 2000, .inl L)), (a5, .inl (z5, 2001, .inl S))]) [0, 1, 2, 3, 4, 5] rfl
          have hDc := hD.sub (ws' := [(x, .inr (0, [.ref a1, .ref a2, .ref a3, .ref a4, .ref a5, .int (nI mo), .int (nI cf), .int (nI cl), .int (nI ac), .int st])), (a1, .inl (z1, 2000, .inl (upd T mo (nI n1)))), (a2, .inl (z2, 2000, .inl (upd F mo (nI f1)))), (a3, .inl (z3, 2000, .inl (upd G mo (nI cl)))), (a4, .inl (z4, 2000, .inl L)), (a5, .inl (z5, 2001, .inl S))]) [0, 1, 2, 3, 4, 5] (by decide) rfl
          have hKc := hK.sub (tys' := [(z1, .int), (z2, .int), (z3, .int), (z4, .int), (z5, .int)]) [0, 1, 2, 3, 4] rfl
          have hFc := va_free (wc := [(x, .inr (0, [.ref a1, .ref a2, .ref a3, .ref a4, .ref a5, .int (nI mo), .int (nI cf), .int (nI cl), .int (nI ac), .int st])), (a1, .inl (z1, 2000, .inl (upd T mo (nI n1)))), (a2, .inl (z2, 2000, .inl (upd F mo (nI f1)))), (a3, .inl (z3, 2000, .inl (upd G mo (nI cl)))), (a4, .inl (z4, 2000, .inl L)), (a5, .inl (z5, 2001, .inl S))]) hD hS hA [0, 1, 2, 3, 4, 5] rfl
          refine va_calli (va_runV (As := [.int (nI (mo - 1)), .int (nI f1)]) (rest := [.int (nI mo), .ref a4]) ⟨hx, hb, hml, hown, hts⟩ (c_X0_turnLimit l dC dI x a1 a2 a3 a4 a5 z1 z2 z3 z4 z5 H.size mo cf cl ac st (upd T mo (nI n1)) (upd F mo (nI f1)) (upd G mo (nI cl)) L S (mo - 1) (la (mo - 1)) (fd (mo - 1)) f1 (by omega) (hpath _ hm1).2.2.2 hcf (by rw [pk_un (by omega)]; exact (hI _ hm1).2.2.1) (by rw [pk_un (by omega)]; exact (hI _ hm1).2.1) (hpath _ hm1).2.1.2 hf1) (cwV 2 hts gX0_move_X0_turnLimit rfl rfl rfl (by decide +kernel) ⟨Nat.le_of_ble_eq_true rfl, Nat.le_of_ble_eq_true rfl⟩) ⟨sr_blind, va_recv hKc hPc (ci := 0) (q0 := 0) rfl rfl, sr_mk hPc hKc hDc⟩ rfl rfl hl.1 rfl (lv_room (Nat.le_of_ble_eq_true rfl)) dX0_move_92 ⟨Nat.zero_le _, Nat.zero_le _⟩) hS (fun q _ h => hFc q h) hFc (fun r4 u t H1 locs ht hvm hw hB hz1 hk1 hS => ?_)
          obtain ⟨hP1, hK1, hD1⟩ := hB
          rw [ht] at hP1
          obtain ⟨rfl, rfl⟩ := hw
          obtain ⟨hP, hD⟩ := va_join (wr := []) (w1 := [(x, .inr (0, [.ref a1, .ref a2, .ref a3, .ref a4, .ref a5, .int (nI mo), .int (nI cf), .int (nI cl), .int (nI ac), .int st])), (a1, .inl (z1, 2000, .inl (upd T mo (nI n1)))), (a2, .inl (z2, 2000, .inl (upd F mo (nI f1)))), (a3, .inl (z3, 2000, .inl (upd G mo (nI cl)))), (a4, .inl (z4, 2000, .inl L)), (a5, .inl (z5, 2001, .inl S))]) hP hD [0, 1, 2, 3, 4, 5] [] rfl rfl (by decide) (by decide) hk1 hFc hP1 hD1
          generalize H1 = H at hP hS ⊢
          have hP : va_P (dC, dI) vwCl [(x, .inr (0, [.ref a1, .ref a2, .ref a3, .ref a4, .ref a5, .int (nI mo), .int (nI cf), .int (nI cl), .int (nI ac), .int st])), (a1, .inl (z1, 2000, .inl (upd T mo (nI n1)))), (a2, .inl (z2, 2000, .inl (upd F mo (nI f1)))), (a3, .inl (z3, 2000, .inl (upd G mo (nI cl)))), (a4, .inl (z4, 2000, .inl L)), (a5, .inl (z5, 2001, .inl S))] H := hP
          have hD : va_D A [(x, .inr (0, [.ref a1, .ref a2, .ref a3, .ref a4, .ref a5, .int (nI mo), .int (nI cf), .int (nI cl), .int (nI ac), .int st])), (a1, .inl (z1, 2000, .inl (upd T mo (nI n1)))), (a2, .inl (z2, 2000, .inl (upd F mo (nI f1)))), (a3, .inl (z3, 2000, .inl (upd G mo (nI cl)))), (a4, .inl (z4, 2000, .inl L)), (a5, .inl (z5, 2001, .inl S))] := hD
          refine sr_ti (y := nI (sr_tm (sr_up fd mo f1) (sr_up fs mo cf) (sr_up la mo cl) mo)) (by rw [sr_tm, if_neg hm0, sr_up_s, sr_up_s, sr_up_n (by omega), sr_up_n (by omega)]) ?_
          refine sr_iast hx hb hK hP hD hS 4 3 rfl rfl (by omega) (by decide) dX0_move_95 (fun H locs hP hD hS => ?_)
          have hP : va_P (dC, dI) vwCl [(x, .inr (0, [.ref a1, .ref a2, .ref a3, .ref a4, .ref a5, .int (nI mo), .int (nI cf), .int (nI cl), .int (nI ac), .int st])), (a1, .inl (z1, 2000, .inl (upd T mo (nI n1)))), (a2, .inl (z2, 2000, .inl (upd F mo (nI f1)))), (a3, .inl (z3, 2000, .inl (upd G mo (nI cl)))), (a4, .inl (z4, 2000, .inl (upd L mo (nI (sr_tm (sr_up fd mo f1) (sr_up fs mo cf) (sr_up la mo cl) mo))))), (a5, .inl (z5, 2001, .inl S))] H := hP
          have hD : va_D A [(x, .inr (0, [.ref a1, .ref a2, .ref a3, .ref a4, .ref a5, .int (nI mo), .int (nI cf), .int (nI cl), .int (nI ac), .int st])), (a1, .inl (z1, 2000, .inl (upd T mo (nI n1)))), (a2, .inl (z2, 2000, .inl (upd F mo (nI f1)))), (a3, .inl (z3, 2000, .inl (upd G mo (nI cl)))), (a4, .inl (z4, 2000, .inl (upd L mo (nI (sr_tm (sr_up fd mo f1) (sr_up fs mo cf) (sr_up la mo cl) mo))))), (a5, .inl (z5, 2001, .inl S))] := hD
          refine lv_aload_n hx hb dX0_move_96 rfl (lv_at hl 0 rfl) ?_
          refine lv_dup hx hb dX0_move_97 rfl ?_
          refine va_get (D := (dC, dI)) (ci := 0) (v := .int (nI mo)) (C := RX0) (T := TX0) (N := 10) hx hb hts hin0 hown hK hP 0 rfl rfl 5 (by decide) (hts (.fieldLink RX0 25 "SpeedRows" "moves" "I") (by decide +kernel)) (fun _ h9 => h9) rfl dX0_move_98 ?_
          refine lv_iconst (v := nI 1) hx hb dX0_move_101 (by decide) ?_
          refine lv_iadd hx hb dX0_move_102 ?_
          refine sr_ti (y := nI (mo + 1)) (nI_add _ _) ?_
          refine va_put (D := (dC, dI)) (ci := 0) (v := .int (nI (mo + 1))) (ty := .int) (C := RX0) (T := TX0) (N := 10) hx hb hts hin0 tyX0 tyX0_ok nmX0 hown hK hP hD hS 0 rfl rfl 5 (by decide) (hts (.fieldLink RX0 25 "SpeedRows" "moves" "I") (by decide +kernel)) (fun _ h9 => h9) rfl (by decide +kernel) rfl rfl (Nat.le_of_ble_eq_true rfl) dX0_move_103 (fun H locs hP hD hS => ?_)
          have hP : va_P (dC, dI) vwCl [(x, .inr (0, [.ref a1, .ref a2, .ref a3, .ref a4, .ref a5, .int (nI (mo + 1)), .int (nI cf), .int (nI cl), .int (nI ac), .int st])), (a1, .inl (z1, 2000, .inl (upd T mo (nI n1)))), (a2, .inl (z2, 2000, .inl (upd F mo (nI f1)))), (a3, .inl (z3, 2000, .inl (upd G mo (nI cl)))), (a4, .inl (z4, 2000, .inl (upd L mo (nI (sr_tm (sr_up fd mo f1) (sr_up fs mo cf) (sr_up la mo cl) mo))))), (a5, .inl (z5, 2001, .inl S))] H := hP
          have hD : va_D A [(x, .inr (0, [.ref a1, .ref a2, .ref a3, .ref a4, .ref a5, .int (nI (mo + 1)), .int (nI cf), .int (nI cl), .int (nI ac), .int st])), (a1, .inl (z1, 2000, .inl (upd T mo (nI n1)))), (a2, .inl (z2, 2000, .inl (upd F mo (nI f1)))), (a3, .inl (z3, 2000, .inl (upd G mo (nI cl)))), (a4, .inl (z4, 2000, .inl (upd L mo (nI (sr_tm (sr_up fd mo f1) (sr_up fs mo cf) (sr_up la mo cl) mo))))), (a5, .inl (z5, 2001, .inl S))] := hD
          refine lv_aload_n hx hb dX0_move_106 rfl (lv_at hl 0 rfl) ?_
          refine lv_iconst (v := 0) hx hb dX0_move_107 (by decide) ?_
          refine va_put (D := (dC, dI)) (ci := 0) (v := .int 0) (ty := .boolean) (C := RX0) (T := TX0) (N := 10) hx hb hts hin0 tyX0 tyX0_ok nmX0 hown hK hP hD hS 0 rfl rfl 9 (by decide) (hts (.fieldLink RX0 42 "SpeedRows" "speedsStand" "Z") (by decide +kernel)) (fun _ h9 => h9) rfl (by decide +kernel) rfl rfl (Nat.le_of_ble_eq_true rfl) dX0_move_108 (fun H locs hP hD hS => ?_)
          have hP : va_P (dC, dI) vwCl [(x, .inr (0, [.ref a1, .ref a2, .ref a3, .ref a4, .ref a5, .int (nI (mo + 1)), .int (nI cf), .int (nI cl), .int (nI ac), .int 0])), (a1, .inl (z1, 2000, .inl (upd T mo (nI n1)))), (a2, .inl (z2, 2000, .inl (upd F mo (nI f1)))), (a3, .inl (z3, 2000, .inl (upd G mo (nI cl)))), (a4, .inl (z4, 2000, .inl (upd L mo (nI (sr_tm (sr_up fd mo f1) (sr_up fs mo cf) (sr_up la mo cl) mo))))), (a5, .inl (z5, 2001, .inl S))] H := hP
          have hD : va_D A [(x, .inr (0, [.ref a1, .ref a2, .ref a3, .ref a4, .ref a5, .int (nI (mo + 1)), .int (nI cf), .int (nI cl), .int (nI ac), .int 0])), (a1, .inl (z1, 2000, .inl (upd T mo (nI n1)))), (a2, .inl (z2, 2000, .inl (upd F mo (nI f1)))), (a3, .inl (z3, 2000, .inl (upd G mo (nI cl)))), (a4, .inl (z4, 2000, .inl (upd L mo (nI (sr_tm (sr_up fd mo f1) (sr_up fs mo cf) (sr_up la mo cl) mo))))), (a5, .inl (z5, 2001, .inl S))] := hD
          refine lv_aload_n hx hb dX0_move_111 rfl (lv_at hl 0 rfl) ?_
          refine va_get (D := (dC, dI)) (ci := 0) (v := .int (nI (mo + 1))) (C := RX0) (T := TX0) (N := 10) hx hb hts hin0 hown hK hP 0 rfl rfl 5 (by decide) (hts (.fieldLink RX0 25 "SpeedRows" "moves" "I") (by decide +kernel)) (fun _ h9 => h9) rfl dX0_move_112 ?_
          exact W.iret (v := nI (mo + 1)) hx hb hr (fun t ht hW => ⟨⟨nI (mo + 1), _, rfl, Or.inl ⟨⟨hn, hf, hm⟩, rfl, _, _, _, _, rfl, by rw [nI_clamp (by omega), nI_clamp (by omega)]; exact sr_XI_push hI n1 f1 cf cl⟩, by rw [ht]; exact hP, va_K.moved hW.alike hK, hD⟩, hS.F ht⟩) hS.2.2 dX0_move_115
        · have hm0 : mo = 0 := (nI_eq (by omega) (by omega)).mp c4
          refine lv_iconst (v := nI 0) hx hb dX0_move_80 (by decide) ?_
          refine lv_goto (tgt := 95) hx hb dX0_move_81 (by decide) ?_
          refine sr_ti (y := nI (sr_tm (sr_up fd mo f1) (sr_up fs mo cf) (sr_up la mo cl) mo)) (by rw [sr_tm, if_pos hm0]) ?_
          refine sr_iast hx hb hK hP hD hS 4 3 rfl rfl (by omega) (by decide) dX0_move_95 (fun H locs hP hD hS => ?_)
          have hP : va_P (dC, dI) vwCl [(x, .inr (0, [.ref a1, .ref a2, .ref a3, .ref a4, .ref a5, .int (nI mo), .int (nI cf), .int (nI cl), .int (nI ac), .int st])), (a1, .inl (z1, 2000, .inl (upd T mo (nI n1)))), (a2, .inl (z2, 2000, .inl (upd F mo (nI f1)))), (a3, .inl (z3, 2000, .inl (upd G mo (nI cl)))), (a4, .inl (z4, 2000, .inl (upd L mo (nI (sr_tm (sr_up fd mo f1) (sr_up fs mo cf) (sr_up la mo cl) mo))))), (a5, .inl (z5, 2001, .inl S))] H := hP
          have hD : va_D A [(x, .inr (0, [.ref a1, .ref a2, .ref a3, .ref a4, .ref a5, .int (nI mo), .int (nI cf), .int (nI cl), .int (nI ac), .int st])), (a1, .inl (z1, 2000, .inl (upd T mo (nI n1)))), (a2, .inl (z2, 2000, .inl (upd F mo (nI f1)))), (a3, .inl (z3, 2000, .inl (upd G mo (nI cl)))), (a4, .inl (z4, 2000, .inl (upd L mo (nI (sr_tm (sr_up fd mo f1) (sr_up fs mo cf) (sr_up la mo cl) mo))))), (a5, .inl (z5, 2001, .inl S))] := hD
          refine lv_aload_n hx hb dX0_move_96 rfl (lv_at hl 0 rfl) ?_
          refine lv_dup hx hb dX0_move_97 rfl ?_
          refine va_get (D := (dC, dI)) (ci := 0) (v := .int (nI mo)) (C := RX0) (T := TX0) (N := 10) hx hb hts hin0 hown hK hP 0 rfl rfl 5 (by decide) (hts (.fieldLink RX0 25 "SpeedRows" "moves" "I") (by decide +kernel)) (fun _ h9 => h9) rfl dX0_move_98 ?_
          refine lv_iconst (v := nI 1) hx hb dX0_move_101 (by decide) ?_
          refine lv_iadd hx hb dX0_move_102 ?_
          refine sr_ti (y := nI (mo + 1)) (nI_add _ _) ?_
          refine va_put (D := (dC, dI)) (ci := 0) (v := .int (nI (mo + 1))) (ty := .int) (C := RX0) (T := TX0) (N := 10) hx hb hts hin0 tyX0 tyX0_ok nmX0 hown hK hP hD hS 0 rfl rfl 5 (by decide) (hts (.fieldLink RX0 25 "SpeedRows" "moves" "I") (by decide +kernel)) (fun _ h9 => h9) rfl (by decide +kernel) rfl rfl (Nat.le_of_ble_eq_true rfl) dX0_move_103 (fun H locs hP hD hS => ?_)
          have hP : va_P (dC, dI) vwCl [(x, .inr (0, [.ref a1, .ref a2, .ref a3, .ref a4, .ref a5, .int (nI (mo + 1)), .int (nI cf), .int (nI cl), .int (nI ac), .int st])), (a1, .inl (z1, 2000, .inl (upd T mo (nI n1)))), (a2, .inl (z2, 2000, .inl (upd F mo (nI f1)))), (a3, .inl (z3, 2000, .inl (upd G mo (nI cl)))), (a4, .inl (z4, 2000, .inl (upd L mo (nI (sr_tm (sr_up fd mo f1) (sr_up fs mo cf) (sr_up la mo cl) mo))))), (a5, .inl (z5, 2001, .inl S))] H := hP
          have hD : va_D A [(x, .inr (0, [.ref a1, .ref a2, .ref a3, .ref a4, .ref a5, .int (nI (mo + 1)), .int (nI cf), .int (nI cl), .int (nI ac), .int st])), (a1, .inl (z1, 2000, .inl (upd T mo (nI n1)))), (a2, .inl (z2, 2000, .inl (upd F mo (nI f1)))), (a3, .inl (z3, 2000, .inl (upd G mo (nI cl)))), (a4, .inl (z4, 2000, .inl (upd L mo (nI (sr_tm (sr_up fd mo f1) (sr_up fs mo cf) (sr_up la mo cl) mo))))), (a5, .inl (z5, 2001, .inl S))] := hD
          refine lv_aload_n hx hb dX0_move_106 rfl (lv_at hl 0 rfl) ?_
          refine lv_iconst (v := 0) hx hb dX0_move_107 (by decide) ?_
          refine va_put (D := (dC, dI)) (ci := 0) (v := .int 0) (ty := .boolean) (C := RX0) (T := TX0) (N := 10) hx hb hts hin0 tyX0 tyX0_ok nmX0 hown hK hP hD hS 0 rfl rfl 9 (by decide) (hts (.fieldLink RX0 42 "SpeedRows" "speedsStand" "Z") (by decide +kernel)) (fun _ h9 => h9) rfl (by decide +kernel) rfl rfl (Nat.le_of_ble_eq_true rfl) dX0_move_108 (fun H locs hP hD hS => ?_)
          have hP : va_P (dC, dI) vwCl [(x, .inr (0, [.ref a1, .ref a2, .ref a3, .ref a4, .ref a5, .int (nI (mo + 1)), .int (nI cf), .int (nI cl), .int (nI ac), .int 0])), (a1, .inl (z1, 2000, .inl (upd T mo (nI n1)))), (a2, .inl (z2, 2000, .inl (upd F mo (nI f1)))), (a3, .inl (z3, 2000, .inl (upd G mo (nI cl)))), (a4, .inl (z4, 2000, .inl (upd L mo (nI (sr_tm (sr_up fd mo f1) (sr_up fs mo cf) (sr_up la mo cl) mo))))), (a5, .inl (z5, 2001, .inl S))] H := hP
          have hD : va_D A [(x, .inr (0, [.ref a1, .ref a2, .ref a3, .ref a4, .ref a5, .int (nI (mo + 1)), .int (nI cf), .int (nI cl), .int (nI ac), .int 0])), (a1, .inl (z1, 2000, .inl (upd T mo (nI n1)))), (a2, .inl (z2, 2000, .inl (upd F mo (nI f1)))), (a3, .inl (z3, 2000, .inl (upd G mo (nI cl)))), (a4, .inl (z4, 2000, .inl (upd L mo (nI (sr_tm (sr_up fd mo f1) (sr_up fs mo cf) (sr_up la mo cl) mo))))), (a5, .inl (z5, 2001, .inl S))] := hD
          refine lv_aload_n hx hb dX0_move_111 rfl (lv_at hl 0 rfl) ?_
          refine va_get (D := (dC, dI)) (ci := 0) (v := .int (nI (mo + 1))) (C := RX0) (T := TX0) (N := 10) hx hb hts hin0 hown hK hP 0 rfl rfl 5 (by decide) (hts (.fieldLink RX0 25 "SpeedRows" "moves" "I") (by decide +kernel)) (fun _ h9 => h9) rfl dX0_move_112 ?_
          exact W.iret (v := nI (mo + 1)) hx hb hr (fun t ht hW => ⟨⟨nI (mo + 1), _, rfl, Or.inl ⟨⟨hn, hf, hm⟩, rfl, _, _, _, _, rfl, by rw [nI_clamp (by omega), nI_clamp (by omega)]; exact sr_XI_push hI n1 f1 cf cl⟩, by rw [ht]; exact hP, va_K.moved hW.alike hK, hD⟩, hS.F ht⟩) hS.2.2 dX0_move_115
      · refine lv_iconst (v := (-1)) hx hb dX0_move_30 (by decide) ?_
        exact W.iret (v := (-1)) hx hb hr (fun t ht hW => ⟨⟨(-1), _, rfl, Or.inr ⟨fun q => c3 ((nI_ltI (by omega) (by omega)).mpr q.2.2), rfl, rfl⟩, by rw [ht]; exact hP, va_K.moved hW.alike hK, hD⟩, hS.F ht⟩) hS.2.2 dX0_move_31
