/-! THE CLASS: limitAt, fastestAcross, turnLimit. -/
set_option maxHeartbeats 4000000 in
set_option maxRecDepth 100000 in
theorem c_X0_limitAt (l : Launch) (dC : Nat → ClassId) (dI : Nat → Nat → Nat) (x a1 a2 a3 a4 a5 : Nat) (z1 z2 z3 z4 z5 : ClassId) (sz : Nat) (mo cf cl ac : Nat) (st : Int32) (T F G L S : Nat → Int32) (tk fd fs la : Nat → Nat) (k : Nat) (hI : sr_XI mo tk fd fs la T F G L) (hmo : mo ≤ 2000) (hk : k ≤ 2000) : Met l yX0_limitAt wsX0_limitAt ({ frames := 0, cells := 0, slots := 0, locals := 0 }) (sr_pre dC dI (sr_tX z1 z2 z3 z4 z5) (sr_wX x a1 a2 a3 a4 a5 z1 z2 z3 z4 z5 mo cf cl ac st T F G L S) sz [.ref x, .int (nI k)]) (va_Qi (fun (r : Int32) (u : va_W) => u = sr_wX x a1 a2 a3 a4 a5 z1 z2 z3 z4 z5 mo cf cl ac st T F G L S ∧ r = nI (sr_lim mo fd fs la k)) (sr_at dC dI (sr_tX z1 z2 z3 z4 z5) (va_A (sr_wX x a1 a2 a3 a4 a5 z1 z2 z3 z4 z5 mo cf cl ac st T F G L S) sz)) (va_A (sr_wX x a1 a2 a3 a4 a5 z1 z2 z3 z4 z5 mo cf cl ac st T F G L S) sz)) 0 0 (va_A (sr_wX x a1 a2 a3 a4 a5 z1 z2 z3 z4 z5 mo cf cl ac st T F G L S) sz) := by
  refine Met.ofW (cc := cX0_limitAt) (maxL := 2) (ret := (some .int)) (by decide) rfl ?_
  intro p e s m args below meth c s₁ B hml hv
  obtain ⟨rfl, hsz, hP, hK, hD0⟩ := hv
  have hx := B.exec
  have hb := B.bytes
  have hr := B.returns
  have hts := atoms_spec (ws := wsX0_limitAt) B.pre
  have hown : s.vm.findClass RX0 = some m.cls := findClass_of_methodNamed B.named
  have hlocks := B.notSynchronized
  subst hsz
  have hD := hD0.self (sz := s.heap.size)
  generalize hAe : va_A (sr_wX x a1 a2 a3 a4 a5 z1 z2 z3 z4 z5 mo cf cl ac st T F G L S) s.heap.size = A at hD ⊢
  have hA : ∀ q : Nat, s.heap.size ≤ q → A q := fun q h => by rw [← hAe]; exact Or.inr h
  have hS : va_S A s.heap s.heap [] := va_S.rf
  have hP : va_P (dC, dI) vwCl [(x, .inr (0, [.ref a1, .ref a2, .ref a3, .ref a4, .ref a5, .int (nI mo), .int (nI cf), .int (nI cl), .int (nI ac), .int st])), (a1, .inl (z1, 2000, .inl T)), (a2, .inl (z2, 2000, .inl F)), (a3, .inl (z3, 2000, .inl G)), (a4, .inl (z4, 2000, .inl L)), (a5, .inl (z5, 2001, .inl S))] s.heap := hP
  have hD : va_D A [(x, .inr (0, [.ref a1, .ref a2, .ref a3, .ref a4, .ref a5, .int (nI mo), .int (nI cf), .int (nI cl), .int (nI ac), .int st])), (a1, .inl (z1, 2000, .inl T)), (a2, .inl (z2, 2000, .inl F)), (a3, .inl (z3, 2000, .inl G)), (a4, .inl (z4, 2000, .inl L)), (a5, .inl (z5, 2001, .inl S))] := hD
  have hK : va_K (dC, dI) vwCl [(z1, .int), (z2, .int), (z3, .int), (z4, .int), (z5, .int)] s := hK
  have hin0 : ∀ w ∈ u_ws RX0 TX0 10, w ∈ wsX0_limitAt := by decide +kernel
  have hl := lv_entry ([.ref x, .int (nI k)]) (n := 2) (Nat.le_of_ble_eq_true rfl)
  rw [lg_entry_eq]
  generalize (lg_sl ([.ref x, .int (nI k)]) ++ List.replicate (2 - (lg_sl ([.ref x, .int (nI k)])).length) Slot.unset).toArray = ls at hl ⊢
  have hl : lv_has ls 2 [(0, .ref x), (1, .int (nI k))] := hl
  refine lv_iload_n hx hb dX0_limitAt_0 rfl (lv_at hl 1 rfl) ?_
  refine lv_if_le (tgt := 12) hx hb dX0_limitAt_1 (by decide) (fun c1 => ?_) (fun c1 => ?_)
  · have hk0 : k = 0 := by
      rcases Nat.eq_zero_or_pos k with q | q
      · exact q
      · exact absurd c1 (nI_nle q (by omega))
    refine lv_iconst (v := nI 0) hx hb dX0_limitAt_12 (by decide) ?_
    refine lv_goto (tgt := 22) hx hb dX0_limitAt_13 (by decide) ?_
    exact W.iret (v := nI 0) hx hb hr (fun t ht hW => ⟨⟨nI 0, _, rfl, ⟨rfl, by rw [hk0, sr_lim_0]⟩, by rw [ht]; exact hP, va_K.moved hW.alike hK, hD⟩, hS.F ht⟩) hS.2.2 dX0_limitAt_22
  · refine lv_iload_n hx hb dX0_limitAt_4 rfl (lv_at hl 1 rfl) ?_
    refine lv_aload_n hx hb dX0_limitAt_5 rfl (lv_at hl 0 rfl) ?_
    refine va_get (D := (dC, dI)) (ci := 0) (v := .int (nI mo)) (C := RX0) (T := TX0) (N := 10) hx hb hts hin0 hown hK hP 0 rfl rfl 5 (by decide) (hts (.fieldLink RX0 25 "SpeedRows" "moves" "I") (by decide +kernel)) (fun _ h9 => h9) rfl dX0_limitAt_6 ?_
    refine lv_icmp_lt (tgt := 16) hx hb dX0_limitAt_9 (by decide) (fun c2 => ?_) (fun c2 => ?_)
    · have hk1 : k < mo := (nI_ltI (by omega) (by omega)).mp c2
      have hk2 : k ≠ 0 := fun q => c1 (by rw [q]; decide)
      refine lv_aload_n hx hb dX0_limitAt_16 rfl (lv_at hl 0 rfl) ?_
      refine va_get (D := (dC, dI)) (ci := 0) (v := .ref a4) (C := RX0) (T := TX0) (N := 10) hx hb hts hin0 hown hK hP 0 rfl rfl 3 (by decide) (hts (.fieldLink RX0 19 "SpeedRows" "turnLimits" "[I") (by decide +kernel)) (fun _ h9 => h9) rfl dX0_limitAt_17 ?_
      refine lv_iload_n hx hb dX0_limitAt_20 rfl (lv_at hl 1 rfl) ?_
      refine sr_iald (v := nI (sr_tm fd fs la k)) hx hb hK hP 4 3 rfl rfl (by omega) (by decide) ((hI k hk1).2.2.2) dX0_limitAt_21 ?_
      exact W.iret (v := nI (sr_tm fd fs la k)) hx hb hr (fun t ht hW => ⟨⟨nI (sr_tm fd fs la k), _, rfl, ⟨rfl, by rw [sr_lim_in hk2 hk1]⟩, by rw [ht]; exact hP, va_K.moved hW.alike hK, hD⟩, hS.F ht⟩) hS.2.2 dX0_limitAt_22
    · have hk1 : mo ≤ k := Nat.le_of_not_lt (fun q => c2 ((nI_ltI (by omega) (by omega)).mpr q))
      refine lv_iconst (v := nI 0) hx hb dX0_limitAt_12 (by decide) ?_
      refine lv_goto (tgt := 22) hx hb dX0_limitAt_13 (by decide) ?_
      exact W.iret (v := nI 0) hx hb hr (fun t ht hW => ⟨⟨nI 0, _, rfl, ⟨rfl, by rw [sr_lim_top hk1]⟩, by rw [ht]; exact hP, va_K.moved hW.alike hK, hD⟩, hS.F ht⟩) hS.2.2 dX0_limitAt_22
set_option maxHeartbeats 4000000 in
set_option maxRecDepth 100000 in
theorem lp_X0_fa {p : Program} {l : Launch} {e : Env} {R : Room} {s : State} {m : MethodId} {args : Array Value} {below : List Frame} {meth : Method} {c : Code} {Q : State → Prop} (C0 : CallFix p m c cX0_fastestAcross 10 s args wsX0_fastestAcross RX0) {H : Heap} {locs : List Loc} {sq : Nat} (hsq : sq < 2 ^ 40) (hk : ∀ (r : Nat) (ls : Array Slot), r * r ≤ sq → sq < (r + 1) * (r + 1) → r ≤ 131072 → lv_has ls 10 [(6, .int (nI r))] → W p l e R s m args below meth c H locs 0 0 Q (F0 m 81 ls [])) :
    ∀ (B r : Nat) (v : Int32) (ls : Array Slot), B ≤ 17 → r + 2 ^ B ≤ 131072 → r * r ≤ sq → sq < (r + 2 ^ B) * (r + 2 ^ B) → v = nI B - 1 → lv_has ls 10 [(4, .long (lN sq)), (6, .int (nI r)), (7, .int v)] → W p l e R s m args below meth c H locs 0 0 Q (F0 m 40 ls []) := by
  obtain ⟨hx, hb, hml, hown, hts⟩ := C0
  intro B
  induction B with
  | zero =>
    intro r v ls h1 h2 h3 h4 ev hl
    refine lv_iload hx hb dX0_fastestAcross_40 (lv_at hl 2 rfl) ?_
    refine lv_if_lt (tgt := 81) hx hb dX0_fastestAcross_42 (by decide) (fun c1 => ?_) (fun c1 => ?_)
    · exact hk r ls h3 (by simpa using h4) (by omega) (lv_sub hl [1] rfl)
    · exact absurd (by rw [ev]; decide) c1
  | succ b ih =>
    intro r v ls h1 h2 h3 h4 ev hl
    obtain rfl : v = nI b := by rw [ev]; exact nI_pred b
    have hp : 2 ^ (b + 1) = 2 ^ b * 2 := Nat.pow_succ 2 b
    rw [hp] at h2 h4
    have hs1 := sr_shl b (by omega)
    have hs2 := sr_ishl b (by omega)
    generalize 2 ^ b = w at h2 h4 hs1 hs2 ih
    have hb1 : (r + w) * (r + w) ≤ 131072 * 131072 := Nat.mul_le_mul (by omega) (by omega)
    refine lv_iload hx hb dX0_fastestAcross_40 (lv_at hl 2 rfl) ?_
    refine lv_if_lt (tgt := 81) hx hb dX0_fastestAcross_42 (by decide) (fun c1 => ?_) (fun c1 => ?_)
    · exact absurd c1 (nI_pos (by omega))
    · refine lv_iload hx hb dX0_fastestAcross_45 (lv_at hl 1 rfl) ?_
      refine lv_i2l (v := lN r) hx hb dX0_fastestAcross_47 (nI_l (by omega)) ?_
      refine lv_lconst (v := lN 1) hx hb dX0_fastestAcross_48 (by decide) ?_
      refine lv_iload hx hb dX0_fastestAcross_49 (lv_at hl 2 rfl) ?_
      refine lv_lshl (v := lN w) hx hb dX0_fastestAcross_51 (hs1) ?_
      refine lv_ladd hx hb dX0_fastestAcross_52 ?_
      refine sr_tl (y := lN (r + w)) (lN_add _ _) ?_
      refine lv_lstore (lv' := [(8, .long (lN (r + w))), (4, .long (lN sq)), (6, .int (nI r)), (7, .int (nI b))]) hx hb dX0_fastestAcross_53 hl (by decide) rfl (fun ls hl => ?_)
      refine lv_lload hx hb dX0_fastestAcross_55 (lv_at hl 0 rfl) ?_
      refine lv_lload hx hb dX0_fastestAcross_57 (lv_at hl 0 rfl) ?_
      refine lv_lmul hx hb dX0_fastestAcross_59 ?_
      refine sr_tl (y := lN ((r + w) * (r + w))) (lN_mul _ _) ?_
      refine lv_lload hx hb dX0_fastestAcross_60 (lv_at hl 1 rfl) ?_
      refine W.lcmp hx hb dX0_fastestAcross_62 ?_
      refine lv_if_gt (tgt := 75) hx hb dX0_fastestAcross_63 (by decide) (fun c2 => ?_) (fun c2 => ?_)
      · have g : sq < (r + w) * (r + w) := (pk_lLT (by omega) (by omega)).mp ((lg_cmp_gt _ _).mp c2)
        refine lv_iinc (v := nI b - 1) (lv' := [(7, .int (nI b - 1)), (8, .long (lN (r + w))), (4, .long (lN sq)), (6, .int (nI r))]) hx hb dX0_fastestAcross_75 hl (k := 3) rfl (sr_dec _) (by decide) rfl (fun ls hl => ?_)
        refine lv_goto (tgt := 40) hx hb dX0_fastestAcross_78 (by decide) ?_
        exact ih r _ ls (by omega) (by omega) h3 g rfl (lv_sub hl [2, 3, 0] rfl)
      · have g : (r + w) * (r + w) ≤ sq := Nat.le_of_not_lt (fun q => c2 ((lg_cmp_gt _ _).mpr ((pk_lLT (by omega) (by omega)).mpr q)))
        refine lv_iload hx hb dX0_fastestAcross_66 (lv_at hl 2 rfl) ?_
        refine lv_iconst (v := nI 1) hx hb dX0_fastestAcross_68 (by decide) ?_
        refine lv_iload hx hb dX0_fastestAcross_69 (lv_at hl 3 rfl) ?_
        refine lv_ishl hx hb dX0_fastestAcross_71 ?_
        refine sr_ti (y := nI w) (hs2) ?_
        refine lv_iadd hx hb dX0_fastestAcross_72 ?_
        refine sr_ti (y := nI (r + w)) (nI_add _ _) ?_
        refine lv_istore (lv' := [(6, .int (nI (r + w))), (8, .long (lN (r + w))), (4, .long (lN sq)), (7, .int (nI b))]) hx hb dX0_fastestAcross_73 hl (by decide) rfl (fun ls hl => ?_)
        refine lv_iinc (v := nI b - 1) (lv' := [(7, .int (nI b - 1)), (6, .int (nI (r + w))), (8, .long (lN (r + w))), (4, .long (lN sq))]) hx hb dX0_fastestAcross_75 hl (k := 3) rfl (sr_dec _) (by decide) rfl (fun ls hl => ?_)
        refine lv_goto (tgt := 40) hx hb dX0_fastestAcross_78 (by decide) ?_
        exact ih (r + w) _ ls (by omega) (by omega) g (by rw [show r + w + w = r + w * 2 by omega]; exact h4) rfl (lv_sub hl [3, 1, 0] rfl)
set_option maxHeartbeats 4000000 in
set_option maxRecDepth 100000 in
theorem c_X0_fastestAcross (l : Launch) (dC : Nat → ClassId) (dI : Nat → Nat → Nat) (x a1 a2 a3 a4 a5 : Nat) (z1 z2 z3 z4 z5 : ClassId) (sz : Nat) (mo cf cl ac : Nat) (st : Int32) (T F G L S : Nat → Int32) (t a b : Nat) (ht : t ≤ 100000) (ha : a ≤ 99999) (hbb : b ≤ 99999) (hac : ac ≤ 10000) : Met l yX0_fastestAcross wsX0_fastestAcross ({ frames := 0, cells := 0, slots := 0, locals := 0 }) (sr_pre dC dI (sr_tX z1 z2 z3 z4 z5) (sr_wX x a1 a2 a3 a4 a5 z1 z2 z3 z4 z5 mo cf cl ac st T F G L S) sz [.ref x, .int (nI t), .int (nI a), .int (nI b)]) (va_Qi (fun (r : Int32) (u : va_W) => u = sr_wX x a1 a2 a3 a4 a5 z1 z2 z3 z4 z5 mo cf cl ac st T F G L S ∧ r = nI (min b (sr_r ac t a))) (sr_at dC dI (sr_tX z1 z2 z3 z4 z5) (va_A (sr_wX x a1 a2 a3 a4 a5 z1 z2 z3 z4 z5 mo cf cl ac st T F G L S) sz)) (va_A (sr_wX x a1 a2 a3 a4 a5 z1 z2 z3 z4 z5 mo cf cl ac st T F G L S) sz)) 0 0 (va_A (sr_wX x a1 a2 a3 a4 a5 z1 z2 z3 z4 z5 mo cf cl ac st T F G L S) sz) := by
  refine Met.ofW (cc := cX0_fastestAcross) (maxL := 10) (ret := (some .int)) (by decide) rfl ?_
  intro p e s m args below meth c s₁ B hml hv
  obtain ⟨rfl, hsz, hP, hK, hD0⟩ := hv
  have hx := B.exec
  have hb := B.bytes
  have hr := B.returns
  have hts := atoms_spec (ws := wsX0_fastestAcross) B.pre
  have hown : s.vm.findClass RX0 = some m.cls := findClass_of_methodNamed B.named
  have hlocks := B.notSynchronized
  subst hsz
  have hD := hD0.self (sz := s.heap.size)
  generalize hAe : va_A (sr_wX x a1 a2 a3 a4 a5 z1 z2 z3 z4 z5 mo cf cl ac st T F G L S) s.heap.size = A at hD ⊢
  have hA : ∀ q : Nat, s.heap.size ≤ q → A q := fun q h => by rw [← hAe]; exact Or.inr h
  have hS : va_S A s.heap s.heap [] := va_S.rf
  have hP : va_P (dC, dI) vwCl [(x, .inr (0, [.ref a1, .ref a2, .ref a3, .ref a4, .ref a5, .int (nI mo), .int (nI cf), .int (nI cl), .int (nI ac), .int st])), (a1, .inl (z1, 2000, .inl T)), (a2, .inl (z2, 2000, .inl F)), (a3, .inl (z3, 2000, .inl G)), (a4, .inl (z4, 2000, .inl L)), (a5, .inl (z5, 2001, .inl S))] s.heap := hP
  have hD : va_D A [(x, .inr (0, [.ref a1, .ref a2, .ref a3, .ref a4, .ref a5, .int (nI mo), .int (nI cf), .int (nI cl), .int (nI ac), .int st])), (a1, .inl (z1, 2000, .inl T)), (a2, .inl (z2, 2000, .inl F)), (a3, .inl (z3, 2000, .inl G)), (a4, .inl (z4, 2000, .inl L)), (a5, .inl (z5, 2001, .inl S))] := hD
  have hK : va_K (dC, dI) vwCl [(z1, .int), (z2, .int), (z3, .int), (z4, .int), (z5, .int)] s := hK
  have hin0 : ∀ w ∈ u_ws RX0 TX0 10, w ∈ wsX0_fastestAcross := by decide +kernel
  have hl := lv_entry ([.ref x, .int (nI t), .int (nI a), .int (nI b)]) (n := 10) (Nat.le_of_ble_eq_true rfl)
  rw [lg_entry_eq]
  generalize (lg_sl ([.ref x, .int (nI t), .int (nI a), .int (nI b)]) ++ List.replicate (10 - (lg_sl ([.ref x, .int (nI t), .int (nI a), .int (nI b)])).length) Slot.unset).toArray = ls at hl ⊢
  have hl : lv_has ls 10 [(0, .ref x), (1, .int (nI t)), (2, .int (nI a)), (3, .int (nI b))] := hl
  have e1 : a * a ≤ 99999 * 99999 := Nat.mul_le_mul ha ha
  have e2 : 2 * ac * t ≤ 20000 * 100000 := Nat.mul_le_mul (by omega) ht
  have e3 : b * b ≤ 99999 * 99999 := Nat.mul_le_mul hbb hbb
  obtain ⟨sq, esq⟩ : ∃ z, z = a * a + 2 * ac * t := ⟨_, rfl⟩
  refine lv_iload_n hx hb dX0_fastestAcross_0 rfl (lv_at hl 2 rfl) ?_
  refine lv_i2l (v := lN a) hx hb dX0_fastestAcross_1 (nI_l (by omega)) ?_
  refine lv_iload_n hx hb dX0_fastestAcross_2 rfl (lv_at hl 2 rfl) ?_
  refine lv_i2l (v := lN a) hx hb dX0_fastestAcross_3 (nI_l (by omega)) ?_
  refine lv_lmul hx hb dX0_fastestAcross_4 ?_
  refine sr_tl (y := lN (a * a)) (lN_mul _ _) ?_
  refine lv_ldc2 (v := lN 2) hx hb hown (hts (.constantLong RX0 83 2) (by decide +kernel)) dX0_fastestAcross_5 ?_
  refine lv_aload_n hx hb dX0_fastestAcross_8 rfl (lv_at hl 0 rfl) ?_
  refine va_get (D := (dC, dI)) (ci := 0) (v := .int (nI ac)) (C := RX0) (T := TX0) (N := 10) hx hb hts hin0 hown hK hP 0 rfl rfl 8 (by decide) (hts (.fieldLink RX0 39 "SpeedRows" "rate" "I") (by decide +kernel)) (fun _ h9 => h9) rfl dX0_fastestAcross_9 ?_
  refine lv_i2l (v := lN ac) hx hb dX0_fastestAcross_12 (nI_l (by omega)) ?_
  refine lv_lmul hx hb dX0_fastestAcross_13 ?_
  refine sr_tl (y := lN (2 * ac)) (lN_mul _ _) ?_
  refine lv_iload_n hx hb dX0_fastestAcross_14 rfl (lv_at hl 1 rfl) ?_
  refine lv_i2l (v := lN t) hx hb dX0_fastestAcross_15 (nI_l (by omega)) ?_
  refine lv_lmul hx hb dX0_fastestAcross_16 ?_
  refine sr_tl (y := lN ((2 * ac) * t)) (lN_mul _ _) ?_
  refine lv_ladd hx hb dX0_fastestAcross_17 ?_
  refine sr_tl (y := lN ((a * a) + ((2 * ac) * t))) (lN_add _ _) ?_
  refine sr_tl (y := lN sq) (by rw [esq]) ?_
  refine lv_lstore (lv' := [(4, .long (lN sq)), (0, .ref x), (1, .int (nI t)), (2, .int (nI a)), (3, .int (nI b))]) hx hb dX0_fastestAcross_18 hl (by decide) rfl (fun ls hl => ?_)
  refine lv_iload_n hx hb dX0_fastestAcross_20 rfl (lv_at hl 4 rfl) ?_
  refine lv_i2l (v := lN b) hx hb dX0_fastestAcross_21 (nI_l (by omega)) ?_
  refine lv_iload_n hx hb dX0_fastestAcross_22 rfl (lv_at hl 4 rfl) ?_
  refine lv_i2l (v := lN b) hx hb dX0_fastestAcross_23 (nI_l (by omega)) ?_
  refine lv_lmul hx hb dX0_fastestAcross_24 ?_
  refine sr_tl (y := lN (b * b)) (lN_mul _ _) ?_
  refine lv_lload hx hb dX0_fastestAcross_25 (lv_at hl 0 rfl) ?_
  refine W.lcmp hx hb dX0_fastestAcross_27 ?_
  refine lv_if_gt (tgt := 33) hx hb dX0_fastestAcross_28 (by decide) (fun c1 => ?_) (fun c1 => ?_)
  · have g : sq < b * b := (pk_lLT (by omega) (by omega)).mp ((lg_cmp_gt _ _).mp c1)
    refine lv_iconst (v := nI 0) hx hb dX0_fastestAcross_33 (by decide) ?_
    refine lv_istore (lv' := [(6, .int (nI 0)), (4, .long (lN sq)), (0, .ref x), (1, .int (nI t)), (2, .int (nI a)), (3, .int (nI b))]) hx hb dX0_fastestAcross_34 hl (by decide) rfl (fun ls hl => ?_)
    refine lv_bipush (v := nI 16) hx hb dX0_fastestAcross_36 (by decide) ?_
    refine lv_istore (lv' := [(7, .int (nI 16)), (6, .int (nI 0)), (4, .long (lN sq)), (0, .ref x), (1, .int (nI t)), (2, .int (nI a)), (3, .int (nI b))]) hx hb dX0_fastestAcross_38 hl (by decide) rfl (fun ls hl => ?_)
    refine lp_X0_fa ⟨hx, hb, hml, hown, hts⟩ (sq := sq) (by omega) (fun r ls q1 q2 q3 hl => ?_) 17 0 (nI 16) ls (by decide) (by decide) (by omega) ?_ (by decide) (lv_sub hl [2, 1, 0] rfl)
    · have er : sr_r ac t a = r := by unfold sr_r; rw [← esq]; exact sr_q_uniq q1 q2
      have hrb : r ≤ b := by
        rcases Nat.lt_or_ge b r with q | q
        · have := Nat.mul_self_le_mul_self (Nat.le_of_lt q)
          omega
        · exact q
      refine lv_iload hx hb dX0_fastestAcross_81 (lv_at hl 0 rfl) ?_
      exact W.iret (v := nI r) hx hb hr (fun t ht hW => ⟨⟨nI r, _, rfl, ⟨rfl, by rw [er, Nat.min_eq_right hrb]⟩, by rw [ht]; exact hP, va_K.moved hW.alike hK, hD⟩, hS.F ht⟩) hS.2.2 dX0_fastestAcross_83
    · omega
  · have g : b * b ≤ sq := Nat.le_of_not_lt (fun q => c1 ((lg_cmp_gt _ _).mpr ((pk_lLT (by omega) (by omega)).mpr q)))
    have gq : b ≤ sr_r ac t a := by unfold sr_r; rw [← esq]; exact sr_le_q.mpr g
    refine lv_iload_n hx hb dX0_fastestAcross_31 rfl (lv_at hl 4 rfl) ?_
    exact W.iret (v := nI b) hx hb hr (fun t ht hW => ⟨⟨nI b, _, rfl, ⟨rfl, by rw [Nat.min_eq_left gq]⟩, by rw [ht]; exact hP, va_K.moved hW.alike hK, hD⟩, hS.F ht⟩) hS.2.2 dX0_fastestAcross_32
set_option maxHeartbeats 4000000 in
set_option maxRecDepth 100000 in
theorem c_X0_turnLimit (l : Launch) (dC : Nat → ClassId) (dI : Nat → Nat → Nat) (x a1 a2 a3 a4 a5 : Nat) (z1 z2 z3 z4 z5 : ClassId) (sz : Nat) (mo cf cl ac : Nat) (st : Int32) (T F G L S : Nat → Int32) (j q g fe : Nat) (hj : j < 2000) (hq : sr_ok q) (hcf : sr_ok cf) (hG : G j = nI q) (hF : F j = nI g) (hg : g ≤ 99999) (hfe : fe ≤ 99999) : Met l yX0_turnLimit wsX0_turnLimit ({ frames := 2, cells := 0, slots := 0, locals := 44 }) (sr_pre dC dI (sr_tX z1 z2 z3 z4 z5) (sr_wX x a1 a2 a3 a4 a5 z1 z2 z3 z4 z5 mo cf cl ac st T F G L S) sz [.ref x, .int (nI j), .int (nI fe)]) (va_Qi (fun (r : Int32) (u : va_W) => u = sr_wX x a1 a2 a3 a4 a5 z1 z2 z3 z4 z5 mo cf cl ac st T F G L S ∧ r = nI (min g fe * sr_pd q cf / sr_mx q cf)) (sr_at dC dI (sr_tX z1 z2 z3 z4 z5) (va_A (sr_wX x a1 a2 a3 a4 a5 z1 z2 z3 z4 z5 mo cf cl ac st T F G L S) sz)) (va_A (sr_wX x a1 a2 a3 a4 a5 z1 z2 z3 z4 z5 mo cf cl ac st T F G L S) sz)) 0 0 (va_A (sr_wX x a1 a2 a3 a4 a5 z1 z2 z3 z4 z5 mo cf cl ac st T F G L S) sz) := by
  refine Met.ofW (cc := cX0_turnLimit) (maxL := 5) (ret := (some .int)) (by decide) rfl ?_
  intro p e s m args below meth c s₁ B hml hv
  obtain ⟨rfl, hsz, hP, hK, hD0⟩ := hv
  have hx := B.exec
  have hb := B.bytes
  have hr := B.returns
  have hts := atoms_spec (ws := wsX0_turnLimit) B.pre
  have hown : s.vm.findClass RX0 = some m.cls := findClass_of_methodNamed B.named
  have hlocks := B.notSynchronized
  subst hsz
  have hD := hD0.self (sz := s.heap.size)
  generalize hAe : va_A (sr_wX x a1 a2 a3 a4 a5 z1 z2 z3 z4 z5 mo cf cl ac st T F G L S) s.heap.size = A at hD ⊢
  have hA : ∀ q : Nat, s.heap.size ≤ q → A q := fun q h => by rw [← hAe]; exact Or.inr h
  have hS : va_S A s.heap s.heap [] := va_S.rf
  have hP : va_P (dC, dI) vwCl [(x, .inr (0, [.ref a1, .ref a2, .ref a3, .ref a4, .ref a5, .int (nI mo), .int (nI cf), .int (nI cl), .int (nI ac), .int st])), (a1, .inl (z1, 2000, .inl T)), (a2, .inl (z2, 2000, .inl F)), (a3, .inl (z3, 2000, .inl G)), (a4, .inl (z4, 2000, .inl L)), (a5, .inl (z5, 2001, .inl S))] s.heap := hP
  have hD : va_D A [(x, .inr (0, [.ref a1, .ref a2, .ref a3, .ref a4, .ref a5, .int (nI mo), .int (nI cf), .int (nI cl), .int (nI ac), .int st])), (a1, .inl (z1, 2000, .inl T)), (a2, .inl (z2, 2000, .inl F)), (a3, .inl (z3, 2000, .inl G)), (a4, .inl (z4, 2000, .inl L)), (a5, .inl (z5, 2001, .inl S))] := hD
  have hK : va_K (dC, dI) vwCl [(z1, .int), (z2, .int), (z3, .int), (z4, .int), (z5, .int)] s := hK
  have hin0 : ∀ w ∈ u_ws RX0 TX0 10, w ∈ wsX0_turnLimit := by decide +kernel
  have hl := lv_entry ([.ref x, .int (nI j), .int (nI fe)]) (n := 5) (Nat.le_of_ble_eq_true rfl)
  rw [lg_entry_eq]
  generalize (lg_sl ([.ref x, .int (nI j), .int (nI fe)]) ++ List.replicate (5 - (lg_sl ([.ref x, .int (nI j), .int (nI fe)])).length) Slot.unset).toArray = ls at hl ⊢
  have hl : lv_has ls 5 [(0, .ref x), (1, .int (nI j)), (2, .int (nI fe))] := hl
  have p1 := sr_pd_le hq.1 hq.1
  have p2 := sr_pd_le hcf.1 hcf.1
  have p3 := sr_pd_le hq.1 hcf.1
  have p4 := sr_pd_pos hq
  have p5 := sr_pd_pos hcf
  have p6 : sr_mx q cf ≤ 3 := Nat.max_le.mpr ⟨p1, p2⟩
  have p7 : 1 ≤ sr_mx q cf := Nat.le_trans p4 (Nat.le_max_left _ _)
  have p8 : min g fe * sr_pd q cf ≤ 99999 * 3 := Nat.mul_le_mul (Nat.le_trans (Nat.min_le_left _ _) hg) p3
  refine lv_aload_n hx hb dX0_turnLimit_0 rfl (lv_at hl 0 rfl) ?_
  refine va_get (D := (dC, dI)) (ci := 0) (v := .ref a3) (C := RX0) (T := TX0) (N := 10) hx hb hts hin0 hown hK hP 0 rfl rfl 2 (by decide) (hts (.fieldLink RX0 16 "SpeedRows" "lastSteps" "[I") (by decide +kernel)) (fun _ h9 => h9) rfl dX0_turnLimit_1 ?_
  refine lv_iload_n hx hb dX0_turnLimit_4 rfl (lv_at hl 1 rfl) ?_
  refine sr_iald (v := nI q) hx hb hK hP 3 2 rfl rfl (by omega) (by decide) (hG) dX0_turnLimit_5 ?_
  refine lv_istore_n (lv' := [(3, .int (nI q)), (0, .ref x), (1, .int (nI j)), (2, .int (nI fe))]) hx hb dX0_turnLimit_6 rfl hl (by decide) rfl (fun ls hl => ?_)
  refine lv_iload_n hx hb dX0_turnLimit_7 rfl (lv_at hl 0 rfl) ?_
  refine vp_callSi (W.runS (As := [.int (nI q)]) (rest := []) ⟨hx, hb, hml, hown, hts⟩ (c_X0_sumOfSquares l (nI q)) (va_cwS 1 hts gX0_turnLimit_X0_sumOfSquares rfl rfl rfl (by decide +kernel) ⟨Nat.le_of_ble_eq_true rfl, Nat.le_of_ble_eq_true rfl⟩) ⟨sr_blindT, sr_mkT⟩ rfl rfl hl.1 rfl (lv_room (Nat.le_of_ble_eq_true rfl)) dX0_turnLimit_8 ⟨Nat.zero_le _, Nat.zero_le _⟩) (fun r1 e1 => ?_)
  refine sr_ti (y := nI (sr_pd q q)) (by rw [e1]; exact ((sr_st_all q hq.1 q hq.1).2.1 hq.2).2) ?_
  refine lv_aload_n hx hb dX0_turnLimit_11 rfl (lv_at hl 1 rfl) ?_
  refine va_get (D := (dC, dI)) (ci := 0) (v := .int (nI cf)) (C := RX0) (T := TX0) (N := 10) hx hb hts hin0 hown hK hP 0 rfl rfl 6 (by decide) (hts (.fieldLink RX0 33 "SpeedRows" "nextFirst" "I") (by decide +kernel)) (fun _ h9 => h9) rfl dX0_turnLimit_12 ?_
  refine vp_callSi (W.runS (As := [.int (nI cf)]) (rest := [.int (nI (sr_pd q q))]) ⟨hx, hb, hml, hown, hts⟩ (c_X0_sumOfSquares l (nI cf)) (va_cwS 1 hts gX0_turnLimit_X0_sumOfSquares rfl rfl rfl (by decide +kernel) ⟨Nat.le_of_ble_eq_true rfl, Nat.le_of_ble_eq_true rfl⟩) ⟨sr_blindT, sr_mkT⟩ rfl rfl hl.1 rfl (lv_room (Nat.le_of_ble_eq_true rfl)) dX0_turnLimit_15 ⟨Nat.zero_le _, Nat.zero_le _⟩) (fun r2 e2 => ?_)
  refine sr_ti (y := nI (sr_pd cf cf)) (by rw [e2]; exact ((sr_st_all cf hcf.1 cf hcf.1).2.1 hcf.2).2) ?_
  refine va_mmax hx hb (by rw [hml]; exact hl.1.symm) hown (hts (.methodLink RX0 72 Lib.Math.max.name) (by decide +kernel)) (hts (.static Lib.Math.max.name) (by decide +kernel)) (hts (.initialized "java/lang/Math") (by decide +kernel)) (hts (.code Lib.Math.max.name Lib.Math.max.code 2 (some .int)) (by decide +kernel)) (Nat.le_of_ble_eq_true rfl) (Nat.le_of_ble_eq_true rfl) (Nat.zero_le _) (Nat.zero_le _) dX0_turnLimit_18 ?_
  refine sr_ti (y := nI (sr_mx q cf)) (sr_maxN (by omega) (by omega)) ?_
  refine lv_istore (lv' := [(4, .int (nI (sr_mx q cf))), (3, .int (nI q)), (0, .ref x), (1, .int (nI j)), (2, .int (nI fe))]) hx hb dX0_turnLimit_21 hl (by decide) rfl (fun ls hl => ?_)
  refine lv_iload hx hb dX0_turnLimit_23 (lv_at hl 0 rfl) ?_
  refine lv_iconst (v := nI 1) hx hb dX0_turnLimit_25 (by decide) ?_
  refine lv_icmp_ge (tgt := 31) hx hb dX0_turnLimit_26 (by decide) (fun c1 => ?_) (fun c1 => ?_)
  · refine lv_aload_n hx hb dX0_turnLimit_31 rfl (lv_at hl 2 rfl) ?_
    refine va_get (D := (dC, dI)) (ci := 0) (v := .ref a2) (C := RX0) (T := TX0) (N := 10) hx hb hts hin0 hown hK hP 0 rfl rfl 1 (by decide) (hts (.fieldLink RX0 13 "SpeedRows" "feeds" "[I") (by decide +kernel)) (fun _ h9 => h9) rfl dX0_turnLimit_32 ?_
    refine lv_iload_n hx hb dX0_turnLimit_35 rfl (lv_at hl 3 rfl) ?_
    refine sr_iald (v := nI g) hx hb hK hP 2 1 rfl rfl (by omega) (by decide) (hF) dX0_turnLimit_36 ?_
    refine lv_iload_n hx hb dX0_turnLimit_37 rfl (lv_at hl 4 rfl) ?_
    refine va_mmin hx hb (by rw [hml]; exact hl.1.symm) hown (hts (.methodLink RX0 77 Lib.Math.min.name) (by decide +kernel)) (hts (.static Lib.Math.min.name) (by decide +kernel)) (hts (.initialized "java/lang/Math") (by decide +kernel)) (hts (.code Lib.Math.min.name Lib.Math.min.code 2 (some .int)) (by decide +kernel)) (Nat.le_of_ble_eq_true rfl) (Nat.le_of_ble_eq_true rfl) (Nat.zero_le _) (Nat.zero_le _) dX0_turnLimit_38 ?_
    refine sr_ti (y := nI (min g fe)) (sr_minN (by omega) (by omega)) ?_
    refine lv_iconst (v := 0) hx hb dX0_turnLimit_41 (by decide) ?_
    refine lv_iload_n hx hb dX0_turnLimit_42 rfl (lv_at hl 1 rfl) ?_
    refine lv_aload_n hx hb dX0_turnLimit_43 rfl (lv_at hl 2 rfl) ?_
    refine va_get (D := (dC, dI)) (ci := 0) (v := .int (nI cf)) (C := RX0) (T := TX0) (N := 10) hx hb hts hin0 hown hK hP 0 rfl rfl 6 (by decide) (hts (.fieldLink RX0 33 "SpeedRows" "nextFirst" "I") (by decide +kernel)) (fun _ h9 => h9) rfl dX0_turnLimit_44 ?_
    refine vp_callSi (W.runS (As := [.int (nI q), .int (nI cf)]) (rest := [.int 0, .int (nI (min g fe))]) ⟨hx, hb, hml, hown, hts⟩ (c_X0_sumOfProducts l (nI q) (nI cf)) (va_cwS 2 hts gX0_turnLimit_X0_sumOfProducts rfl rfl rfl (by decide +kernel) ⟨Nat.le_of_ble_eq_true rfl, Nat.le_of_ble_eq_true rfl⟩) ⟨sr_blindT, sr_mkT⟩ rfl rfl hl.1 rfl (lv_room (Nat.le_of_ble_eq_true rfl)) dX0_turnLimit_47 ⟨Nat.zero_le _, Nat.zero_le _⟩) (fun r3 e3 => ?_)
    refine va_mmax hx hb (by rw [hml]; exact hl.1.symm) hown (hts (.methodLink RX0 72 Lib.Math.max.name) (by decide +kernel)) (hts (.static Lib.Math.max.name) (by decide +kernel)) (hts (.initialized "java/lang/Math") (by decide +kernel)) (hts (.code Lib.Math.max.name Lib.Math.max.code 2 (some .int)) (by decide +kernel)) (Nat.le_of_ble_eq_true rfl) (Nat.le_of_ble_eq_true rfl) (Nat.zero_le _) (Nat.zero_le _) dX0_turnLimit_50 ?_
    refine sr_ti (y := nI (sr_pd q cf)) (by rw [e3]; exact (sr_st_all q hq.1 cf hcf.1).1) ?_
    refine lv_imul hx hb dX0_turnLimit_53 ?_
    refine sr_ti (y := nI ((min g fe) * (sr_pd q cf))) (pk_mul _ _) ?_
    refine lv_iload hx hb dX0_turnLimit_54 (lv_at hl 0 rfl) ?_
    refine lv_idiv hx hb dX0_turnLimit_56 (nI_ne0 (by omega) (by omega)) ?_
    refine sr_ti (y := nI (min g fe * sr_pd q cf / sr_mx q cf)) (pk_div (by omega) (by omega) (by omega)) ?_
    exact W.iret (v := nI (min g fe * sr_pd q cf / sr_mx q cf)) hx hb hr (fun t ht hW => ⟨⟨nI (min g fe * sr_pd q cf / sr_mx q cf), _, rfl, ⟨rfl, rfl⟩, by rw [ht]; exact hP, va_K.moved hW.alike hK, hD⟩, hS.F ht⟩) hS.2.2 dX0_turnLimit_57
  · exact absurd (nI_le p7 (by omega)) c1
