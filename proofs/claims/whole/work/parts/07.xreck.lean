/-! THE CLASS: reckonSpeeds. -/
set_option maxHeartbeats 4000000 in
set_option maxRecDepth 100000 in
theorem lp_X0_rk1 {p : Program} {l : Launch} {e : Env} {R : Room} {s : State} {m : MethodId} {args : Array Value} {below : List Frame} {meth : Method} {c : Code} {Q : State → Prop} {A : Nat → Prop} {H0 : Heap} (C0 : CallFix p m c cX0_reckonSpeeds 2 s args wsX0_reckonSpeeds RX0) (hRf : 1 ≤ R.frames) (hRl : 29 ≤ R.locals) {dC : Nat → ClassId} {dI : Nat → Nat → Nat} {x a1 a2 a3 a4 a5 : Nat} {z1 z2 z3 z4 z5 : ClassId} {mo cf cl ac : Nat} {st : Int32} {T F G L : Nat → Int32} {tk fd fs la : Nat → Nat} (g : sr_G mo ac cf cl tk fd fs la) (hI : sr_XI mo tk fd fs la T F G L) (hK : va_K (dC, dI) vwCl (sr_tX z1 z2 z3 z4 z5) s) (hA : ∀ q, H0.size ≤ q → A q)
    (hk : ∀ (S : Nat → Int32) (H : Heap) (locs : List Loc) (ls : Array Slot), (∀ k, k ≤ mo → S k = nI (sr_f (sr_lim mo fd fs la) ac tk k)) → va_P (dC, dI) vwCl (sr_wX x a1 a2 a3 a4 a5 z1 z2 z3 z4 z5 mo cf cl ac st T F G L S) H → va_D A (sr_wX x a1 a2 a3 a4 a5 z1 z2 z3 z4 z5 mo cf cl ac st T F G L S) → va_S A H0 H locs → lv_has ls 2 [(0, .ref x)] → W p l e R s m args below meth c H locs 0 0 Q (F0 m 62 ls [])) :
    ∀ (n j : Nat) (S : Nat → Int32) (H : Heap) (locs : List Loc) (ls : Array Slot), j ≤ mo → mo + 1 ≤ j + n → (∀ k, k ≤ j → S k = nI (sr_f (sr_lim mo fd fs la) ac tk k)) → va_P (dC, dI) vwCl (sr_wX x a1 a2 a3 a4 a5 z1 z2 z3 z4 z5 mo cf cl ac st T F G L S) H → va_D A (sr_wX x a1 a2 a3 a4 a5 z1 z2 z3 z4 z5 mo cf cl ac st T F G L S) → va_S A H0 H locs → lv_has ls 2 [(0, .ref x), (1, .int (nI (j + 1)))] → W p l e R s m args below meth c H locs 0 0 Q (F0 m 17 ls []) := by
  obtain ⟨hx, hb, hml, hown, hts⟩ := C0
  have hin0 : ∀ w ∈ u_ws RX0 TX0 10, w ∈ wsX0_reckonSpeeds := by decide +kernel
  obtain ⟨hmo, ⟨hac1, hac2⟩, hcf, hcl, hpath⟩ := id g
  have hK : va_K (dC, dI) vwCl [(z1, .int), (z2, .int), (z3, .int), (z4, .int), (z5, .int)] s := hK
  intro n
  induction n with
  | zero =>
    intro j S H locs ls h1 h2
    exact absurd h2 (by omega)
  | succ n ih =>
    intro j S H locs ls h1 h2 hv hP hD hS hl
    have hP : va_P (dC, dI) vwCl [(x, .inr (0, [.ref a1, .ref a2, .ref a3, .ref a4, .ref a5, .int (nI mo), .int (nI cf), .int (nI cl), .int (nI ac), .int st])), (a1, .inl (z1, 2000, .inl T)), (a2, .inl (z2, 2000, .inl F)), (a3, .inl (z3, 2000, .inl G)), (a4, .inl (z4, 2000, .inl L)), (a5, .inl (z5, 2001, .inl S))] H := hP
    have hD : va_D A [(x, .inr (0, [.ref a1, .ref a2, .ref a3, .ref a4, .ref a5, .int (nI mo), .int (nI cf), .int (nI cl), .int (nI ac), .int st])), (a1, .inl (z1, 2000, .inl T)), (a2, .inl (z2, 2000, .inl F)), (a3, .inl (z3, 2000, .inl G)), (a4, .inl (z4, 2000, .inl L)), (a5, .inl (z5, 2001, .inl S))] := hD
    refine lv_iload_n hx hb dX0_reckonSpeeds_17 rfl (lv_at hl 1 rfl) ?_
    refine lv_aload_n hx hb dX0_reckonSpeeds_18 rfl (lv_at hl 0 rfl) ?_
    refine va_get (D := (dC, dI)) (ci := 0) (v := .int (nI mo)) (C := RX0) (T := TX0) (N := 10) hx hb hts hin0 hown hK hP 0 rfl rfl 5 (by decide) (hts (.fieldLink RX0 25 "SpeedRows" "moves" "I") (by decide +kernel)) (fun _ h9 => h9) rfl dX0_reckonSpeeds_19 ?_
    refine lv_icmp_gt (tgt := 62) hx hb dX0_reckonSpeeds_22 (by decide) (fun c1 => ?_) (fun c1 => ?_)
    · have e1 : mo < j + 1 := (nI_ltI (by omega) (by omega)).mp c1
      exact hk S H locs ls (fun k q => hv k (by omega)) hP hD hS (lv_sub hl [0] rfl)
    · have e1 : j < mo := by
        rcases Nat.lt_or_ge j mo with q | q
        · exact q
        · exact absurd ((nI_ltI (by omega) (by omega)).mpr (by omega)) c1
      have hb1 : sr_f (sr_lim mo fd fs la) ac tk j ≤ 99999 := Nat.le_trans (sr_f_le _ _ _ _) (sr_lim_le g j)
      have hb2 : sr_lim mo fd fs la (j + 1) ≤ 99999 := sr_lim_le g _
      refine lv_aload_n hx hb dX0_reckonSpeeds_25 rfl (lv_at hl 0 rfl) ?_
      refine va_get (D := (dC, dI)) (ci := 0) (v := .ref a5) (C := RX0) (T := TX0) (N := 10) hx hb hts hin0 hown hK hP 0 rfl rfl 4 (by decide) (hts (.fieldLink RX0 22 "SpeedRows" "speeds" "[I") (by decide +kernel)) (fun _ h9 => h9) rfl dX0_reckonSpeeds_26 ?_
      refine lv_iload_n hx hb dX0_reckonSpeeds_29 rfl (lv_at hl 1 rfl) ?_
      refine lv_aload_n hx hb dX0_reckonSpeeds_30 rfl (lv_at hl 0 rfl) ?_
      refine lv_aload_n hx hb dX0_reckonSpeeds_31 rfl (lv_at hl 0 rfl) ?_
      refine va_get (D := (dC, dI)) (ci := 0) (v := .ref a1) (C := RX0) (T := TX0) (N := 10) hx hb hts hin0 hown hK hP 0 rfl rfl 0 (by decide) (hts (.fieldLink RX0 9 "SpeedRows" "ticks" "[I") (by decide +kernel)) (fun _ h9 => h9) rfl dX0_reckonSpeeds_32 ?_
      refine lv_iload_n hx hb dX0_reckonSpeeds_35 rfl (lv_at hl 1 rfl) ?_
      refine lv_iconst (v := 1) hx hb dX0_reckonSpeeds_36 (by decide) ?_
      refine lv_isub hx hb dX0_reckonSpeeds_37 ?_
      refine sr_ti (y := nI j) (nI_pred j) ?_
      refine sr_iald (v := nI (tk j)) hx hb hK hP 1 0 rfl rfl (by omega) (by decide) ((hI j e1).1) dX0_reckonSpeeds_38 ?_
      refine lv_aload_n hx hb dX0_reckonSpeeds_39 rfl (lv_at hl 0 rfl) ?_
      refine va_get (D := (dC, dI)) (ci := 0) (v := .ref a5) (C := RX0) (T := TX0) (N := 10) hx hb hts hin0 hown hK hP 0 rfl rfl 4 (by decide) (hts (.fieldLink RX0 22 "SpeedRows" "speeds" "[I") (by decide +kernel)) (fun _ h9 => h9) rfl dX0_reckonSpeeds_40 ?_
      refine lv_iload_n hx hb dX0_reckonSpeeds_43 rfl (lv_at hl 1 rfl) ?_
      refine lv_iconst (v := 1) hx hb dX0_reckonSpeeds_44 (by decide) ?_
      refine lv_isub hx hb dX0_reckonSpeeds_45 ?_
      refine sr_ti (y := nI j) (nI_pred j) ?_
      refine sr_iald (v := nI (sr_f (sr_lim mo fd fs la) ac tk j)) hx hb hK hP 5 4 rfl rfl (by omega) (by decide) (hv j (Nat.le_refl j)) dX0_reckonSpeeds_46 ?_
      refine lv_aload_n hx hb dX0_reckonSpeeds_47 rfl (lv_at hl 0 rfl) ?_
      refine lv_iload_n hx hb dX0_reckonSpeeds_48 rfl (lv_at hl 1 rfl) ?_
      have hPc := hP.sub (ws' := [(x, .inr (0, [.ref a1, .ref a2, .ref a3, .ref a4, .ref a5, .int (nI mo), .int (nI cf), .int (nI cl), .int (nI ac), .int st])), (a1, .inl (z1, 2000, .inl T)), (a2, .inl (z2, 2000, .inl F)), (a3, .inl (z3, 2000, .inl G)), (a4, .inl (z4, 2000, .inl L)), (a5, .inl (z5, 2001, .inl S))]) [0, 1, 2, 3, 4, 5] rfl
      have hDc := hD.sub (ws' := [(x, .inr (0, [.ref a1, .ref a2, .ref a3, .ref a4, .ref a5, .int (nI mo), .int (nI cf), .int (nI cl), .int (nI ac), .int st])), (a1, .inl (z1, 2000, .inl T)), (a2, .inl (z2, 2000, .inl F)), (a3, .inl (z3, 2000, .inl G)), (a4, .inl (z4, 2000, .inl L)), (a5, .inl (z5, 2001, .inl S))]) [0, 1, 2, 3, 4, 5] (by decide) rfl
      have hKc := hK.sub (tys' := [(z1, .int), (z2, .int), (z3, .int), (z4, .int), (z5, .int)]) [0, 1, 2, 3, 4] rfl
      have hFc := va_free (wc := [(x, .inr (0, [.ref a1, .ref a2, .ref a3, .ref a4, .ref a5, .int (nI mo), .int (nI cf), .int (nI cl), .int (nI ac), .int st])), (a1, .inl (z1, 2000, .inl T)), (a2, .inl (z2, 2000, .inl F)), (a3, .inl (z3, 2000, .inl G)), (a4, .inl (z4, 2000, .inl L)), (a5, .inl (z5, 2001, .inl S))]) hD hS hA [0, 1, 2, 3, 4, 5] rfl
      refine va_calli (va_runV (As := [.int (nI (j + 1))]) (rest := [.int (nI (sr_f (sr_lim mo fd fs la) ac tk j)), .int (nI (tk j)), .ref x, .int (nI (j + 1)), .ref a5]) ⟨hx, hb, hml, hown, hts⟩ (c_X0_limitAt l dC dI x a1 a2 a3 a4 a5 z1 z2 z3 z4 z5 H.size mo cf cl ac st T F G L S tk fd fs la (j + 1) hI hmo (by omega)) (cwV 1 hts gX0_reckonSpeeds_X0_limitAt rfl rfl rfl (by decide +kernel) ⟨Nat.le_trans (show _ ≤ 1 from Nat.le_of_ble_eq_true rfl) hRf, Nat.le_trans (show _ ≤ 29 from Nat.le_of_ble_eq_true rfl) hRl⟩) ⟨sr_blind, va_recv hKc hPc (ci := 0) (q0 := 0) rfl rfl, sr_mk hPc hKc hDc⟩ rfl rfl hl.1 rfl (lv_room (Nat.le_of_ble_eq_true rfl)) dX0_reckonSpeeds_49 ⟨Nat.zero_le _, Nat.zero_le _⟩) hS (fun q _ h => hFc q h) hFc (fun r1 u t H1 locs ht hvm hw hB hz1 hk1 hS => ?_)
      obtain ⟨hP1, hK1, hD1⟩ := hB
      rw [ht] at hP1
      obtain ⟨rfl, rfl⟩ := hw
      obtain ⟨hP, hD⟩ := va_join (wr := []) (w1 := [(x, .inr (0, [.ref a1, .ref a2, .ref a3, .ref a4, .ref a5, .int (nI mo), .int (nI cf), .int (nI cl), .int (nI ac), .int st])), (a1, .inl (z1, 2000, .inl T)), (a2, .inl (z2, 2000, .inl F)), (a3, .inl (z3, 2000, .inl G)), (a4, .inl (z4, 2000, .inl L)), (a5, .inl (z5, 2001, .inl S))]) hP hD [0, 1, 2, 3, 4, 5] [] rfl rfl (by decide) (by decide) hk1 hFc hP1 hD1
      generalize H1 = H at hP hS ⊢
      have hP : va_P (dC, dI) vwCl [(x, .inr (0, [.ref a1, .ref a2, .ref a3, .ref a4, .ref a5, .int (nI mo), .int (nI cf), .int (nI cl), .int (nI ac), .int st])), (a1, .inl (z1, 2000, .inl T)), (a2, .inl (z2, 2000, .inl F)), (a3, .inl (z3, 2000, .inl G)), (a4, .inl (z4, 2000, .inl L)), (a5, .inl (z5, 2001, .inl S))] H := hP
      have hD : va_D A [(x, .inr (0, [.ref a1, .ref a2, .ref a3, .ref a4, .ref a5, .int (nI mo), .int (nI cf), .int (nI cl), .int (nI ac), .int st])), (a1, .inl (z1, 2000, .inl T)), (a2, .inl (z2, 2000, .inl F)), (a3, .inl (z3, 2000, .inl G)), (a4, .inl (z4, 2000, .inl L)), (a5, .inl (z5, 2001, .inl S))] := hD
      have hPc := hP.sub (ws' := [(x, .inr (0, [.ref a1, .ref a2, .ref a3, .ref a4, .ref a5, .int (nI mo), .int (nI cf), .int (nI cl), .int (nI ac), .int st])), (a1, .inl (z1, 2000, .inl T)), (a2, .inl (z2, 2000, .inl F)), (a3, .inl (z3, 2000, .inl G)), (a4, .inl (z4, 2000, .inl L)), (a5, .inl (z5, 2001, .inl S))]) [0, 1, 2, 3, 4, 5] rfl
      have hDc := hD.sub (ws' := [(x, .inr (0, [.ref a1, .ref a2, .ref a3, .ref a4, .ref a5, .int (nI mo), .int (nI cf), .int (nI cl), .int (nI ac), .int st])), (a1, .inl (z1, 2000, .inl T)), (a2, .inl (z2, 2000, .inl F)), (a3, .inl (z3, 2000, .inl G)), (a4, .inl (z4, 2000, .inl L)), (a5, .inl (z5, 2001, .inl S))]) [0, 1, 2, 3, 4, 5] (by decide) rfl
      have hKc := hK.sub (tys' := [(z1, .int), (z2, .int), (z3, .int), (z4, .int), (z5, .int)]) [0, 1, 2, 3, 4] rfl
      have hFc := va_free (wc := [(x, .inr (0, [.ref a1, .ref a2, .ref a3, .ref a4, .ref a5, .int (nI mo), .int (nI cf), .int (nI cl), .int (nI ac), .int st])), (a1, .inl (z1, 2000, .inl T)), (a2, .inl (z2, 2000, .inl F)), (a3, .inl (z3, 2000, .inl G)), (a4, .inl (z4, 2000, .inl L)), (a5, .inl (z5, 2001, .inl S))]) hD hS hA [0, 1, 2, 3, 4, 5] rfl
      refine va_calli (va_runV (As := [.int (nI (tk j)), .int (nI (sr_f (sr_lim mo fd fs la) ac tk j)), .int (nI (sr_lim mo fd fs la (j + 1)))]) (rest := [.int (nI (j + 1)), .ref a5]) ⟨hx, hb, hml, hown, hts⟩ (c_X0_fastestAcross l dC dI x a1 a2 a3 a4 a5 z1 z2 z3 z4 z5 H.size mo cf cl ac st T F G L S (tk j) (sr_f (sr_lim mo fd fs la) ac tk j) (sr_lim mo fd fs la (j + 1)) (hpath j e1).1.2 hb1 hb2 hac2) (cwV 3 hts gX0_reckonSpeeds_X0_fastestAcross rfl rfl rfl (by decide +kernel) ⟨Nat.le_trans (show _ ≤ 1 from Nat.le_of_ble_eq_true rfl) hRf, Nat.le_trans (show _ ≤ 29 from Nat.le_of_ble_eq_true rfl) hRl⟩) ⟨sr_blind, va_recv hKc hPc (ci := 0) (q0 := 0) rfl rfl, sr_mk hPc hKc hDc⟩ rfl rfl hl.1 rfl (lv_room (Nat.le_of_ble_eq_true rfl)) dX0_reckonSpeeds_52 ⟨Nat.zero_le _, Nat.zero_le _⟩) hS (fun q _ h => hFc q h) hFc (fun r2 u t H1 locs ht hvm hw hB hz1 hk1 hS => ?_)
      obtain ⟨hP1, hK1, hD1⟩ := hB
      rw [ht] at hP1
      obtain ⟨rfl, rfl⟩ := hw
      obtain ⟨hP, hD⟩ := va_join (wr := []) (w1 := [(x, .inr (0, [.ref a1, .ref a2, .ref a3, .ref a4, .ref a5, .int (nI mo), .int (nI cf), .int (nI cl), .int (nI ac), .int st])), (a1, .inl (z1, 2000, .inl T)), (a2, .inl (z2, 2000, .inl F)), (a3, .inl (z3, 2000, .inl G)), (a4, .inl (z4, 2000, .inl L)), (a5, .inl (z5, 2001, .inl S))]) hP hD [0, 1, 2, 3, 4, 5] [] rfl rfl (by decide) (by decide) hk1 hFc hP1 hD1
      generalize H1 = H at hP hS ⊢
      have hP : va_P (dC, dI) vwCl [(x, .inr (0, [.ref a1, .ref a2, .ref a3, .ref a4, .ref a5, .int (nI mo), .int (nI cf), .int (nI cl), .int (nI ac), .int st])), (a1, .inl (z1, 2000, .inl T)), (a2, .inl (z2, 2000, .inl F)), (a3, .inl (z3, 2000, .inl G)), (a4, .inl (z4, 2000, .inl L)), (a5, .inl (z5, 2001, .inl S))] H := hP
      have hD : va_D A [(x, .inr (0, [.ref a1, .ref a2, .ref a3, .ref a4, .ref a5, .int (nI mo), .int (nI cf), .int (nI cl), .int (nI ac), .int st])), (a1, .inl (z1, 2000, .inl T)), (a2, .inl (z2, 2000, .inl F)), (a3, .inl (z3, 2000, .inl G)), (a4, .inl (z4, 2000, .inl L)), (a5, .inl (z5, 2001, .inl S))] := hD
      refine sr_ti (y := nI (sr_f (sr_lim mo fd fs la) ac tk (j + 1))) (by rw [sr_f]) ?_
      refine sr_iast hx hb hK hP hD hS 5 4 rfl rfl (by omega) (by decide) dX0_reckonSpeeds_55 (fun H locs hP hD hS => ?_)
      have hP : va_P (dC, dI) vwCl [(x, .inr (0, [.ref a1, .ref a2, .ref a3, .ref a4, .ref a5, .int (nI mo), .int (nI cf), .int (nI cl), .int (nI ac), .int st])), (a1, .inl (z1, 2000, .inl T)), (a2, .inl (z2, 2000, .inl F)), (a3, .inl (z3, 2000, .inl G)), (a4, .inl (z4, 2000, .inl L)), (a5, .inl (z5, 2001, .inl (upd S (j + 1) (nI (sr_f (sr_lim mo fd fs la) ac tk (j + 1))))))] H := hP
      have hD : va_D A [(x, .inr (0, [.ref a1, .ref a2, .ref a3, .ref a4, .ref a5, .int (nI mo), .int (nI cf), .int (nI cl), .int (nI ac), .int st])), (a1, .inl (z1, 2000, .inl T)), (a2, .inl (z2, 2000, .inl F)), (a3, .inl (z3, 2000, .inl G)), (a4, .inl (z4, 2000, .inl L)), (a5, .inl (z5, 2001, .inl (upd S (j + 1) (nI (sr_f (sr_lim mo fd fs la) ac tk (j + 1))))))] := hD
      refine lv_iinc (v := nI ((j + 1) + 1)) (lv' := [(1, .int (nI ((j + 1) + 1))), (0, .ref x)]) hx hb dX0_reckonSpeeds_56 hl (k := 1) rfl (nI_1 _) (by decide) rfl (fun ls hl => ?_)
      refine lv_goto (tgt := 17) hx hb dX0_reckonSpeeds_59 (by decide) ?_
      refine ih (j + 1) _ H locs ls (by omega) (by omega) (fun k q => ?_) hP hD hS (lv_sub hl [1, 0] rfl)
      rcases Nat.lt_or_ge k (j + 1) with h | h
      · rw [pk_un (by omega)]
        exact hv k (by omega)
      · obtain rfl : k = j + 1 := by omega
        rw [pk_us]
set_option maxHeartbeats 4000000 in
set_option maxRecDepth 100000 in
theorem lp_X0_rk2 {p : Program} {l : Launch} {e : Env} {R : Room} {s : State} {m : MethodId} {args : Array Value} {below : List Frame} {meth : Method} {c : Code} {Q : State → Prop} {A : Nat → Prop} {H0 : Heap} (C0 : CallFix p m c cX0_reckonSpeeds 2 s args wsX0_reckonSpeeds RX0) (hRf : 1 ≤ R.frames) (hRl : 29 ≤ R.locals) {dC : Nat → ClassId} {dI : Nat → Nat → Nat} {x a1 a2 a3 a4 a5 : Nat} {z1 z2 z3 z4 z5 : ClassId} {mo cf cl ac : Nat} {st : Int32} {T F G L : Nat → Int32} {tk fd fs la : Nat → Nat} (g : sr_G mo ac cf cl tk fd fs la) (hI : sr_XI mo tk fd fs la T F G L) (hK : va_K (dC, dI) vwCl (sr_tX z1 z2 z3 z4 z5) s) (hA : ∀ q, H0.size ≤ q → A q)
    (hk : ∀ (S : Nat → Int32) (H : Heap) (locs : List Loc) (ls : Array Slot), (∀ k, k ≤ mo → S k = nI (sr_sp mo ac tk fd fs la k)) → va_P (dC, dI) vwCl (sr_wX x a1 a2 a3 a4 a5 z1 z2 z3 z4 z5 mo cf cl ac st T F G L S) H → va_D A (sr_wX x a1 a2 a3 a4 a5 z1 z2 z3 z4 z5 mo cf cl ac st T F G L S) → va_S A H0 H locs → lv_has ls 2 [(0, .ref x)] → W p l e R s m args below meth c H locs 0 0 Q (F0 m 109 ls [])) :
    ∀ (B : Nat) (v : Int32) (S : Nat → Int32) (H : Heap) (locs : List Loc) (ls : Array Slot), B ≤ mo → v = nI B - 1 → (∀ k, k < B → S k = nI (sr_f (sr_lim mo fd fs la) ac tk k)) → (∀ k, B ≤ k → k ≤ mo → S k = nI (sr_sp mo ac tk fd fs la k)) → va_P (dC, dI) vwCl (sr_wX x a1 a2 a3 a4 a5 z1 z2 z3 z4 z5 mo cf cl ac st T F G L S) H → va_D A (sr_wX x a1 a2 a3 a4 a5 z1 z2 z3 z4 z5 mo cf cl ac st T F G L S) → va_S A H0 H locs → lv_has ls 2 [(0, .ref x), (1, .int v)] → W p l e R s m args below meth c H locs 0 0 Q (F0 m 69 ls []) := by
  obtain ⟨hx, hb, hml, hown, hts⟩ := C0
  have hin0 : ∀ w ∈ u_ws RX0 TX0 10, w ∈ wsX0_reckonSpeeds := by decide +kernel
  obtain ⟨hmo, ⟨hac1, hac2⟩, hcf, hcl, hpath⟩ := id g
  have hK : va_K (dC, dI) vwCl [(z1, .int), (z2, .int), (z3, .int), (z4, .int), (z5, .int)] s := hK
  intro B
  induction B with
  | zero =>
    intro v S H locs ls h1 ev hv hw2 hP hD hS hl
    refine lv_iload_n hx hb dX0_reckonSpeeds_69 rfl (lv_at hl 1 rfl) ?_
    refine lv_if_lt (tgt := 109) hx hb dX0_reckonSpeeds_70 (by decide) (fun c1 => ?_) (fun c1 => ?_)
    · exact hk S H locs ls (fun k q => hw2 k (Nat.zero_le k) q) hP hD hS (lv_sub hl [0] rfl)
    · exact absurd (by rw [ev]; decide) c1
  | succ b ih =>
    intro v S H locs ls h1 ev hv hw2 hP hD hS hl
    obtain rfl : v = nI b := by rw [ev]; exact nI_pred b
    have hP : va_P (dC, dI) vwCl [(x, .inr (0, [.ref a1, .ref a2, .ref a3, .ref a4, .ref a5, .int (nI mo), .int (nI cf), .int (nI cl), .int (nI ac), .int st])), (a1, .inl (z1, 2000, .inl T)), (a2, .inl (z2, 2000, .inl F)), (a3, .inl (z3, 2000, .inl G)), (a4, .inl (z4, 2000, .inl L)), (a5, .inl (z5, 2001, .inl S))] H := hP
    have hD : va_D A [(x, .inr (0, [.ref a1, .ref a2, .ref a3, .ref a4, .ref a5, .int (nI mo), .int (nI cf), .int (nI cl), .int (nI ac), .int st])), (a1, .inl (z1, 2000, .inl T)), (a2, .inl (z2, 2000, .inl F)), (a3, .inl (z3, 2000, .inl G)), (a4, .inl (z4, 2000, .inl L)), (a5, .inl (z5, 2001, .inl S))] := hD
    refine lv_iload_n hx hb dX0_reckonSpeeds_69 rfl (lv_at hl 1 rfl) ?_
    refine lv_if_lt (tgt := 109) hx hb dX0_reckonSpeeds_70 (by decide) (fun c1 => ?_) (fun c1 => ?_)
    · exact absurd c1 (nI_pos (by omega))
    · have e1 : b < mo := h1
      have hb1 : sr_f (sr_lim mo fd fs la) ac tk b ≤ 99999 := Nat.le_trans (sr_f_le _ _ _ _) (sr_lim_le g b)
      have hb2 : sr_sp mo ac tk fd fs la (b + 1) ≤ 99999 := sr_sp_le g h1
      refine lv_aload_n hx hb dX0_reckonSpeeds_73 rfl (lv_at hl 0 rfl) ?_
      refine va_get (D := (dC, dI)) (ci := 0) (v := .ref a5) (C := RX0) (T := TX0) (N := 10) hx hb hts hin0 hown hK hP 0 rfl rfl 4 (by decide) (hts (.fieldLink RX0 22 "SpeedRows" "speeds" "[I") (by decide +kernel)) (fun _ h9 => h9) rfl dX0_reckonSpeeds_74 ?_
      refine lv_iload_n hx hb dX0_reckonSpeeds_77 rfl (lv_at hl 1 rfl) ?_
      refine lv_aload_n hx hb dX0_reckonSpeeds_78 rfl (lv_at hl 0 rfl) ?_
      refine lv_aload_n hx hb dX0_reckonSpeeds_79 rfl (lv_at hl 0 rfl) ?_
      refine va_get (D := (dC, dI)) (ci := 0) (v := .ref a1) (C := RX0) (T := TX0) (N := 10) hx hb hts hin0 hown hK hP 0 rfl rfl 0 (by decide) (hts (.fieldLink RX0 9 "SpeedRows" "ticks" "[I") (by decide +kernel)) (fun _ h9 => h9) rfl dX0_reckonSpeeds_80 ?_
      refine lv_iload_n hx hb dX0_reckonSpeeds_83 rfl (lv_at hl 1 rfl) ?_
      refine sr_iald (v := nI (tk b)) hx hb hK hP 1 0 rfl rfl (by omega) (by decide) ((hI b e1).1) dX0_reckonSpeeds_84 ?_
      refine lv_aload_n hx hb dX0_reckonSpeeds_85 rfl (lv_at hl 0 rfl) ?_
      refine va_get (D := (dC, dI)) (ci := 0) (v := .ref a5) (C := RX0) (T := TX0) (N := 10) hx hb hts hin0 hown hK hP 0 rfl rfl 4 (by decide) (hts (.fieldLink RX0 22 "SpeedRows" "speeds" "[I") (by decide +kernel)) (fun _ h9 => h9) rfl dX0_reckonSpeeds_86 ?_
      refine lv_iload_n hx hb dX0_reckonSpeeds_89 rfl (lv_at hl 1 rfl) ?_
      refine lv_iconst (v := nI 1) hx hb dX0_reckonSpeeds_90 (by decide) ?_
      refine lv_iadd hx hb dX0_reckonSpeeds_91 ?_
      refine sr_ti (y := nI (b + 1)) (nI_add _ _) ?_
      refine sr_iald (v := nI (sr_sp mo ac tk fd fs la (b + 1))) hx hb hK hP 5 4 rfl rfl (by omega) (by decide) (hw2 (b + 1) (Nat.le_refl _) h1) dX0_reckonSpeeds_92 ?_
      refine lv_aload_n hx hb dX0_reckonSpeeds_93 rfl (lv_at hl 0 rfl) ?_
      refine va_get (D := (dC, dI)) (ci := 0) (v := .ref a5) (C := RX0) (T := TX0) (N := 10) hx hb hts hin0 hown hK hP 0 rfl rfl 4 (by decide) (hts (.fieldLink RX0 22 "SpeedRows" "speeds" "[I") (by decide +kernel)) (fun _ h9 => h9) rfl dX0_reckonSpeeds_94 ?_
      refine lv_iload_n hx hb dX0_reckonSpeeds_97 rfl (lv_at hl 1 rfl) ?_
      refine sr_iald (v := nI (sr_f (sr_lim mo fd fs la) ac tk b)) hx hb hK hP 5 4 rfl rfl (by omega) (by decide) (hv b (Nat.lt_succ_self b)) dX0_reckonSpeeds_98 ?_
      have hPc := hP.sub (ws' := [(x, .inr (0, [.ref a1, .ref a2, .ref a3, .ref a4, .ref a5, .int (nI mo), .int (nI cf), .int (nI cl), .int (nI ac), .int st])), (a1, .inl (z1, 2000, .inl T)), (a2, .inl (z2, 2000, .inl F)), (a3, .inl (z3, 2000, .inl G)), (a4, .inl (z4, 2000, .inl L)), (a5, .inl (z5, 2001, .inl S))]) [0, 1, 2, 3, 4, 5] rfl
      have hDc := hD.sub (ws' := [(x, .inr (0, [.ref a1, .ref a2, .ref a3, .ref a4, .ref a5, .int (nI mo), .int (nI cf), .int (nI cl), .int (nI ac), .int st])), (a1, .inl (z1, 2000, .inl T)), (a2, .inl (z2, 2000, .inl F)), (a3, .inl (z3, 2000, .inl G)), (a4, .inl (z4, 2000, .inl L)), (a5, .inl (z5, 2001, .inl S))]) [0, 1, 2, 3, 4, 5] (by decide) rfl
      have hKc := hK.sub (tys' := [(z1, .int), (z2, .int), (z3, .int), (z4, .int), (z5, .int)]) [0, 1, 2, 3, 4] rfl
      have hFc := va_free (wc := [(x, .inr (0, [.ref a1, .ref a2, .ref a3, .ref a4, .ref a5, .int (nI mo), .int (nI cf), .int (nI cl), .int (nI ac), .int st])), (a1, .inl (z1, 2000, .inl T)), (a2, .inl (z2, 2000, .inl F)), (a3, .inl (z3, 2000, .inl G)), (a4, .inl (z4, 2000, .inl L)), (a5, .inl (z5, 2001, .inl S))]) hD hS hA [0, 1, 2, 3, 4, 5] rfl
      refine va_calli (va_runV (As := [.int (nI (tk b)), .int (nI (sr_sp mo ac tk fd fs la (b + 1))), .int (nI (sr_f (sr_lim mo fd fs la) ac tk b))]) (rest := [.int (nI b), .ref a5]) ⟨hx, hb, hml, hown, hts⟩ (c_X0_fastestAcross l dC dI x a1 a2 a3 a4 a5 z1 z2 z3 z4 z5 H.size mo cf cl ac st T F G L S (tk b) (sr_sp mo ac tk fd fs la (b + 1)) (sr_f (sr_lim mo fd fs la) ac tk b) (hpath b e1).1.2 hb2 hb1 hac2) (cwV 3 hts gX0_reckonSpeeds_X0_fastestAcross rfl rfl rfl (by decide +kernel) ⟨Nat.le_trans (show _ ≤ 1 from Nat.le_of_ble_eq_true rfl) hRf, Nat.le_trans (show _ ≤ 29 from Nat.le_of_ble_eq_true rfl) hRl⟩) ⟨sr_blind, va_recv hKc hPc (ci := 0) (q0 := 0) rfl rfl, sr_mk hPc hKc hDc⟩ rfl rfl hl.1 rfl (lv_room (Nat.le_of_ble_eq_true rfl)) dX0_reckonSpeeds_99 ⟨Nat.zero_le _, Nat.zero_le _⟩) hS (fun q _ h => hFc q h) hFc (fun r2 u t H1 locs ht hvm hw hB hz1 hk1 hS => ?_)
      obtain ⟨hP1, hK1, hD1⟩ := hB
      rw [ht] at hP1
      obtain ⟨rfl, rfl⟩ := hw
      obtain ⟨hP, hD⟩ := va_join (wr := []) (w1 := [(x, .inr (0, [.ref a1, .ref a2, .ref a3, .ref a4, .ref a5, .int (nI mo), .int (nI cf), .int (nI cl), .int (nI ac), .int st])), (a1, .inl (z1, 2000, .inl T)), (a2, .inl (z2, 2000, .inl F)), (a3, .inl (z3, 2000, .inl G)), (a4, .inl (z4, 2000, .inl L)), (a5, .inl (z5, 2001, .inl S))]) hP hD [0, 1, 2, 3, 4, 5] [] rfl rfl (by decide) (by decide) hk1 hFc hP1 hD1
      generalize H1 = H at hP hS ⊢
      have hP : va_P (dC, dI) vwCl [(x, .inr (0, [.ref a1, .ref a2, .ref a3, .ref a4, .ref a5, .int (nI mo), .int (nI cf), .int (nI cl), .int (nI ac), .int st])), (a1, .inl (z1, 2000, .inl T)), (a2, .inl (z2, 2000, .inl F)), (a3, .inl (z3, 2000, .inl G)), (a4, .inl (z4, 2000, .inl L)), (a5, .inl (z5, 2001, .inl S))] H := hP
      have hD : va_D A [(x, .inr (0, [.ref a1, .ref a2, .ref a3, .ref a4, .ref a5, .int (nI mo), .int (nI cf), .int (nI cl), .int (nI ac), .int st])), (a1, .inl (z1, 2000, .inl T)), (a2, .inl (z2, 2000, .inl F)), (a3, .inl (z3, 2000, .inl G)), (a4, .inl (z4, 2000, .inl L)), (a5, .inl (z5, 2001, .inl S))] := hD
      refine sr_ti (y := nI (sr_sp mo ac tk fd fs la b)) (by unfold sr_sp; rw [sr_s_k _ _ _ e1]) ?_
      refine sr_iast hx hb hK hP hD hS 5 4 rfl rfl (by omega) (by decide) dX0_reckonSpeeds_102 (fun H locs hP hD hS => ?_)
      have hP : va_P (dC, dI) vwCl [(x, .inr (0, [.ref a1, .ref a2, .ref a3, .ref a4, .ref a5, .int (nI mo), .int (nI cf), .int (nI cl), .int (nI ac), .int st])), (a1, .inl (z1, 2000, .inl T)), (a2, .inl (z2, 2000, .inl F)), (a3, .inl (z3, 2000, .inl G)), (a4, .inl (z4, 2000, .inl L)), (a5, .inl (z5, 2001, .inl (upd S b (nI (sr_sp mo ac tk fd fs la b)))))] H := hP
      have hD : va_D A [(x, .inr (0, [.ref a1, .ref a2, .ref a3, .ref a4, .ref a5, .int (nI mo), .int (nI cf), .int (nI cl), .int (nI ac), .int st])), (a1, .inl (z1, 2000, .inl T)), (a2, .inl (z2, 2000, .inl F)), (a3, .inl (z3, 2000, .inl G)), (a4, .inl (z4, 2000, .inl L)), (a5, .inl (z5, 2001, .inl (upd S b (nI (sr_sp mo ac tk fd fs la b)))))] := hD
      refine lv_iinc (v := nI b - 1) (lv' := [(1, .int (nI b - 1)), (0, .ref x)]) hx hb dX0_reckonSpeeds_103 hl (k := 1) rfl (sr_dec _) (by decide) rfl (fun ls hl => ?_)
      refine lv_goto (tgt := 69) hx hb dX0_reckonSpeeds_106 (by decide) ?_
      refine ih _ _ H locs ls (by omega) rfl (fun k q => ?_) (fun k q q2 => ?_) hP hD hS (lv_sub hl [1, 0] rfl)
      · rw [pk_un (by omega)]
        exact hv k (by omega)
      · rcases Nat.lt_or_ge b k with h | h
        · rw [pk_un (by omega)]
          exact hw2 k h q2
        · obtain rfl : k = b := by omega
          rw [pk_us]
set_option maxHeartbeats 4000000 in
set_option maxRecDepth 100000 in
theorem c_X0_reckonSpeeds (l : Launch) (dC : Nat → ClassId) (dI : Nat → Nat → Nat) (x a1 a2 a3 a4 a5 : Nat) (z1 z2 z3 z4 z5 : ClassId) (sz : Nat) (mo cf cl ac : Nat) (st : Int32) (T F G L S : Nat → Int32) (tk fd fs la : Nat → Nat) (g : sr_G mo ac cf cl tk fd fs la) (hI : sr_XI mo tk fd fs la T F G L) (hQ : sr_XS mo ac tk fd fs la st S) : Met l yX0_reckonSpeeds wsX0_reckonSpeeds ({ frames := 1, cells := 0, slots := 0, locals := 29 }) (sr_pre dC dI (sr_tX z1 z2 z3 z4 z5) (sr_wX x a1 a2 a3 a4 a5 z1 z2 z3 z4 z5 mo cf cl ac st T F G L S) sz [.ref x]) (va_Qv (fun (u : va_W) => ∃ S' : Nat → Int32, u = sr_wX x a1 a2 a3 a4 a5 z1 z2 z3 z4 z5 mo cf cl ac 1 T F G L S' ∧ ∀ k, k ≤ mo → S' k = nI (sr_sp mo ac tk fd fs la k)) (sr_at dC dI (sr_tX z1 z2 z3 z4 z5) (va_A (sr_wX x a1 a2 a3 a4 a5 z1 z2 z3 z4 z5 mo cf cl ac st T F G L S) sz)) (va_A (sr_wX x a1 a2 a3 a4 a5 z1 z2 z3 z4 z5 mo cf cl ac st T F G L S) sz)) 0 0 (va_A (sr_wX x a1 a2 a3 a4 a5 z1 z2 z3 z4 z5 mo cf cl ac st T F G L S) sz) := by
  refine Met.ofW (cc := cX0_reckonSpeeds) (maxL := 2) (ret := none) (by decide) rfl ?_
  intro p e s m args below meth c s₁ B hml hv
  obtain ⟨rfl, hsz, hP, hK, hD0⟩ := hv
  have hx := B.exec
  have hb := B.bytes
  have hr := B.returns
  have hts := atoms_spec (ws := wsX0_reckonSpeeds) B.pre
  have hown : s.vm.findClass RX0 = some m.cls := findClass_of_methodNamed B.named
  have hlocks := B.notSynchronized
  subst hsz
  have hD := hD0.self (sz := s.heap.size)
  generalize hAe : va_A (sr_wX x a1 a2 a3 a4 a5 z1 z2 z3 z4 z5 mo cf cl ac st T F G L S) s.heap.size = A at hD ⊢
  have hA : ∀ q : Nat, s.heap.size ≤ q → A q := fun q h => by rw [← hAe]; exact Or.inr h
  have hS : va_S A s.heap s.heap [] := va_S.rf
  have hP : va_P (dC, dI) vwCl [(x, .inr (0, [.ref a1, .ref a2, .ref a3, .ref a4, .ref a5, .int (nI mo), .int (nI cf), .int (nI cl), .int (nI ac), .int st])), (a1, .inl (z1, 2000, .inl T)), (a2, .inl (z2, 2000, .inl F)), (a3, .inl (z3, 2000, .inl G)), (a4, .inl (z4, 2000, .inl L)), (a5, .inl (z5, 2001, .inl S))] s.heap := hP
  have hD : va_D A [(x, .inr (0, [.ref a1, .ref a2, .ref a3, .ref a4, .ref a5, .int (nI mo), .int (nI cf), .int (nI cl), .int (nI ac), .int st])), (a1, .inl (z1, 2000, .inl T)), (a2, .inl (z2, 2000, .inl F)), (a3, .inl (z3, 2000, .inl G)), (a4, .inl (z4, 2000, .inl L)), (a5, .inl (z5, 2001, .inl S))] := hD
  have hK : va_K (dC, dI) vwCl [(z1, .int), (z2, .int), (z3, .int), (z4, .int), (z5, .int)] s := hK
  have hin0 : ∀ w ∈ u_ws RX0 TX0 10, w ∈ wsX0_reckonSpeeds := by decide +kernel
  have hl := lv_entry ([.ref x]) (n := 2) (Nat.le_of_ble_eq_true rfl)
  rw [lg_entry_eq]
  generalize (lg_sl ([.ref x]) ++ List.replicate (2 - (lg_sl ([.ref x])).length) Slot.unset).toArray = ls at hl ⊢
  have hl : lv_has ls 2 [(0, .ref x)] := hl
  have hmo : mo ≤ 2000 := g.1
  refine lv_aload_n hx hb dX0_reckonSpeeds_0 rfl (lv_at hl 0 rfl) ?_
  refine va_get (D := (dC, dI)) (ci := 0) (v := .int st) (C := RX0) (T := TX0) (N := 10) hx hb hts hin0 hown hK hP 0 rfl rfl 9 (by decide) (hts (.fieldLink RX0 42 "SpeedRows" "speedsStand" "Z") (by decide +kernel)) (fun _ h9 => h9) rfl dX0_reckonSpeeds_1 ?_
  refine lv_if_eq (tgt := 8) hx hb dX0_reckonSpeeds_4 (by decide) (fun c1 => ?_) (fun c1 => ?_)
  · subst c1
    refine lv_aload_n hx hb dX0_reckonSpeeds_8 rfl (lv_at hl 0 rfl) ?_
    refine va_get (D := (dC, dI)) (ci := 0) (v := .ref a5) (C := RX0) (T := TX0) (N := 10) hx hb hts hin0 hown hK hP 0 rfl rfl 4 (by decide) (hts (.fieldLink RX0 22 "SpeedRows" "speeds" "[I") (by decide +kernel)) (fun _ h9 => h9) rfl dX0_reckonSpeeds_9 ?_
    refine lv_iconst (v := nI 0) hx hb dX0_reckonSpeeds_12 (by decide) ?_
    refine lv_iconst (v := nI 0) hx hb dX0_reckonSpeeds_13 (by decide) ?_
    refine sr_iast hx hb hK hP hD hS 5 4 rfl rfl (by omega) (by decide) dX0_reckonSpeeds_14 (fun H locs hP hD hS => ?_)
    have hP : va_P (dC, dI) vwCl [(x, .inr (0, [.ref a1, .ref a2, .ref a3, .ref a4, .ref a5, .int (nI mo), .int (nI cf), .int (nI cl), .int (nI ac), .int 0])), (a1, .inl (z1, 2000, .inl T)), (a2, .inl (z2, 2000, .inl F)), (a3, .inl (z3, 2000, .inl G)), (a4, .inl (z4, 2000, .inl L)), (a5, .inl (z5, 2001, .inl (upd S 0 (nI 0))))] H := hP
    have hD : va_D A [(x, .inr (0, [.ref a1, .ref a2, .ref a3, .ref a4, .ref a5, .int (nI mo), .int (nI cf), .int (nI cl), .int (nI ac), .int 0])), (a1, .inl (z1, 2000, .inl T)), (a2, .inl (z2, 2000, .inl F)), (a3, .inl (z3, 2000, .inl G)), (a4, .inl (z4, 2000, .inl L)), (a5, .inl (z5, 2001, .inl (upd S 0 (nI 0))))] := hD
    refine lv_iconst (v := nI (0 + 1)) hx hb dX0_reckonSpeeds_15 (by decide) ?_
    refine lv_istore_n (lv' := [(1, .int (nI (0 + 1))), (0, .ref x)]) hx hb dX0_reckonSpeeds_16 rfl hl (by decide) rfl (fun ls hl => ?_)
    refine lp_X0_rk1 ⟨hx, hb, hml, hown, hts⟩ (Nat.le_of_ble_eq_true rfl) (Nat.le_of_ble_eq_true rfl) g hI hK hA (fun S H locs ls hv hP hD hS hl => ?_) (mo + 1) 0 _ H locs ls (Nat.zero_le _) (by omega) (fun k q => ?_) hP hD hS (lv_sub hl [1, 0] rfl)
    · have hP : va_P (dC, dI) vwCl [(x, .inr (0, [.ref a1, .ref a2, .ref a3, .ref a4, .ref a5, .int (nI mo), .int (nI cf), .int (nI cl), .int (nI ac), .int 0])), (a1, .inl (z1, 2000, .inl T)), (a2, .inl (z2, 2000, .inl F)), (a3, .inl (z3, 2000, .inl G)), (a4, .inl (z4, 2000, .inl L)), (a5, .inl (z5, 2001, .inl S))] H := hP
      have hD : va_D A [(x, .inr (0, [.ref a1, .ref a2, .ref a3, .ref a4, .ref a5, .int (nI mo), .int (nI cf), .int (nI cl), .int (nI ac), .int 0])), (a1, .inl (z1, 2000, .inl T)), (a2, .inl (z2, 2000, .inl F)), (a3, .inl (z3, 2000, .inl G)), (a4, .inl (z4, 2000, .inl L)), (a5, .inl (z5, 2001, .inl S))] := hD
      refine lv_aload_n hx hb dX0_reckonSpeeds_62 rfl (lv_at hl 0 rfl) ?_
      refine va_get (D := (dC, dI)) (ci := 0) (v := .int (nI mo)) (C := RX0) (T := TX0) (N := 10) hx hb hts hin0 hown hK hP 0 rfl rfl 5 (by decide) (hts (.fieldLink RX0 25 "SpeedRows" "moves" "I") (by decide +kernel)) (fun _ h9 => h9) rfl dX0_reckonSpeeds_63 ?_
      refine lv_iconst (v := 1) hx hb dX0_reckonSpeeds_66 (by decide) ?_
      refine lv_isub hx hb dX0_reckonSpeeds_67 ?_
      refine lv_istore_n (lv' := [(1, .int ((nI mo) - 1)), (0, .ref x)]) hx hb dX0_reckonSpeeds_68 rfl hl (by decide) rfl (fun ls hl => ?_)
      refine lp_X0_rk2 ⟨hx, hb, hml, hown, hts⟩ (Nat.le_of_ble_eq_true rfl) (Nat.le_of_ble_eq_true rfl) g hI hK hA (fun S H locs ls hv2 hP hD hS hl => ?_) mo _ _ H locs ls (Nat.le_refl _) rfl (fun k q => hv k (by omega)) (fun k q q2 => ?_) hP hD hS (lv_sub hl [1, 0] rfl)
      · have hP : va_P (dC, dI) vwCl [(x, .inr (0, [.ref a1, .ref a2, .ref a3, .ref a4, .ref a5, .int (nI mo), .int (nI cf), .int (nI cl), .int (nI ac), .int 0])), (a1, .inl (z1, 2000, .inl T)), (a2, .inl (z2, 2000, .inl F)), (a3, .inl (z3, 2000, .inl G)), (a4, .inl (z4, 2000, .inl L)), (a5, .inl (z5, 2001, .inl S))] H := hP
        have hD : va_D A [(x, .inr (0, [.ref a1, .ref a2, .ref a3, .ref a4, .ref a5, .int (nI mo), .int (nI cf), .int (nI cl), .int (nI ac), .int 0])), (a1, .inl (z1, 2000, .inl T)), (a2, .inl (z2, 2000, .inl F)), (a3, .inl (z3, 2000, .inl G)), (a4, .inl (z4, 2000, .inl L)), (a5, .inl (z5, 2001, .inl S))] := hD
        refine lv_aload_n hx hb dX0_reckonSpeeds_109 rfl (lv_at hl 0 rfl) ?_
        refine lv_iconst (v := 1) hx hb dX0_reckonSpeeds_110 (by decide) ?_
        refine va_put (D := (dC, dI)) (ci := 0) (v := .int 1) (ty := .boolean) (C := RX0) (T := TX0) (N := 10) hx hb hts hin0 tyX0 tyX0_ok nmX0 hown hK hP hD hS 0 rfl rfl 9 (by decide) (hts (.fieldLink RX0 42 "SpeedRows" "speedsStand" "Z") (by decide +kernel)) (fun _ h9 => h9) rfl (by decide +kernel) rfl rfl (Nat.le_of_ble_eq_true rfl) dX0_reckonSpeeds_111 (fun H locs hP hD hS => ?_)
        have hP : va_P (dC, dI) vwCl [(x, .inr (0, [.ref a1, .ref a2, .ref a3, .ref a4, .ref a5, .int (nI mo), .int (nI cf), .int (nI cl), .int (nI ac), .int 1])), (a1, .inl (z1, 2000, .inl T)), (a2, .inl (z2, 2000, .inl F)), (a3, .inl (z3, 2000, .inl G)), (a4, .inl (z4, 2000, .inl L)), (a5, .inl (z5, 2001, .inl S))] H := hP
        have hD : va_D A [(x, .inr (0, [.ref a1, .ref a2, .ref a3, .ref a4, .ref a5, .int (nI mo), .int (nI cf), .int (nI cl), .int (nI ac), .int 1])), (a1, .inl (z1, 2000, .inl T)), (a2, .inl (z2, 2000, .inl F)), (a3, .inl (z3, 2000, .inl G)), (a4, .inl (z4, 2000, .inl L)), (a5, .inl (z5, 2001, .inl S))] := hD
        exact W.vret hx hb hr (fun t ht hW => ⟨⟨_, rfl, ⟨S, rfl, hv2⟩, by rw [ht]; exact hP, va_K.moved hW.alike hK, hD⟩, hS.F ht⟩) hS.2.2 dX0_reckonSpeeds_114
      · obtain rfl : k = mo := by omega
        rw [hv k (Nat.le_refl _)]
        unfold sr_sp
        rw [sr_s_n]
    · obtain rfl : k = 0 := by omega
      rw [pk_us, sr_f, sr_lim_0]
  · rcases hQ with q | ⟨q, hq⟩
    · exact absurd q c1
    · subst q
      exact W.vret hx hb hr (fun t ht hW => ⟨⟨_, rfl, ⟨S, rfl, hq⟩, by rw [ht]; exact hP, va_K.moved hW.alike hK, hD⟩, hS.F ht⟩) hS.2.2 dX0_reckonSpeeds_7
