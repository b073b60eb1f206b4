/-! THE REFERENCE: know. -/
theorem sr_r_lt {ac t w : Nat} (hw : w ≤ 99999) (hac : ac ≤ 10000) (ht : t ≤ 100000) : sr_r ac t w < 2 ^ 31 := by
  have e1 : w * w ≤ 99999 * 99999 := Nat.mul_le_mul hw hw
  have e2 : 2 * ac * t ≤ 20000 * 100000 := Nat.mul_le_mul (by omega) ht
  rcases Nat.lt_or_ge (sr_r ac t w) (2 ^ 31) with h | h
  · exact h
  · have h1 := sr_q_le (w * w + 2 * ac * t)
    have h2 : 2 ^ 31 * 2 ^ 31 ≤ sr_r ac t w * sr_r ac t w := Nat.mul_le_mul h h
    unfold sr_r at h2
    omega
set_option maxHeartbeats 4000000 in
set_option maxRecDepth 100000 in
theorem lp_X1_k0 {p : Program} {l : Launch} {e : Env} {R : Room} {s : State} {m : MethodId} {args : Array Value} {below : List Frame} {meth : Method} {c : Code} {Q : State → Prop} {A : Nat → Prop} {H0 : Heap} (C0 : CallFix p m c cX1_know 3 s args wsX1_know RX1) (hRf : 2 ≤ R.frames) (hRl : 49 ≤ R.locals) {dC : Nat → ClassId} {dI : Nat → Nat → Nat} {y b1 b2 b3 b4 b5 b6 b7 : Nat} {t1 t2 t3 t4 t5 t6 t7 : ClassId} {mo ac cf cl : Nat} {kn : Int32} {T F I J U V : Nat → Int32} {tk fd fs la : Nat → Nat} (g : sr_G mo ac cf cl tk fd fs la) (hM : sr_MI mo cf cl tk fd fs la T F I J U V) (hK : va_K (dC, dI) vwCl (sr_tM t1 t2 t3 t4 t5 t6 t7) s) (hA : ∀ q, H0.size ≤ q → A q)
    (hk : ∀ (S : Nat → Int32) (H : Heap) (locs : List Loc) (ls : Array Slot), (∀ k, k ≤ mo → S k = nI (sr_lim mo fd fs la k)) → va_P (dC, dI) vwCl (sr_wM y b1 b2 b3 b4 b5 b6 b7 t1 t2 t3 t4 t5 t6 t7 mo ac kn T F I J U V S) H → va_D A (sr_wM y b1 b2 b3 b4 b5 b6 b7 t1 t2 t3 t4 t5 t6 t7 mo ac kn T F I J U V S) → va_S A H0 H locs → lv_has ls 3 [(0, .ref y)] → W p l e R s m args below meth c H locs 0 0 Q (F0 m 40 ls [])) :
    ∀ (n i : Nat) (S : Nat → Int32) (H : Heap) (locs : List Loc) (ls : Array Slot), i ≤ mo + 1 → mo + 2 ≤ i + n → (∀ k, k < i → S k = nI (sr_lim mo fd fs la k)) → va_P (dC, dI) vwCl (sr_wM y b1 b2 b3 b4 b5 b6 b7 t1 t2 t3 t4 t5 t6 t7 mo ac kn T F I J U V S) H → va_D A (sr_wM y b1 b2 b3 b4 b5 b6 b7 t1 t2 t3 t4 t5 t6 t7 mo ac kn T F I J U V S) → va_S A H0 H locs → lv_has ls 3 [(0, .ref y), (1, .int (nI i))] → W p l e R s m args below meth c H locs 0 0 Q (F0 m 15 ls []) := by
  obtain ⟨hx, hb, hml, hown, hts⟩ := C0
  have hin1 : ∀ w ∈ u_ws RX1 TX1 10, w ∈ wsX1_know := by decide +kernel
  obtain ⟨hmo, ⟨hac1, hac2⟩, hcf, hcl, hpath⟩ := id g
  have hK : va_K (dC, dI) vwCl [(t1, .int), (t2, .int), (t3, .byte), (t4, .byte), (t5, .byte), (t6, .byte), (t7, .int)] s := hK
  intro n
  induction n with
  | zero =>
    intro i S H locs ls h1 h2
    exact absurd h2 (by omega)
  | succ n ih =>
    intro i S H locs ls h1 h2 hv hP hD hS hl
    have hP : va_P (dC, dI) vwCl [(y, .inr (1, [.ref b1, .ref b2, .ref b3, .ref b4, .ref b5, .ref b6, .int (nI mo), .int (nI ac), .ref b7, .int kn])), (b1, .inl (t1, 2000, .inl T)), (b2, .inl (t2, 2000, .inl F)), (b3, .inl (t3, 6000, .inl I)), (b4, .inl (t4, 6000, .inl J)), (b5, .inl (t5, 3, .inl U)), (b6, .inl (t6, 3, .inl V)), (b7, .inl (t7, 2001, .inl S))] H := hP
    have hD : va_D A [(y, .inr (1, [.ref b1, .ref b2, .ref b3, .ref b4, .ref b5, .ref b6, .int (nI mo), .int (nI ac), .ref b7, .int kn])), (b1, .inl (t1, 2000, .inl T)), (b2, .inl (t2, 2000, .inl F)), (b3, .inl (t3, 6000, .inl I)), (b4, .inl (t4, 6000, .inl J)), (b5, .inl (t5, 3, .inl U)), (b6, .inl (t6, 3, .inl V)), (b7, .inl (t7, 2001, .inl S))] := hD
    refine lv_iload_n hx hb dX1_know_15 rfl (lv_at hl 1 rfl) ?_
    refine lv_aload_n hx hb dX1_know_16 rfl (lv_at hl 0 rfl) ?_
    refine va_get (D := (dC, dI)) (ci := 1) (v := .int (nI mo)) (C := RX1) (T := TX1) (N := 10) hx hb hts hin1 hown hK hP 0 rfl rfl 6 (by decide) (hts (.fieldLink RX1 46 "SpeedRowsModel" "moves" "I") (by decide +kernel)) (fun _ h9 => h9) rfl dX1_know_17 ?_
    refine lv_icmp_gt (tgt := 40) hx hb dX1_know_20 (by decide) (fun c1 => ?_) (fun c1 => ?_)
    · have e1 : mo < i := (nI_ltI (by omega) (by omega)).mp c1
      exact hk S H locs ls (fun k q => hv k (by omega)) hP hD hS (lv_sub hl [0] rfl)
    · have e1 : i ≤ mo := by
        rcases Nat.lt_or_ge mo i with q | q
        · exact absurd ((nI_ltI (by omega) (by omega)).mpr q) c1
        · exact q
      refine lv_aload_n hx hb dX1_know_23 rfl (lv_at hl 0 rfl) ?_
      refine va_get (D := (dC, dI)) (ci := 1) (v := .ref b7) (C := RX1) (T := TX1) (N := 10) hx hb hts hin1 hown hK hP 0 rfl rfl 8 (by decide) (hts (.fieldLink RX1 33 "SpeedRowsModel" "speeds" "[I") (by decide +kernel)) (fun _ h9 => h9) rfl dX1_know_24 ?_
      refine lv_iload_n hx hb dX1_know_27 rfl (lv_at hl 1 rfl) ?_
      refine lv_aload_n hx hb dX1_know_28 rfl (lv_at hl 0 rfl) ?_
      refine lv_iload_n hx hb dX1_know_29 rfl (lv_at hl 1 rfl) ?_
      have hPc := hP.sub (ws' := [(y, .inr (1, [.ref b1, .ref b2, .ref b3, .ref b4, .ref b5, .ref b6, .int (nI mo), .int (nI ac), .ref b7, .int kn])), (b1, .inl (t1, 2000, .inl T)), (b2, .inl (t2, 2000, .inl F)), (b3, .inl (t3, 6000, .inl I)), (b4, .inl (t4, 6000, .inl J)), (b5, .inl (t5, 3, .inl U)), (b6, .inl (t6, 3, .inl V)), (b7, .inl (t7, 2001, .inl S))]) [0, 1, 2, 3, 4, 5, 6, 7] rfl
      have hDc := hD.sub (ws' := [(y, .inr (1, [.ref b1, .ref b2, .ref b3, .ref b4, .ref b5, .ref b6, .int (nI mo), .int (nI ac), .ref b7, .int kn])), (b1, .inl (t1, 2000, .inl T)), (b2, .inl (t2, 2000, .inl F)), (b3, .inl (t3, 6000, .inl I)), (b4, .inl (t4, 6000, .inl J)), (b5, .inl (t5, 3, .inl U)), (b6, .inl (t6, 3, .inl V)), (b7, .inl (t7, 2001, .inl S))]) [0, 1, 2, 3, 4, 5, 6, 7] (by decide) rfl
      have hKc := hK.sub (tys' := [(t1, .int), (t2, .int), (t3, .byte), (t4, .byte), (t5, .byte), (t6, .byte), (t7, .int)]) [0, 1, 2, 3, 4, 5, 6] rfl
      have hFc := va_free (wc := [(y, .inr (1, [.ref b1, .ref b2, .ref b3, .ref b4, .ref b5, .ref b6, .int (nI mo), .int (nI ac), .ref b7, .int kn])), (b1, .inl (t1, 2000, .inl T)), (b2, .inl (t2, 2000, .inl F)), (b3, .inl (t3, 6000, .inl I)), (b4, .inl (t4, 6000, .inl J)), (b5, .inl (t5, 3, .inl U)), (b6, .inl (t6, 3, .inl V)), (b7, .inl (t7, 2001, .inl S))]) hD hS hA [0, 1, 2, 3, 4, 5, 6, 7] rfl
      refine va_calli (va_runV (As := [.int (nI i)]) (rest := [.int (nI i), .ref b7]) ⟨hx, hb, hml, hown, hts⟩ (c_X1_limit l dC dI y b1 b2 b3 b4 b5 b6 b7 t1 t2 t3 t4 t5 t6 t7 H.size mo ac kn T F I J U V S (nI i) cf cl tk fd fs la g hM) (cwV 1 hts gX1_know_X1_limit rfl rfl rfl (by decide +kernel) ⟨Nat.le_trans (show _ ≤ 2 from Nat.le_of_ble_eq_true rfl) hRf, Nat.le_trans (show _ ≤ 49 from Nat.le_of_ble_eq_true rfl) hRl⟩) ⟨sr_blind, va_recv hKc hPc (ci := 1) (q0 := 0) rfl rfl, sr_mk hPc hKc hDc⟩ rfl rfl hl.1 rfl (lv_room (Nat.le_of_ble_eq_true rfl)) dX1_know_30 ⟨Nat.zero_le _, Nat.zero_le _⟩) hS (fun q _ h => hFc q h) hFc (fun r1 u t H1 locs ht hvm hw hB hz1 hk1 hS => ?_)
      obtain ⟨hP1, hK1, hD1⟩ := hB
      rw [ht] at hP1
      obtain ⟨rfl, er⟩ := hw
      obtain ⟨hP, hD⟩ := va_join (wr := []) (w1 := [(y, .inr (1, [.ref b1, .ref b2, .ref b3, .ref b4, .ref b5, .ref b6, .int (nI mo), .int (nI ac), .ref b7, .int kn])), (b1, .inl (t1, 2000, .inl T)), (b2, .inl (t2, 2000, .inl F)), (b3, .inl (t3, 6000, .inl I)), (b4, .inl (t4, 6000, .inl J)), (b5, .inl (t5, 3, .inl U)), (b6, .inl (t6, 3, .inl V)), (b7, .inl (t7, 2001, .inl S))]) hP hD [0, 1, 2, 3, 4, 5, 6, 7] [] rfl rfl (by decide) (by decide) hk1 hFc hP1 hD1
      generalize H1 = H at hP hS ⊢
      have hP : va_P (dC, dI) vwCl [(y, .inr (1, [.ref b1, .ref b2, .ref b3, .ref b4, .ref b5, .ref b6, .int (nI mo), .int (nI ac), .ref b7, .int kn])), (b1, .inl (t1, 2000, .inl T)), (b2, .inl (t2, 2000, .inl F)), (b3, .inl (t3, 6000, .inl I)), (b4, .inl (t4, 6000, .inl J)), (b5, .inl (t5, 3, .inl U)), (b6, .inl (t6, 3, .inl V)), (b7, .inl (t7, 2001, .inl S))] H := hP
      have hD : va_D A [(y, .inr (1, [.ref b1, .ref b2, .ref b3, .ref b4, .ref b5, .ref b6, .int (nI mo), .int (nI ac), .ref b7, .int kn])), (b1, .inl (t1, 2000, .inl T)), (b2, .inl (t2, 2000, .inl F)), (b3, .inl (t3, 6000, .inl I)), (b4, .inl (t4, 6000, .inl J)), (b5, .inl (t5, 3, .inl U)), (b6, .inl (t6, 3, .inl V)), (b7, .inl (t7, 2001, .inl S))] := hD
      refine sr_ti (y := nI (sr_lim mo fd fs la i)) (by rw [er, sr_an, if_pos ⟨nI_pos' (by omega), nI_le e1 (by omega)⟩, nI_clamp (by omega)]) ?_
      refine sr_iast hx hb hK hP hD hS 7 6 rfl rfl (by omega) (by decide) dX1_know_33 (fun H locs hP hD hS => ?_)
      have hP : va_P (dC, dI) vwCl [(y, .inr (1, [.ref b1, .ref b2, .ref b3, .ref b4, .ref b5, .ref b6, .int (nI mo), .int (nI ac), .ref b7, .int kn])), (b1, .inl (t1, 2000, .inl T)), (b2, .inl (t2, 2000, .inl F)), (b3, .inl (t3, 6000, .inl I)), (b4, .inl (t4, 6000, .inl J)), (b5, .inl (t5, 3, .inl U)), (b6, .inl (t6, 3, .inl V)), (b7, .inl (t7, 2001, .inl (upd S i (nI (sr_lim mo fd fs la i)))))] H := hP
      have hD : va_D A [(y, .inr (1, [.ref b1, .ref b2, .ref b3, .ref b4, .ref b5, .ref b6, .int (nI mo), .int (nI ac), .ref b7, .int kn])), (b1, .inl (t1, 2000, .inl T)), (b2, .inl (t2, 2000, .inl F)), (b3, .inl (t3, 6000, .inl I)), (b4, .inl (t4, 6000, .inl J)), (b5, .inl (t5, 3, .inl U)), (b6, .inl (t6, 3, .inl V)), (b7, .inl (t7, 2001, .inl (upd S i (nI (sr_lim mo fd fs la i)))))] := hD
      refine lv_iinc (v := nI (i + 1)) (lv' := [(1, .int (nI (i + 1))), (0, .ref y)]) hx hb dX1_know_34 hl (k := 1) rfl (nI_1 _) (by decide) rfl (fun ls hl => ?_)
      refine lv_goto (tgt := 15) hx hb dX1_know_37 (by decide) ?_
      refine ih (i + 1) _ H locs ls (by omega) (by omega) (fun k q => ?_) hP hD hS (lv_sub hl [1, 0] rfl)
      rcases Nat.lt_or_ge k i with h | h
      · rw [pk_un (by omega)]
        exact hv k h
      · obtain rfl : k = i := by omega
        rw [pk_us]
set_option maxHeartbeats 4000000 in
set_option maxRecDepth 100000 in
theorem lp_X1_k1 {p : Program} {l : Launch} {e : Env} {R : Room} {s : State} {m : MethodId} {args : Array Value} {below : List Frame} {meth : Method} {c : Code} {Q : State → Prop} {A : Nat → Prop} {H0 : Heap} (C0 : CallFix p m c cX1_know 3 s args wsX1_know RX1) (hRf : 2 ≤ R.frames) (hRl : 49 ≤ R.locals) {dC : Nat → ClassId} {dI : Nat → Nat → Nat} {y b1 b2 b3 b4 b5 b6 b7 : Nat} {t1 t2 t3 t4 t5 t6 t7 : ClassId} {mo ac cf cl : Nat} {kn : Int32} {T F I J U V : Nat → Int32} {tk fd fs la : Nat → Nat} (g : sr_G mo ac cf cl tk fd fs la) (hM : sr_MI mo cf cl tk fd fs la T F I J U V) (hK : va_K (dC, dI) vwCl (sr_tM t1 t2 t3 t4 t5 t6 t7) s) (hA : ∀ q, H0.size ≤ q → A q) {sv : Nat → Nat} (hsv : ∀ k, k ≤ mo → sv k ≤ 99999)
    (hk : ∀ (mr : Int32) (S : Nat → Int32) (H : Heap) (locs : List Loc) (ls : Array Slot), (mr = 0 ∨ mr = 1) → (sr_St sv ac tk mo → mr = 0) → (∀ k, k ≤ mo → S k = nI (sr_f sv ac tk k)) → va_P (dC, dI) vwCl (sr_wM y b1 b2 b3 b4 b5 b6 b7 t1 t2 t3 t4 t5 t6 t7 mo ac kn T F I J U V S) H → va_D A (sr_wM y b1 b2 b3 b4 b5 b6 b7 t1 t2 t3 t4 t5 t6 t7 mo ac kn T F I J U V S) → va_S A H0 H locs → lv_has ls 3 [(0, .ref y), (1, .int mr)] → W p l e R s m args below meth c H locs 0 0 Q (F0 m 95 ls [])) :
    ∀ (n i : Nat) (mr : Int32) (S : Nat → Int32) (H : Heap) (locs : List Loc) (ls : Array Slot), i ≤ mo → mo + 1 ≤ i + n → (mr = 0 ∨ mr = 1) → (sr_St sv ac tk mo → mr = 0) → (∀ k, k ≤ i → S k = nI (sr_f sv ac tk k)) → (∀ k, i < k → k ≤ mo → S k = nI (sv k)) → va_P (dC, dI) vwCl (sr_wM y b1 b2 b3 b4 b5 b6 b7 t1 t2 t3 t4 t5 t6 t7 mo ac kn T F I J U V S) H → va_D A (sr_wM y b1 b2 b3 b4 b5 b6 b7 t1 t2 t3 t4 t5 t6 t7 mo ac kn T F I J U V S) → va_S A H0 H locs → lv_has ls 3 [(0, .ref y), (1, .int mr), (2, .int (nI i))] → W p l e R s m args below meth c H locs 0 0 Q (F0 m 50 ls []) := by
  obtain ⟨hx, hb, hml, hown, hts⟩ := C0
  have hin1 : ∀ w ∈ u_ws RX1 TX1 10, w ∈ wsX1_know := by decide +kernel
  obtain ⟨hmo, ⟨hac1, hac2⟩, hcf, hcl, hpath⟩ := id g
  have hK : va_K (dC, dI) vwCl [(t1, .int), (t2, .int), (t3, .byte), (t4, .byte), (t5, .byte), (t6, .byte), (t7, .int)] s := hK
  intro n
  induction n with
  | zero =>
    intro i mr S H locs ls h1 h2
    exact absurd h2 (by omega)
  | succ n ih =>
    intro i mr S H locs ls h1 h2 hm1 hm2 hv hv2 hP hD hS hl
    have hP : va_P (dC, dI) vwCl [(y, .inr (1, [.ref b1, .ref b2, .ref b3, .ref b4, .ref b5, .ref b6, .int (nI mo), .int (nI ac), .ref b7, .int kn])), (b1, .inl (t1, 2000, .inl T)), (b2, .inl (t2, 2000, .inl F)), (b3, .inl (t3, 6000, .inl I)), (b4, .inl (t4, 6000, .inl J)), (b5, .inl (t5, 3, .inl U)), (b6, .inl (t6, 3, .inl V)), (b7, .inl (t7, 2001, .inl S))] H := hP
    have hD : va_D A [(y, .inr (1, [.ref b1, .ref b2, .ref b3, .ref b4, .ref b5, .ref b6, .int (nI mo), .int (nI ac), .ref b7, .int kn])), (b1, .inl (t1, 2000, .inl T)), (b2, .inl (t2, 2000, .inl F)), (b3, .inl (t3, 6000, .inl I)), (b4, .inl (t4, 6000, .inl J)), (b5, .inl (t5, 3, .inl U)), (b6, .inl (t6, 3, .inl V)), (b7, .inl (t7, 2001, .inl S))] := hD
    refine lv_iload_n hx hb dX1_know_50 rfl (lv_at hl 2 rfl) ?_
    refine lv_aload_n hx hb dX1_know_51 rfl (lv_at hl 0 rfl) ?_
    refine va_get (D := (dC, dI)) (ci := 1) (v := .int (nI mo)) (C := RX1) (T := TX1) (N := 10) hx hb hts hin1 hown hK hP 0 rfl rfl 6 (by decide) (hts (.fieldLink RX1 46 "SpeedRowsModel" "moves" "I") (by decide +kernel)) (fun _ h9 => h9) rfl dX1_know_52 ?_
    refine lv_icmp_ge (tgt := 95) hx hb dX1_know_55 (by decide) (fun c1 => ?_) (fun c1 => ?_)
    · have e1 : mo ≤ i := (nI_leI (by omega) (by omega)).mp c1
      exact hk mr S H locs ls hm1 hm2 (fun k q => hv k (by omega)) hP hD hS (lv_sub hl [0, 1] rfl)
    · have e1 : i < mo := Nat.lt_of_not_le (fun q => c1 (nI_le q (by omega)))
      have hb1 : sr_f sv ac tk i ≤ 99999 := Nat.le_trans (sr_f_le _ _ _ _) (hsv i h1)
      have hb2 := hsv (i + 1) e1
      have hb3 : sr_r ac (tk i) (sr_f sv ac tk i) < 2 ^ 31 := sr_r_lt hb1 hac2 (hpath i e1).1.2
      refine lv_aload_n hx hb dX1_know_58 rfl (lv_at hl 0 rfl) ?_
      refine lv_iload_n hx hb dX1_know_59 rfl (lv_at hl 2 rfl) ?_
      refine lv_iconst (v := nI 1) hx hb dX1_know_60 (by decide) ?_
      refine lv_iadd hx hb dX1_know_61 ?_
      refine sr_ti (y := nI (i + 1)) (nI_add _ _) ?_
      refine lv_aload_n hx hb dX1_know_62 rfl (lv_at hl 0 rfl) ?_
      refine lv_aload_n hx hb dX1_know_63 rfl (lv_at hl 0 rfl) ?_
      refine va_get (D := (dC, dI)) (ci := 1) (v := .ref b7) (C := RX1) (T := TX1) (N := 10) hx hb hts hin1 hown hK hP 0 rfl rfl 8 (by decide) (hts (.fieldLink RX1 33 "SpeedRowsModel" "speeds" "[I") (by decide +kernel)) (fun _ h9 => h9) rfl dX1_know_64 ?_
      refine lv_iload_n hx hb dX1_know_67 rfl (lv_at hl 2 rfl) ?_
      refine sr_iald (v := nI (sr_f sv ac tk i)) hx hb hK hP 7 6 rfl rfl (by omega) (by decide) (hv i (Nat.le_refl i)) dX1_know_68 ?_
      refine lv_iload_n hx hb dX1_know_69 rfl (lv_at hl 2 rfl) ?_
      have hPc := hP.sub (ws' := [(y, .inr (1, [.ref b1, .ref b2, .ref b3, .ref b4, .ref b5, .ref b6, .int (nI mo), .int (nI ac), .ref b7, .int kn])), (b1, .inl (t1, 2000, .inl T)), (b2, .inl (t2, 2000, .inl F)), (b3, .inl (t3, 6000, .inl I)), (b4, .inl (t4, 6000, .inl J)), (b5, .inl (t5, 3, .inl U)), (b6, .inl (t6, 3, .inl V)), (b7, .inl (t7, 2001, .inl S))]) [0, 1, 2, 3, 4, 5, 6, 7] rfl
      have hDc := hD.sub (ws' := [(y, .inr (1, [.ref b1, .ref b2, .ref b3, .ref b4, .ref b5, .ref b6, .int (nI mo), .int (nI ac), .ref b7, .int kn])), (b1, .inl (t1, 2000, .inl T)), (b2, .inl (t2, 2000, .inl F)), (b3, .inl (t3, 6000, .inl I)), (b4, .inl (t4, 6000, .inl J)), (b5, .inl (t5, 3, .inl U)), (b6, .inl (t6, 3, .inl V)), (b7, .inl (t7, 2001, .inl S))]) [0, 1, 2, 3, 4, 5, 6, 7] (by decide) rfl
      have hKc := hK.sub (tys' := [(t1, .int), (t2, .int), (t3, .byte), (t4, .byte), (t5, .byte), (t6, .byte), (t7, .int)]) [0, 1, 2, 3, 4, 5, 6] rfl
      have hFc := va_free (wc := [(y, .inr (1, [.ref b1, .ref b2, .ref b3, .ref b4, .ref b5, .ref b6, .int (nI mo), .int (nI ac), .ref b7, .int kn])), (b1, .inl (t1, 2000, .inl T)), (b2, .inl (t2, 2000, .inl F)), (b3, .inl (t3, 6000, .inl I)), (b4, .inl (t4, 6000, .inl J)), (b5, .inl (t5, 3, .inl U)), (b6, .inl (t6, 3, .inl V)), (b7, .inl (t7, 2001, .inl S))]) hD hS hA [0, 1, 2, 3, 4, 5, 6, 7] rfl
      refine va_calli (va_runV (As := [.int (nI (sr_f sv ac tk i)), .int (nI i)]) (rest := [.int (nI (i + 1)), .ref y]) ⟨hx, hb, hml, hown, hts⟩ (c_X1_reach l dC dI y b1 b2 b3 b4 b5 b6 b7 t1 t2 t3 t4 t5 t6 t7 H.size mo ac kn T F I J U V S (sr_f sv ac tk i) i (tk i) hb1 (by omega) (hM.1 i e1).1 (hpath i e1).1.2 hac2) (cwV 2 hts gX1_know_X1_reach rfl rfl rfl (by decide +kernel) ⟨Nat.le_trans (show _ ≤ 2 from Nat.le_of_ble_eq_true rfl) hRf, Nat.le_trans (show _ ≤ 49 from Nat.le_of_ble_eq_true rfl) hRl⟩) ⟨sr_blind, va_recv hKc hPc (ci := 1) (q0 := 0) rfl rfl, sr_mk hPc hKc hDc⟩ rfl rfl hl.1 rfl (lv_room (Nat.le_of_ble_eq_true rfl)) dX1_know_70 ⟨Nat.zero_le _, Nat.zero_le _⟩) hS (fun q _ h => hFc q h) hFc (fun r1 u t H1 locs ht hvm hw hB hz1 hk1 hS => ?_)
      obtain ⟨hP1, hK1, hD1⟩ := hB
      rw [ht] at hP1
      obtain ⟨rfl, rfl⟩ := hw
      obtain ⟨hP, hD⟩ := va_join (wr := []) (w1 := [(y, .inr (1, [.ref b1, .ref b2, .ref b3, .ref b4, .ref b5, .ref b6, .int (nI mo), .int (nI ac), .ref b7, .int kn])), (b1, .inl (t1, 2000, .inl T)), (b2, .inl (t2, 2000, .inl F)), (b3, .inl (t3, 6000, .inl I)), (b4, .inl (t4, 6000, .inl J)), (b5, .inl (t5, 3, .inl U)), (b6, .inl (t6, 3, .inl V)), (b7, .inl (t7, 2001, .inl S))]) hP hD [0, 1, 2, 3, 4, 5, 6, 7] [] rfl rfl (by decide) (by decide) hk1 hFc hP1 hD1
      generalize H1 = H at hP hS ⊢
      have hP : va_P (dC, dI) vwCl [(y, .inr (1, [.ref b1, .ref b2, .ref b3, .ref b4, .ref b5, .ref b6, .int (nI mo), .int (nI ac), .ref b7, .int kn])), (b1, .inl (t1, 2000, .inl T)), (b2, .inl (t2, 2000, .inl F)), (b3, .inl (t3, 6000, .inl I)), (b4, .inl (t4, 6000, .inl J)), (b5, .inl (t5, 3, .inl U)), (b6, .inl (t6, 3, .inl V)), (b7, .inl (t7, 2001, .inl S))] H := hP
      have hD : va_D A [(y, .inr (1, [.ref b1, .ref b2, .ref b3, .ref b4, .ref b5, .ref b6, .int (nI mo), .int (nI ac), .ref b7, .int kn])), (b1, .inl (t1, 2000, .inl T)), (b2, .inl (t2, 2000, .inl F)), (b3, .inl (t3, 6000, .inl I)), (b4, .inl (t4, 6000, .inl J)), (b5, .inl (t5, 3, .inl U)), (b6, .inl (t6, 3, .inl V)), (b7, .inl (t7, 2001, .inl S))] := hD
      have hPc := hP.sub (ws' := [(y, .inr (1, [.ref b1, .ref b2, .ref b3, .ref b4, .ref b5, .ref b6, .int (nI mo), .int (nI ac), .ref b7, .int kn])), (b1, .inl (t1, 2000, .inl T)), (b2, .inl (t2, 2000, .inl F)), (b3, .inl (t3, 6000, .inl I)), (b4, .inl (t4, 6000, .inl J)), (b5, .inl (t5, 3, .inl U)), (b6, .inl (t6, 3, .inl V)), (b7, .inl (t7, 2001, .inl S))]) [0, 1, 2, 3, 4, 5, 6, 7] rfl
      have hDc := hD.sub (ws' := [(y, .inr (1, [.ref b1, .ref b2, .ref b3, .ref b4, .ref b5, .ref b6, .int (nI mo), .int (nI ac), .ref b7, .int kn])), (b1, .inl (t1, 2000, .inl T)), (b2, .inl (t2, 2000, .inl F)), (b3, .inl (t3, 6000, .inl I)), (b4, .inl (t4, 6000, .inl J)), (b5, .inl (t5, 3, .inl U)), (b6, .inl (t6, 3, .inl V)), (b7, .inl (t7, 2001, .inl S))]) [0, 1, 2, 3, 4, 5, 6, 7] (by decide) rfl
      have hKc := hK.sub (tys' := [(t1, .int), (t2, .int), (t3, .byte), (t4, .byte), (t5, .byte), (t6, .byte), (t7, .int)]) [0, 1, 2, 3, 4, 5, 6] rfl
      have hFc := va_free (wc := [(y, .inr (1, [.ref b1, .ref b2, .ref b3, .ref b4, .ref b5, .ref b6, .int (nI mo), .int (nI ac), .ref b7, .int kn])), (b1, .inl (t1, 2000, .inl T)), (b2, .inl (t2, 2000, .inl F)), (b3, .inl (t3, 6000, .inl I)), (b4, .inl (t4, 6000, .inl J)), (b5, .inl (t5, 3, .inl U)), (b6, .inl (t6, 3, .inl V)), (b7, .inl (t7, 2001, .inl S))]) hD hS hA [0, 1, 2, 3, 4, 5, 6, 7] rfl
      refine va_calli (va_runV (As := [.int (nI (i + 1)), .int (nI (sr_r ac (tk i) (sr_f sv ac tk i)))]) (rest := []) ⟨hx, hb, hml, hown, hts⟩ (c_X1_lowered l dC dI y b1 b2 b3 b4 b5 b6 b7 t1 t2 t3 t4 t5 t6 t7 H.size mo ac kn T F I J U V S (i + 1) (sv (i + 1)) (sr_r ac (tk i) (sr_f sv ac tk i)) (by omega) (by omega) hb3 (hv2 (i + 1) (Nat.lt_succ_self i) e1)) (cwV 2 hts gX1_know_X1_lowered rfl rfl rfl (by decide +kernel) ⟨Nat.le_trans (show _ ≤ 2 from Nat.le_of_ble_eq_true rfl) hRf, Nat.le_trans (show _ ≤ 49 from Nat.le_of_ble_eq_true rfl) hRl⟩) ⟨sr_blind, va_recv hKc hPc (ci := 1) (q0 := 0) rfl rfl, sr_mk hPc hKc hDc⟩ rfl rfl hl.1 rfl (lv_room (Nat.le_of_ble_eq_true rfl)) dX1_know_73 ⟨Nat.zero_le _, Nat.zero_le _⟩) hS (fun q _ h => hFc q h) hFc (fun r2 u t H1 locs ht hvm hw hB hz1 hk1 hS => ?_)
      obtain ⟨hP1, hK1, hD1⟩ := hB
      rw [ht] at hP1
      obtain ⟨S2, rfl, q1, q2, q3, q4⟩ := hw
      obtain ⟨hP, hD⟩ := va_join (wr := []) (w1 := [(y, .inr (1, [.ref b1, .ref b2, .ref b3, .ref b4, .ref b5, .ref b6, .int (nI mo), .int (nI ac), .ref b7, .int kn])), (b1, .inl (t1, 2000, .inl T)), (b2, .inl (t2, 2000, .inl F)), (b3, .inl (t3, 6000, .inl I)), (b4, .inl (t4, 6000, .inl J)), (b5, .inl (t5, 3, .inl U)), (b6, .inl (t6, 3, .inl V)), (b7, .inl (t7, 2001, .inl S2))]) hP hD [0, 1, 2, 3, 4, 5, 6, 7] [] rfl rfl (by decide) (by decide) hk1 hFc hP1 hD1
      generalize H1 = H at hP hS ⊢
      have hP : va_P (dC, dI) vwCl [(y, .inr (1, [.ref b1, .ref b2, .ref b3, .ref b4, .ref b5, .ref b6, .int (nI mo), .int (nI ac), .ref b7, .int kn])), (b1, .inl (t1, 2000, .inl T)), (b2, .inl (t2, 2000, .inl F)), (b3, .inl (t3, 6000, .inl I)), (b4, .inl (t4, 6000, .inl J)), (b5, .inl (t5, 3, .inl U)), (b6, .inl (t6, 3, .inl V)), (b7, .inl (t7, 2001, .inl S2))] H := hP
      have hD : va_D A [(y, .inr (1, [.ref b1, .ref b2, .ref b3, .ref b4, .ref b5, .ref b6, .int (nI mo), .int (nI ac), .ref b7, .int kn])), (b1, .inl (t1, 2000, .inl T)), (b2, .inl (t2, 2000, .inl F)), (b3, .inl (t3, 6000, .inl I)), (b4, .inl (t4, 6000, .inl J)), (b5, .inl (t5, 3, .inl U)), (b6, .inl (t6, 3, .inl V)), (b7, .inl (t7, 2001, .inl S2))] := hD
      have w1 : ∀ k, k ≤ i + 1 → S2 k = nI (sr_f sv ac tk k) := fun k q => by
        rcases Nat.lt_or_ge k (i + 1) with h | h
        · rw [q1 k (by omega)]
          exact hv k (by omega)
        · obtain rfl : k = i + 1 := by omega
          rw [q2, sr_f]
      have w2 : ∀ k, i + 1 < k → k ≤ mo → S2 k = nI (sv k) := fun k q q5 => by
        rw [q1 k (by omega)]
        exact hv2 k (by omega) q5
      have w3 : sr_St sv ac tk mo → r2 = 0 := fun q => q4 (by rw [sr_f_fix q i (by omega)]; exact (q i e1).1)
      refine lv_if_ne (tgt := 83) hx hb dX1_know_76 (by decide) (fun c2 => ?_) (fun c2 => ?_)
      · refine lv_iconst (v := 1) hx hb dX1_know_83 (by decide) ?_
        refine lv_goto (tgt := 88) hx hb dX1_know_84 (by decide) ?_
        refine lv_istore_n (lv' := [(1, .int 1), (0, .ref y), (2, .int (nI i))]) hx hb dX1_know_88 rfl hl (by decide) rfl (fun ls hl => ?_)
        refine lv_iinc (v := nI (i + 1)) (lv' := [(2, .int (nI (i + 1))), (1, .int 1), (0, .ref y)]) hx hb dX1_know_89 hl (k := 2) rfl (nI_1 _) (by decide) rfl (fun ls hl => ?_)
        refine lv_goto (tgt := 50) hx hb dX1_know_92 (by decide) ?_
        exact ih (i + 1) 1 S2 H locs ls (by omega) (by omega) (Or.inr rfl) (fun q => absurd (w3 q) c2) w1 w2 hP hD hS (lv_sub hl [2, 1, 0] rfl)
      · refine lv_iload_n hx hb dX1_know_79 rfl (lv_at hl 1 rfl) ?_
        refine lv_if_eq (tgt := 87) hx hb dX1_know_80 (by decide) (fun c3 => ?_) (fun c3 => ?_)
        · refine lv_iconst (v := 0) hx hb dX1_know_87 (by decide) ?_
          refine lv_istore_n (lv' := [(1, .int 0), (0, .ref y), (2, .int (nI i))]) hx hb dX1_know_88 rfl hl (by decide) rfl (fun ls hl => ?_)
          refine lv_iinc (v := nI (i + 1)) (lv' := [(2, .int (nI (i + 1))), (1, .int 0), (0, .ref y)]) hx hb dX1_know_89 hl (k := 2) rfl (nI_1 _) (by decide) rfl (fun ls hl => ?_)
          refine lv_goto (tgt := 50) hx hb dX1_know_92 (by decide) ?_
          exact ih (i + 1) 0 S2 H locs ls (by omega) (by omega) (Or.inl rfl) (fun _ => rfl) w1 w2 hP hD hS (lv_sub hl [2, 1, 0] rfl)
        · refine lv_iconst (v := 1) hx hb dX1_know_83 (by decide) ?_
          refine lv_goto (tgt := 88) hx hb dX1_know_84 (by decide) ?_
          refine lv_istore_n (lv' := [(1, .int 1), (0, .ref y), (2, .int (nI i))]) hx hb dX1_know_88 rfl hl (by decide) rfl (fun ls hl => ?_)
          refine lv_iinc (v := nI (i + 1)) (lv' := [(2, .int (nI (i + 1))), (1, .int 1), (0, .ref y)]) hx hb dX1_know_89 hl (k := 2) rfl (nI_1 _) (by decide) rfl (fun ls hl => ?_)
          refine lv_goto (tgt := 50) hx hb dX1_know_92 (by decide) ?_
          exact ih (i + 1) 1 S2 H locs ls (by omega) (by omega) (Or.inr rfl) (fun q => absurd (hm2 q) c3) w1 w2 hP hD hS (lv_sub hl [2, 1, 0] rfl)
set_option maxHeartbeats 4000000 in
set_option maxRecDepth 100000 in
theorem lp_X1_k2 {p : Program} {l : Launch} {e : Env} {R : Room} {s : State} {m : MethodId} {args : Array Value} {below : List Frame} {meth : Method} {c : Code} {Q : State → Prop} {A : Nat → Prop} {H0 : Heap} (C0 : CallFix p m c cX1_know 3 s args wsX1_know RX1) (hRf : 2 ≤ R.frames) (hRl : 49 ≤ R.locals) {dC : Nat → ClassId} {dI : Nat → Nat → Nat} {y b1 b2 b3 b4 b5 b6 b7 : Nat} {t1 t2 t3 t4 t5 t6 t7 : ClassId} {mo ac cf cl : Nat} {kn : Int32} {T F I J U V : Nat → Int32} {tk fd fs la : Nat → Nat} (g : sr_G mo ac cf cl tk fd fs la) (hM : sr_MI mo cf cl tk fd fs la T F I J U V) (hK : va_K (dC, dI) vwCl (sr_tM t1 t2 t3 t4 t5 t6 t7) s) (hA : ∀ q, H0.size ≤ q → A q) {sv : Nat → Nat} (hsv : ∀ k, k ≤ mo → sv k ≤ 99999)
    (hk : ∀ (mr : Int32) (S : Nat → Int32) (H : Heap) (locs : List Loc) (ls : Array Slot), (mr = 0 ∨ mr = 1) → (sr_St sv ac tk mo → mr = 0) → (∀ k, k ≤ mo → S k = nI (sr_s sv ac tk mo k)) → va_P (dC, dI) vwCl (sr_wM y b1 b2 b3 b4 b5 b6 b7 t1 t2 t3 t4 t5 t6 t7 mo ac kn T F I J U V S) H → va_D A (sr_wM y b1 b2 b3 b4 b5 b6 b7 t1 t2 t3 t4 t5 t6 t7 mo ac kn T F I J U V S) → va_S A H0 H locs → lv_has ls 3 [(0, .ref y), (1, .int mr)] → W p l e R s m args below meth c H locs 0 0 Q (F0 m 143 ls [])) :
    ∀ (n : Nat) (mr : Int32) (S : Nat → Int32) (H : Heap) (locs : List Loc) (ls : Array Slot), n ≤ mo → (mr = 0 ∨ mr = 1) → (sr_St sv ac tk mo → mr = 0) → (∀ k, k < n → S k = nI (sr_f sv ac tk k)) → (∀ k, n ≤ k → k ≤ mo → S k = nI (sr_s sv ac tk mo k)) → va_P (dC, dI) vwCl (sr_wM y b1 b2 b3 b4 b5 b6 b7 t1 t2 t3 t4 t5 t6 t7 mo ac kn T F I J U V S) H → va_D A (sr_wM y b1 b2 b3 b4 b5 b6 b7 t1 t2 t3 t4 t5 t6 t7 mo ac kn T F I J U V S) → va_S A H0 H locs → lv_has ls 3 [(0, .ref y), (1, .int mr), (2, .int (nI n))] → W p l e R s m args below meth c H locs 0 0 Q (F0 m 100 ls []) := by
  obtain ⟨hx, hb, hml, hown, hts⟩ := C0
  have hin1 : ∀ w ∈ u_ws RX1 TX1 10, w ∈ wsX1_know := by decide +kernel
  obtain ⟨hmo, ⟨hac1, hac2⟩, hcf, hcl, hpath⟩ := id g
  have hK : va_K (dC, dI) vwCl [(t1, .int), (t2, .int), (t3, .byte), (t4, .byte), (t5, .byte), (t6, .byte), (t7, .int)] s := hK
  intro n
  induction n with
  | zero =>
    intro mr S H locs ls h1 hm1 hm2 hv hv2 hP hD hS hl
    refine lv_iload_n hx hb dX1_know_100 rfl (lv_at hl 2 rfl) ?_
    refine lv_if_le (tgt := 143) hx hb dX1_know_101 (by decide) (fun c1 => ?_) (fun c1 => ?_)
    · exact hk mr S H locs ls hm1 hm2 (fun k q => hv2 k (Nat.zero_le k) q) hP hD hS (lv_sub hl [0, 1] rfl)
    · exact absurd (by decide) c1
  | succ b ih =>
    intro mr S H locs ls h1 hm1 hm2 hv hv2 hP hD hS hl
    have hP : va_P (dC, dI) vwCl [(y, .inr (1, [.ref b1, .ref b2, .ref b3, .ref b4, .ref b5, .ref b6, .int (nI mo), .int (nI ac), .ref b7, .int kn])), (b1, .inl (t1, 2000, .inl T)), (b2, .inl (t2, 2000, .inl F)), (b3, .inl (t3, 6000, .inl I)), (b4, .inl (t4, 6000, .inl J)), (b5, .inl (t5, 3, .inl U)), (b6, .inl (t6, 3, .inl V)), (b7, .inl (t7, 2001, .inl S))] H := hP
    have hD : va_D A [(y, .inr (1, [.ref b1, .ref b2, .ref b3, .ref b4, .ref b5, .ref b6, .int (nI mo), .int (nI ac), .ref b7, .int kn])), (b1, .inl (t1, 2000, .inl T)), (b2, .inl (t2, 2000, .inl F)), (b3, .inl (t3, 6000, .inl I)), (b4, .inl (t4, 6000, .inl J)), (b5, .inl (t5, 3, .inl U)), (b6, .inl (t6, 3, .inl V)), (b7, .inl (t7, 2001, .inl S))] := hD
    refine lv_iload_n hx hb dX1_know_100 rfl (lv_at hl 2 rfl) ?_
    refine lv_if_le (tgt := 143) hx hb dX1_know_101 (by decide) (fun c1 => ?_) (fun c1 => ?_)
    · exact absurd c1 (nI_nle (by omega) (by omega))
    · have e1 : b < mo := h1
      have hb1 : sr_f sv ac tk b ≤ 99999 := Nat.le_trans (sr_f_le _ _ _ _) (hsv b (by omega))
      have hb2 : sr_s sv ac tk mo (b + 1) ≤ 99999 := Nat.le_trans (sr_s_le _ _ _ h1) (hsv (b + 1) h1)
      have hb3 : sr_r ac (tk b) (sr_s sv ac tk mo (b + 1)) < 2 ^ 31 := sr_r_lt hb2 hac2 (hpath b e1).1.2
      refine lv_aload_n hx hb dX1_know_104 rfl (lv_at hl 0 rfl) ?_
      refine lv_iload_n hx hb dX1_know_105 rfl (lv_at hl 2 rfl) ?_
      refine lv_iconst (v := 1) hx hb dX1_know_106 (by decide) ?_
      refine lv_isub hx hb dX1_know_107 ?_
      refine sr_ti (y := nI b) (nI_pred b) ?_
      refine lv_aload_n hx hb dX1_know_108 rfl (lv_at hl 0 rfl) ?_
      refine lv_aload_n hx hb dX1_know_109 rfl (lv_at hl 0 rfl) ?_
      refine va_get (D := (dC, dI)) (ci := 1) (v := .ref b7) (C := RX1) (T := TX1) (N := 10) hx hb hts hin1 hown hK hP 0 rfl rfl 8 (by decide) (hts (.fieldLink RX1 33 "SpeedRowsModel" "speeds" "[I") (by decide +kernel)) (fun _ h9 => h9) rfl dX1_know_110 ?_
      refine lv_iload_n hx hb dX1_know_113 rfl (lv_at hl 2 rfl) ?_
      refine sr_iald (v := nI (sr_s sv ac tk mo (b + 1))) hx hb hK hP 7 6 rfl rfl (by omega) (by decide) (hv2 (b + 1) (Nat.le_refl _) h1) dX1_know_114 ?_
      refine lv_iload_n hx hb dX1_know_115 rfl (lv_at hl 2 rfl) ?_
      refine lv_iconst (v := 1) hx hb dX1_know_116 (by decide) ?_
      refine lv_isub hx hb dX1_know_117 ?_
      refine sr_ti (y := nI b) (nI_pred b) ?_
      have hPc := hP.sub (ws' := [(y, .inr (1, [.ref b1, .ref b2, .ref b3, .ref b4, .ref b5, .ref b6, .int (nI mo), .int (nI ac), .ref b7, .int kn])), (b1, .inl (t1, 2000, .inl T)), (b2, .inl (t2, 2000, .inl F)), (b3, .inl (t3, 6000, .inl I)), (b4, .inl (t4, 6000, .inl J)), (b5, .inl (t5, 3, .inl U)), (b6, .inl (t6, 3, .inl V)), (b7, .inl (t7, 2001, .inl S))]) [0, 1, 2, 3, 4, 5, 6, 7] rfl
      have hDc := hD.sub (ws' := [(y, .inr (1, [.ref b1, .ref b2, .ref b3, .ref b4, .ref b5, .ref b6, .int (nI mo), .int (nI ac), .ref b7, .int kn])), (b1, .inl (t1, 2000, .inl T)), (b2, .inl (t2, 2000, .inl F)), (b3, .inl (t3, 6000, .inl I)), (b4, .inl (t4, 6000, .inl J)), (b5, .inl (t5, 3, .inl U)), (b6, .inl (t6, 3, .inl V)), (b7, .inl (t7, 2001, .inl S))]) [0, 1, 2, 3, 4, 5, 6, 7] (by decide) rfl
      have hKc := hK.sub (tys' := [(t1, .int), (t2, .int), (t3, .byte), (t4, .byte), (t5, .byte), (t6, .byte), (t7, .int)]) [0, 1, 2, 3, 4, 5, 6] rfl
      have hFc := va_free (wc := [(y, .inr (1, [.ref b1, .ref b2, .ref b3, .ref b4, .ref b5, .ref b6, .int (nI mo), .int (nI ac), .ref b7, .int kn])), (b1, .inl (t1, 2000, .inl T)), (b2, .inl (t2, 2000, .inl F)), (b3, .inl (t3, 6000, .inl I)), (b4, .inl (t4, 6000, .inl J)), (b5, .inl (t5, 3, .inl U)), (b6, .inl (t6, 3, .inl V)), (b7, .inl (t7, 2001, .inl S))]) hD hS hA [0, 1, 2, 3, 4, 5, 6, 7] rfl
      refine va_calli (va_runV (As := [.int (nI (sr_s sv ac tk mo (b + 1))), .int (nI b)]) (rest := [.int (nI b), .ref y]) ⟨hx, hb, hml, hown, hts⟩ (c_X1_reach l dC dI y b1 b2 b3 b4 b5 b6 b7 t1 t2 t3 t4 t5 t6 t7 H.size mo ac kn T F I J U V S (sr_s sv ac tk mo (b + 1)) b (tk b) hb2 (by omega) (hM.1 b e1).1 (hpath b e1).1.2 hac2) (cwV 2 hts gX1_know_X1_reach rfl rfl rfl (by decide +kernel) ⟨Nat.le_trans (show _ ≤ 2 from Nat.le_of_ble_eq_true rfl) hRf, Nat.le_trans (show _ ≤ 49 from Nat.le_of_ble_eq_true rfl) hRl⟩) ⟨sr_blind, va_recv hKc hPc (ci := 1) (q0 := 0) rfl rfl, sr_mk hPc hKc hDc⟩ rfl rfl hl.1 rfl (lv_room (Nat.le_of_ble_eq_true rfl)) dX1_know_118 ⟨Nat.zero_le _, Nat.zero_le _⟩) hS (fun q _ h => hFc q h) hFc (fun r1 u t H1 locs ht hvm hw hB hz1 hk1 hS => ?_)
      obtain ⟨hP1, hK1, hD1⟩ := hB
      rw [ht] at hP1
      obtain ⟨rfl, rfl⟩ := hw
      obtain ⟨hP, hD⟩ := va_join (wr := []) (w1 := [(y, .inr (1, [.ref b1, .ref b2, .ref b3, .ref b4, .ref b5, .ref b6, .int (nI mo), .int (nI ac), .ref b7, .int kn])), (b1, .inl (t1, 2000, .inl T)), (b2, .inl (t2, 2000, .inl F)), (b3, .inl (t3, 6000, .inl I)), (b4, .inl (t4, 6000, .inl J)), (b5, .inl (t5, 3, .inl U)), (b6, .inl (t6, 3, .inl V)), (b7, .inl (t7, 2001, .inl S))]) hP hD [0, 1, 2, 3, 4, 5, 6, 7] [] rfl rfl (by decide) (by decide) hk1 hFc hP1 hD1
      generalize H1 = H at hP hS ⊢
      have hP : va_P (dC, dI) vwCl [(y, .inr (1, [.ref b1, .ref b2, .ref b3, .ref b4, .ref b5, .ref b6, .int (nI mo), .int (nI ac), .ref b7, .int kn])), (b1, .inl (t1, 2000, .inl T)), (b2, .inl (t2, 2000, .inl F)), (b3, .inl (t3, 6000, .inl I)), (b4, .inl (t4, 6000, .inl J)), (b5, .inl (t5, 3, .inl U)), (b6, .inl (t6, 3, .inl V)), (b7, .inl (t7, 2001, .inl S))] H := hP
      have hD : va_D A [(y, .inr (1, [.ref b1, .ref b2, .ref b3, .ref b4, .ref b5, .ref b6, .int (nI mo), .int (nI ac), .ref b7, .int kn])), (b1, .inl (t1, 2000, .inl T)), (b2, .inl (t2, 2000, .inl F)), (b3, .inl (t3, 6000, .inl I)), (b4, .inl (t4, 6000, .inl J)), (b5, .inl (t5, 3, .inl U)), (b6, .inl (t6, 3, .inl V)), (b7, .inl (t7, 2001, .inl S))] := hD
      have hPc := hP.sub (ws' := [(y, .inr (1, [.ref b1, .ref b2, .ref b3, .ref b4, .ref b5, .ref b6, .int (nI mo), .int (nI ac), .ref b7, .int kn])), (b1, .inl (t1, 2000, .inl T)), (b2, .inl (t2, 2000, .inl F)), (b3, .inl (t3, 6000, .inl I)), (b4, .inl (t4, 6000, .inl J)), (b5, .inl (t5, 3, .inl U)), (b6, .inl (t6, 3, .inl V)), (b7, .inl (t7, 2001, .inl S))]) [0, 1, 2, 3, 4, 5, 6, 7] rfl
      have hDc := hD.sub (ws' := [(y, .inr (1, [.ref b1, .ref b2, .ref b3, .ref b4, .ref b5, .ref b6, .int (nI mo), .int (nI ac), .ref b7, .int kn])), (b1, .inl (t1, 2000, .inl T)), (b2, .inl (t2, 2000, .inl F)), (b3, .inl (t3, 6000, .inl I)), (b4, .inl (t4, 6000, .inl J)), (b5, .inl (t5, 3, .inl U)), (b6, .inl (t6, 3, .inl V)), (b7, .inl (t7, 2001, .inl S))]) [0, 1, 2, 3, 4, 5, 6, 7] (by decide) rfl
      have hKc := hK.sub (tys' := [(t1, .int), (t2, .int), (t3, .byte), (t4, .byte), (t5, .byte), (t6, .byte), (t7, .int)]) [0, 1, 2, 3, 4, 5, 6] rfl
      have hFc := va_free (wc := [(y, .inr (1, [.ref b1, .ref b2, .ref b3, .ref b4, .ref b5, .ref b6, .int (nI mo), .int (nI ac), .ref b7, .int kn])), (b1, .inl (t1, 2000, .inl T)), (b2, .inl (t2, 2000, .inl F)), (b3, .inl (t3, 6000, .inl I)), (b4, .inl (t4, 6000, .inl J)), (b5, .inl (t5, 3, .inl U)), (b6, .inl (t6, 3, .inl V)), (b7, .inl (t7, 2001, .inl S))]) hD hS hA [0, 1, 2, 3, 4, 5, 6, 7] rfl
      refine va_calli (va_runV (As := [.int (nI b), .int (nI (sr_r ac (tk b) (sr_s sv ac tk mo (b + 1))))]) (rest := []) ⟨hx, hb, hml, hown, hts⟩ (c_X1_lowered l dC dI y b1 b2 b3 b4 b5 b6 b7 t1 t2 t3 t4 t5 t6 t7 H.size mo ac kn T F I J U V S b (sr_f sv ac tk b) (sr_r ac (tk b) (sr_s sv ac tk mo (b + 1))) (by omega) (by omega) hb3 (hv b (Nat.lt_succ_self b))) (cwV 2 hts gX1_know_X1_lowered rfl rfl rfl (by decide +kernel) ⟨Nat.le_trans (show _ ≤ 2 from Nat.le_of_ble_eq_true rfl) hRf, Nat.le_trans (show _ ≤ 49 from Nat.le_of_ble_eq_true rfl) hRl⟩) ⟨sr_blind, va_recv hKc hPc (ci := 1) (q0 := 0) rfl rfl, sr_mk hPc hKc hDc⟩ rfl rfl hl.1 rfl (lv_room (Nat.le_of_ble_eq_true rfl)) dX1_know_121 ⟨Nat.zero_le _, Nat.zero_le _⟩) hS (fun q _ h => hFc q h) hFc (fun r2 u t H1 locs ht hvm hw hB hz1 hk1 hS => ?_)
      obtain ⟨hP1, hK1, hD1⟩ := hB
      rw [ht] at hP1
      obtain ⟨S2, rfl, q1, q2, q3, q4⟩ := hw
      obtain ⟨hP, hD⟩ := va_join (wr := []) (w1 := [(y, .inr (1, [.ref b1, .ref b2, .ref b3, .ref b4, .ref b5, .ref b6, .int (nI mo), .int (nI ac), .ref b7, .int kn])), (b1, .inl (t1, 2000, .inl T)), (b2, .inl (t2, 2000, .inl F)), (b3, .inl (t3, 6000, .inl I)), (b4, .inl (t4, 6000, .inl J)), (b5, .inl (t5, 3, .inl U)), (b6, .inl (t6, 3, .inl V)), (b7, .inl (t7, 2001, .inl S2))]) hP hD [0, 1, 2, 3, 4, 5, 6, 7] [] rfl rfl (by decide) (by decide) hk1 hFc hP1 hD1
      generalize H1 = H at hP hS ⊢
      have hP : va_P (dC, dI) vwCl [(y, .inr (1, [.ref b1, .ref b2, .ref b3, .ref b4, .ref b5, .ref b6, .int (nI mo), .int (nI ac), .ref b7, .int kn])), (b1, .inl (t1, 2000, .inl T)), (b2, .inl (t2, 2000, .inl F)), (b3, .inl (t3, 6000, .inl I)), (b4, .inl (t4, 6000, .inl J)), (b5, .inl (t5, 3, .inl U)), (b6, .inl (t6, 3, .inl V)), (b7, .inl (t7, 2001, .inl S2))] H := hP
      have hD : va_D A [(y, .inr (1, [.ref b1, .ref b2, .ref b3, .ref b4, .ref b5, .ref b6, .int (nI mo), .int (nI ac), .ref b7, .int kn])), (b1, .inl (t1, 2000, .inl T)), (b2, .inl (t2, 2000, .inl F)), (b3, .inl (t3, 6000, .inl I)), (b4, .inl (t4, 6000, .inl J)), (b5, .inl (t5, 3, .inl U)), (b6, .inl (t6, 3, .inl V)), (b7, .inl (t7, 2001, .inl S2))] := hD
      have w1 : ∀ k, k < b → S2 k = nI (sr_f sv ac tk k) := fun k q => by
        rw [q1 k (by omega)]
        exact hv k (by omega)
      have w2 : ∀ k, b ≤ k → k ≤ mo → S2 k = nI (sr_s sv ac tk mo k) := fun k q q5 => by
        rcases Nat.lt_or_ge b k with h | h
        · rw [q1 k (by omega)]
          exact hv2 k h q5
        · obtain rfl : k = b := by omega
          rw [q2, sr_s_k _ _ _ e1]
      have w3 : sr_St sv ac tk mo → r2 = 0 := fun q => q4 (by rw [sr_f_fix q b (by omega), sr_s_fix' q h1]; exact (q b e1).2)
      refine lv_if_ne (tgt := 131) hx hb dX1_know_124 (by decide) (fun c2 => ?_) (fun c2 => ?_)
      · refine lv_iconst (v := 1) hx hb dX1_know_131 (by decide) ?_
        refine lv_goto (tgt := 136) hx hb dX1_know_132 (by decide) ?_
        refine lv_istore_n (lv' := [(1, .int 1), (0, .ref y), (2, .int (nI (b + 1)))]) hx hb dX1_know_136 rfl hl (by decide) rfl (fun ls hl => ?_)
        refine lv_iinc (v := nI b) (lv' := [(2, .int (nI b)), (1, .int 1), (0, .ref y)]) hx hb dX1_know_137 hl (k := 2) rfl (pk_m1 b) (by decide) rfl (fun ls hl => ?_)
        refine lv_goto (tgt := 100) hx hb dX1_know_140 (by decide) ?_
        exact ih 1 S2 H locs ls (by omega) (Or.inr rfl) (fun q => absurd (w3 q) c2) w1 w2 hP hD hS (lv_sub hl [2, 1, 0] rfl)
      · refine lv_iload_n hx hb dX1_know_127 rfl (lv_at hl 1 rfl) ?_
        refine lv_if_eq (tgt := 135) hx hb dX1_know_128 (by decide) (fun c3 => ?_) (fun c3 => ?_)
        · refine lv_iconst (v := 0) hx hb dX1_know_135 (by decide) ?_
          refine lv_istore_n (lv' := [(1, .int 0), (0, .ref y), (2, .int (nI (b + 1)))]) hx hb dX1_know_136 rfl hl (by decide) rfl (fun ls hl => ?_)
          refine lv_iinc (v := nI b) (lv' := [(2, .int (nI b)), (1, .int 0), (0, .ref y)]) hx hb dX1_know_137 hl (k := 2) rfl (pk_m1 b) (by decide) rfl (fun ls hl => ?_)
          refine lv_goto (tgt := 100) hx hb dX1_know_140 (by decide) ?_
          exact ih 0 S2 H locs ls (by omega) (Or.inl rfl) (fun _ => rfl) w1 w2 hP hD hS (lv_sub hl [2, 1, 0] rfl)
        · refine lv_iconst (v := 1) hx hb dX1_know_131 (by decide) ?_
          refine lv_goto (tgt := 136) hx hb dX1_know_132 (by decide) ?_
          refine lv_istore_n (lv' := [(1, .int 1), (0, .ref y), (2, .int (nI (b + 1)))]) hx hb dX1_know_136 rfl hl (by decide) rfl (fun ls hl => ?_)
          refine lv_iinc (v := nI b) (lv' := [(2, .int (nI b)), (1, .int 1), (0, .ref y)]) hx hb dX1_know_137 hl (k := 2) rfl (pk_m1 b) (by decide) rfl (fun ls hl => ?_)
          refine lv_goto (tgt := 100) hx hb dX1_know_140 (by decide) ?_
          exact ih 1 S2 H locs ls (by omega) (Or.inr rfl) (fun q => absurd (hm2 q) c3) w1 w2 hP hD hS (lv_sub hl [2, 1, 0] rfl)
set_option maxHeartbeats 4000000 in
set_option maxRecDepth 100000 in
theorem lp_X1_kb {p : Program} {l : Launch} {e : Env} {R : Room} {s : State} {m : MethodId} {args : Array Value} {below : List Frame} {meth : Method} {c : Code} {Q : State → Prop} {A : Nat → Prop} {H0 : Heap} (C0 : CallFix p m c cX1_know 3 s args wsX1_know RX1) (hRf : 2 ≤ R.frames) (hRl : 49 ≤ R.locals) {dC : Nat → ClassId} {dI : Nat → Nat → Nat} {y b1 b2 b3 b4 b5 b6 b7 : Nat} {t1 t2 t3 t4 t5 t6 t7 : ClassId} {mo ac cf cl : Nat} {kn : Int32} {T F I J U V : Nat → Int32} {tk fd fs la : Nat → Nat} (g : sr_G mo ac cf cl tk fd fs la) (hM : sr_MI mo cf cl tk fd fs la T F I J U V) (hK : va_K (dC, dI) vwCl (sr_tM t1 t2 t3 t4 t5 t6 t7) s) (hA : ∀ q, H0.size ≤ q → A q) {sv : Nat → Nat} (hsv : ∀ k, k ≤ mo → sv k ≤ 99999)
    (hk : ∀ (mr : Int32) (S : Nat → Int32) (H : Heap) (locs : List Loc) (ls : Array Slot), (mr = 0 ∨ mr = 1) → (sr_St sv ac tk mo → mr = 0) → (∀ k, k ≤ mo → S k = nI (sr_s sv ac tk mo k)) → va_P (dC, dI) vwCl (sr_wM y b1 b2 b3 b4 b5 b6 b7 t1 t2 t3 t4 t5 t6 t7 mo ac kn T F I J U V S) H → va_D A (sr_wM y b1 b2 b3 b4 b5 b6 b7 t1 t2 t3 t4 t5 t6 t7 mo ac kn T F I J U V S) → va_S A H0 H locs → lv_has ls 3 [(0, .ref y), (1, .int mr)] → W p l e R s m args below meth c H locs 0 0 Q (F0 m 42 ls [])) :
    ∀ (S : Nat → Int32) (H : Heap) (locs : List Loc) (ls : Array Slot), (∀ k, k ≤ mo → S k = nI (sv k)) → va_P (dC, dI) vwCl (sr_wM y b1 b2 b3 b4 b5 b6 b7 t1 t2 t3 t4 t5 t6 t7 mo ac kn T F I J U V S) H → va_D A (sr_wM y b1 b2 b3 b4 b5 b6 b7 t1 t2 t3 t4 t5 t6 t7 mo ac kn T F I J U V S) → va_S A H0 H locs → lv_has ls 3 [(0, .ref y), (1, .int 1)] → W p l e R s m args below meth c H locs 0 0 Q (F0 m 42 ls []) := by
  have C1 := C0
  obtain ⟨hx, hb, hml, hown, hts⟩ := C0
  have hin1 : ∀ w ∈ u_ws RX1 TX1 10, w ∈ wsX1_know := by decide +kernel
  obtain ⟨hmo, ⟨hac1, hac2⟩, hcf, hcl, hpath⟩ := id g
  have hK : va_K (dC, dI) vwCl [(t1, .int), (t2, .int), (t3, .byte), (t4, .byte), (t5, .byte), (t6, .byte), (t7, .int)] s := hK
  intro S H locs ls hv hP hD hS hl
  have hP : va_P (dC, dI) vwCl [(y, .inr (1, [.ref b1, .ref b2, .ref b3, .ref b4, .ref b5, .ref b6, .int (nI mo), .int (nI ac), .ref b7, .int kn])), (b1, .inl (t1, 2000, .inl T)), (b2, .inl (t2, 2000, .inl F)), (b3, .inl (t3, 6000, .inl I)), (b4, .inl (t4, 6000, .inl J)), (b5, .inl (t5, 3, .inl U)), (b6, .inl (t6, 3, .inl V)), (b7, .inl (t7, 2001, .inl S))] H := hP
  have hD : va_D A [(y, .inr (1, [.ref b1, .ref b2, .ref b3, .ref b4, .ref b5, .ref b6, .int (nI mo), .int (nI ac), .ref b7, .int kn])), (b1, .inl (t1, 2000, .inl T)), (b2, .inl (t2, 2000, .inl F)), (b3, .inl (t3, 6000, .inl I)), (b4, .inl (t4, 6000, .inl J)), (b5, .inl (t5, 3, .inl U)), (b6, .inl (t6, 3, .inl V)), (b7, .inl (t7, 2001, .inl S))] := hD
  refine lv_iload_n hx hb dX1_know_42 rfl (lv_at hl 1 rfl) ?_
  refine lv_if_eq (tgt := 146) hx hb dX1_know_43 (by decide) (fun c1 => ?_) (fun c1 => ?_)
  · exact absurd c1 (by decide)
  · refine lv_iconst (v := 0) hx hb dX1_know_46 (by decide) ?_
    refine lv_istore_n (lv' := [(1, .int 0), (0, .ref y)]) hx hb dX1_know_47 rfl hl (by decide) rfl (fun ls hl => ?_)
    refine lv_iconst (v := nI 0) hx hb dX1_know_48 (by decide) ?_
    refine lv_istore_n (lv' := [(2, .int (nI 0)), (1, .int 0), (0, .ref y)]) hx hb dX1_know_49 rfl hl (by decide) rfl (fun ls hl => ?_)
    refine lp_X1_k1 C1 hRf hRl g hM hK hA hsv (fun mr S H locs ls hm1 hm2 hv hP hD hS hl => ?_) (mo + 1) 0 0 S H locs ls (Nat.zero_le _) (by omega) (Or.inl rfl) (fun _ => rfl) (fun k q => by rw [show k = 0 by omega, hv 0 (by omega), sr_f]) (fun k q q2 => hv k q2) hP hD hS (lv_sub hl [2, 1, 0] rfl)
    have hP : va_P (dC, dI) vwCl [(y, .inr (1, [.ref b1, .ref b2, .ref b3, .ref b4, .ref b5, .ref b6, .int (nI mo), .int (nI ac), .ref b7, .int kn])), (b1, .inl (t1, 2000, .inl T)), (b2, .inl (t2, 2000, .inl F)), (b3, .inl (t3, 6000, .inl I)), (b4, .inl (t4, 6000, .inl J)), (b5, .inl (t5, 3, .inl U)), (b6, .inl (t6, 3, .inl V)), (b7, .inl (t7, 2001, .inl S))] H := hP
    have hD : va_D A [(y, .inr (1, [.ref b1, .ref b2, .ref b3, .ref b4, .ref b5, .ref b6, .int (nI mo), .int (nI ac), .ref b7, .int kn])), (b1, .inl (t1, 2000, .inl T)), (b2, .inl (t2, 2000, .inl F)), (b3, .inl (t3, 6000, .inl I)), (b4, .inl (t4, 6000, .inl J)), (b5, .inl (t5, 3, .inl U)), (b6, .inl (t6, 3, .inl V)), (b7, .inl (t7, 2001, .inl S))] := hD
    refine lv_aload_n hx hb dX1_know_95 rfl (lv_at hl 0 rfl) ?_
    refine va_get (D := (dC, dI)) (ci := 1) (v := .int (nI mo)) (C := RX1) (T := TX1) (N := 10) hx hb hts hin1 hown hK hP 0 rfl rfl 6 (by decide) (hts (.fieldLink RX1 46 "SpeedRowsModel" "moves" "I") (by decide +kernel)) (fun _ h9 => h9) rfl dX1_know_96 ?_
    refine lv_istore_n (lv' := [(2, .int (nI mo)), (0, .ref y), (1, .int mr)]) hx hb dX1_know_99 rfl hl (by decide) rfl (fun ls hl => ?_)
    refine lp_X1_k2 C1 hRf hRl g hM hK hA hsv (fun mr S H locs ls hm1 hm2 hv hP hD hS hl => ?_) mo mr S H locs ls (Nat.le_refl _) hm1 hm2 (fun k q => hv k (by omega)) (fun k q q2 => by rw [show k = mo by omega, hv mo (Nat.le_refl _), sr_s_n]) hP hD hS (lv_sub hl [1, 2, 0] rfl)
    refine lv_goto (tgt := 42) hx hb dX1_know_143 (by decide) ?_
    exact hk mr S H locs ls hm1 hm2 hv hP hD hS hl
set_option maxHeartbeats 4000000 in
set_option maxRecDepth 100000 in
theorem c_X1_know (l : Launch) (dC : Nat → ClassId) (dI : Nat → Nat → Nat) (y b1 b2 b3 b4 b5 b6 b7 : Nat) (t1 t2 t3 t4 t5 t6 t7 : ClassId) (sz : Nat) (mo ac : Nat) (kn : Int32) (T F I J U V S : Nat → Int32) (cf cl : Nat) (tk fd fs la : Nat → Nat) (g : sr_G mo ac cf cl tk fd fs la) (hM : sr_MI mo cf cl tk fd fs la T F I J U V) (hQ : sr_XS mo ac tk fd fs la kn S) : Met l yX1_know wsX1_know ({ frames := 2, cells := 0, slots := 0, locals := 49 }) (sr_pre dC dI (sr_tM t1 t2 t3 t4 t5 t6 t7) (sr_wM y b1 b2 b3 b4 b5 b6 b7 t1 t2 t3 t4 t5 t6 t7 mo ac kn T F I J U V S) sz [.ref y]) (va_Qv (fun (u : va_W) => ∃ S' : Nat → Int32, u = sr_wM y b1 b2 b3 b4 b5 b6 b7 t1 t2 t3 t4 t5 t6 t7 mo ac 1 T F I J U V S' ∧ ∀ k, k ≤ mo → S' k = nI (sr_sp mo ac tk fd fs la k)) (sr_at dC dI (sr_tM t1 t2 t3 t4 t5 t6 t7) (va_A (sr_wM y b1 b2 b3 b4 b5 b6 b7 t1 t2 t3 t4 t5 t6 t7 mo ac kn T F I J U V S) sz)) (va_A (sr_wM y b1 b2 b3 b4 b5 b6 b7 t1 t2 t3 t4 t5 t6 t7 mo ac kn T F I J U V S) sz)) 0 0 (va_A (sr_wM y b1 b2 b3 b4 b5 b6 b7 t1 t2 t3 t4 t5 t6 t7 mo ac kn T F I J U V S) sz) := by
  refine Met.ofW (cc := cX1_know) (maxL := 3) (ret := none) (by decide) rfl ?_
  intro p e s m args below meth c s₁ B hml hv
  obtain ⟨rfl, hsz, hP, hK, hD0⟩ := hv
  have hx := B.exec
  have hb := B.bytes
  have hr := B.returns
  have hts := atoms_spec (ws := wsX1_know) B.pre
  have hown : s.vm.findClass RX1 = some m.cls := findClass_of_methodNamed B.named
  have hlocks := B.notSynchronized
  subst hsz
  have hD := hD0.self (sz := s.heap.size)
  generalize hAe : va_A (sr_wM y b1 b2 b3 b4 b5 b6 b7 t1 t2 t3 t4 t5 t6 t7 mo ac kn T F I J U V S) s.heap.size = A at hD ⊢
  have hA : ∀ q : Nat, s.heap.size ≤ q → A q := fun q h => by rw [← hAe]; exact Or.inr h
  have hS : va_S A s.heap s.heap [] := va_S.rf
  have hP : va_P (dC, dI) vwCl [(y, .inr (1, [.ref b1, .ref b2, .ref b3, .ref b4, .ref b5, .ref b6, .int (nI mo), .int (nI ac), .ref b7, .int kn])), (b1, .inl (t1, 2000, .inl T)), (b2, .inl (t2, 2000, .inl F)), (b3, .inl (t3, 6000, .inl I)), (b4, .inl (t4, 6000, .inl J)), (b5, .inl (t5, 3, .inl U)), (b6, .inl (t6, 3, .inl V)), (b7, .inl (t7, 2001, .inl S))] s.heap := hP
  have hD : va_D A [(y, .inr (1, [.ref b1, .ref b2, .ref b3, .ref b4, .ref b5, .ref b6, .int (nI mo), .int (nI ac), .ref b7, .int kn])), (b1, .inl (t1, 2000, .inl T)), (b2, .inl (t2, 2000, .inl F)), (b3, .inl (t3, 6000, .inl I)), (b4, .inl (t4, 6000, .inl J)), (b5, .inl (t5, 3, .inl U)), (b6, .inl (t6, 3, .inl V)), (b7, .inl (t7, 2001, .inl S))] := hD
  have hK : va_K (dC, dI) vwCl [(t1, .int), (t2, .int), (t3, .byte), (t4, .byte), (t5, .byte), (t6, .byte), (t7, .int)] s := hK
  have hin1 : ∀ w ∈ u_ws RX1 TX1 10, w ∈ wsX1_know := by decide +kernel
  have hl := lv_entry ([.ref y]) (n := 3) (Nat.le_of_ble_eq_true rfl)
  rw [lg_entry_eq]
  generalize (lg_sl ([.ref y]) ++ List.replicate (3 - (lg_sl ([.ref y])).length) Slot.unset).toArray = ls at hl ⊢
  have hl : lv_has ls 3 [(0, .ref y)] := hl
  have hmo : mo ≤ 2000 := g.1
  refine lv_aload_n hx hb dX1_know_0 rfl (lv_at hl 0 rfl) ?_
  refine va_get (D := (dC, dI)) (ci := 1) (v := .int kn) (C := RX1) (T := TX1) (N := 10) hx hb hts hin1 hown hK hP 0 rfl rfl 9 (by decide) (hts (.fieldLink RX1 49 "SpeedRowsModel" "isKnown" "Z") (by decide +kernel)) (fun _ h9 => h9) rfl dX1_know_1 ?_
  refine lv_if_eq (tgt := 8) hx hb dX1_know_4 (by decide) (fun c1 => ?_) (fun c1 => ?_)
  · subst c1
    refine lv_aload_n hx hb dX1_know_8 rfl (lv_at hl 0 rfl) ?_
    refine lv_iconst (v := 1) hx hb dX1_know_9 (by decide) ?_
    refine va_put (D := (dC, dI)) (ci := 1) (v := .int 1) (ty := .boolean) (C := RX1) (T := TX1) (N := 10) hx hb hts hin1 tyX1 tyX1_ok nmX1 hown hK hP hD hS 0 rfl rfl 9 (by decide) (hts (.fieldLink RX1 49 "SpeedRowsModel" "isKnown" "Z") (by decide +kernel)) (fun _ h9 => h9) rfl (by decide +kernel) rfl rfl (Nat.le_of_ble_eq_true rfl) dX1_know_10 (fun H locs hP hD hS => ?_)
    have hP : va_P (dC, dI) vwCl [(y, .inr (1, [.ref b1, .ref b2, .ref b3, .ref b4, .ref b5, .ref b6, .int (nI mo), .int (nI ac), .ref b7, .int 1])), (b1, .inl (t1, 2000, .inl T)), (b2, .inl (t2, 2000, .inl F)), (b3, .inl (t3, 6000, .inl I)), (b4, .inl (t4, 6000, .inl J)), (b5, .inl (t5, 3, .inl U)), (b6, .inl (t6, 3, .inl V)), (b7, .inl (t7, 2001, .inl S))] H := hP
    have hD : va_D A [(y, .inr (1, [.ref b1, .ref b2, .ref b3, .ref b4, .ref b5, .ref b6, .int (nI mo), .int (nI ac), .ref b7, .int 1])), (b1, .inl (t1, 2000, .inl T)), (b2, .inl (t2, 2000, .inl F)), (b3, .inl (t3, 6000, .inl I)), (b4, .inl (t4, 6000, .inl J)), (b5, .inl (t5, 3, .inl U)), (b6, .inl (t6, 3, .inl V)), (b7, .inl (t7, 2001, .inl S))] := hD
    refine lv_iconst (v := nI 0) hx hb dX1_know_13 (by decide) ?_
    refine lv_istore_n (lv' := [(1, .int (nI 0)), (0, .ref y)]) hx hb dX1_know_14 rfl hl (by decide) rfl (fun ls hl => ?_)
    refine lp_X1_k0 ⟨hx, hb, hml, hown, hts⟩ (Nat.le_of_ble_eq_true rfl) (Nat.le_of_ble_eq_true rfl) g hM hK hA (fun S H locs ls hv hP hD hS hl => ?_) (mo + 2) 0 S H locs ls (Nat.zero_le _) (by omega) (fun k q => absurd q (Nat.not_lt_zero k)) hP hD hS (lv_sub hl [1, 0] rfl)
    have hP : va_P (dC, dI) vwCl [(y, .inr (1, [.ref b1, .ref b2, .ref b3, .ref b4, .ref b5, .ref b6, .int (nI mo), .int (nI ac), .ref b7, .int 1])), (b1, .inl (t1, 2000, .inl T)), (b2, .inl (t2, 2000, .inl F)), (b3, .inl (t3, 6000, .inl I)), (b4, .inl (t4, 6000, .inl J)), (b5, .inl (t5, 3, .inl U)), (b6, .inl (t6, 3, .inl V)), (b7, .inl (t7, 2001, .inl S))] H := hP
    have hD : va_D A [(y, .inr (1, [.ref b1, .ref b2, .ref b3, .ref b4, .ref b5, .ref b6, .int (nI mo), .int (nI ac), .ref b7, .int 1])), (b1, .inl (t1, 2000, .inl T)), (b2, .inl (t2, 2000, .inl F)), (b3, .inl (t3, 6000, .inl I)), (b4, .inl (t4, 6000, .inl J)), (b5, .inl (t5, 3, .inl U)), (b6, .inl (t6, 3, .inl V)), (b7, .inl (t7, 2001, .inl S))] := hD
    refine lv_iconst (v := 1) hx hb dX1_know_40 (by decide) ?_
    refine lv_istore_n (lv' := [(1, .int 1), (0, .ref y)]) hx hb dX1_know_41 rfl hl (by decide) rfl (fun ls hl => ?_)
    refine lp_X1_kb ⟨hx, hb, hml, hown, hts⟩ (Nat.le_of_ble_eq_true rfl) (Nat.le_of_ble_eq_true rfl) g hM hK hA (sv := sr_lim mo fd fs la) (fun k q => sr_lim_le g k) (fun mr S H locs ls hm1 hm2 hv hP hD hS hl => ?_) S H locs ls hv hP hD hS (lv_sub hl [1, 0] rfl)
    rcases hm1 with rfl | rfl
    · have hP : va_P (dC, dI) vwCl [(y, .inr (1, [.ref b1, .ref b2, .ref b3, .ref b4, .ref b5, .ref b6, .int (nI mo), .int (nI ac), .ref b7, .int 1])), (b1, .inl (t1, 2000, .inl T)), (b2, .inl (t2, 2000, .inl F)), (b3, .inl (t3, 6000, .inl I)), (b4, .inl (t4, 6000, .inl J)), (b5, .inl (t5, 3, .inl U)), (b6, .inl (t6, 3, .inl V)), (b7, .inl (t7, 2001, .inl S))] H := hP
      have hD : va_D A [(y, .inr (1, [.ref b1, .ref b2, .ref b3, .ref b4, .ref b5, .ref b6, .int (nI mo), .int (nI ac), .ref b7, .int 1])), (b1, .inl (t1, 2000, .inl T)), (b2, .inl (t2, 2000, .inl F)), (b3, .inl (t3, 6000, .inl I)), (b4, .inl (t4, 6000, .inl J)), (b5, .inl (t5, 3, .inl U)), (b6, .inl (t6, 3, .inl V)), (b7, .inl (t7, 2001, .inl S))] := hD
      refine lv_iload_n hx hb dX1_know_42 rfl (lv_at hl 1 rfl) ?_
      refine lv_if_eq (tgt := 146) hx hb dX1_know_43 (by decide) (fun c2 => ?_) (fun c2 => ?_)
      · exact W.vret hx hb hr (fun t ht hW => ⟨⟨_, rfl, ⟨S, rfl, hv⟩, by rw [ht]; exact hP, va_K.moved hW.alike hK, hD⟩, hS.F ht⟩) hS.2.2 dX1_know_146
      · exact absurd rfl c2
    · refine lp_X1_kb ⟨hx, hb, hml, hown, hts⟩ (Nat.le_of_ble_eq_true rfl) (Nat.le_of_ble_eq_true rfl) g hM hK hA (sv := sr_sp mo ac tk fd fs la) (fun k q => sr_sp_le g q) (fun mr S H locs ls hm1 hm3 hv2 hP hD hS hl => ?_) S H locs ls hv hP hD hS hl
      obtain rfl : mr = 0 := hm3 (sr_s_stable _ _ _ _)
      have hP : va_P (dC, dI) vwCl [(y, .inr (1, [.ref b1, .ref b2, .ref b3, .ref b4, .ref b5, .ref b6, .int (nI mo), .int (nI ac), .ref b7, .int 1])), (b1, .inl (t1, 2000, .inl T)), (b2, .inl (t2, 2000, .inl F)), (b3, .inl (t3, 6000, .inl I)), (b4, .inl (t4, 6000, .inl J)), (b5, .inl (t5, 3, .inl U)), (b6, .inl (t6, 3, .inl V)), (b7, .inl (t7, 2001, .inl S))] H := hP
      have hD : va_D A [(y, .inr (1, [.ref b1, .ref b2, .ref b3, .ref b4, .ref b5, .ref b6, .int (nI mo), .int (nI ac), .ref b7, .int 1])), (b1, .inl (t1, 2000, .inl T)), (b2, .inl (t2, 2000, .inl F)), (b3, .inl (t3, 6000, .inl I)), (b4, .inl (t4, 6000, .inl J)), (b5, .inl (t5, 3, .inl U)), (b6, .inl (t6, 3, .inl V)), (b7, .inl (t7, 2001, .inl S))] := hD
      refine lv_iload_n hx hb dX1_know_42 rfl (lv_at hl 1 rfl) ?_
      refine lv_if_eq (tgt := 146) hx hb dX1_know_43 (by decide) (fun c2 => ?_) (fun c2 => ?_)
      · exact W.vret hx hb hr (fun t ht hW => ⟨⟨_, rfl, ⟨S, rfl, fun k q => by rw [hv2 k q]; unfold sr_sp; rw [sr_s_twice _ _ _ q]⟩, by rw [ht]; exact hP, va_K.moved hW.alike hK, hD⟩, hS.F ht⟩) hS.2.2 dX1_know_146
      · exact absurd rfl c2
  · rcases hQ with q | ⟨q, hq⟩
    · exact absurd q c1
    · subst q
      exact W.vret hx hb hr (fun t ht hW => ⟨⟨_, rfl, ⟨S, rfl, hq⟩, by rw [ht]; exact hP, va_K.moved hW.alike hK, hD⟩, hS.F ht⟩) hS.2.2 dX1_know_7
