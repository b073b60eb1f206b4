/-! THE REFERENCE: move and the constructor. -/
theorem sr_MI_push {mo cf cl : Nat} {tk fd fs la : Nat → Nat} {T F I J U V : Nat → Int32} (hM : sr_MI mo cf cl tk fd fs la T F I J U V) (n1 f1 : Nat) : sr_MI (mo + 1) cf cl (sr_up tk mo n1) (sr_up fd mo f1) (sr_up fs mo cf) (sr_up la mo cl) (upd T mo (nI n1)) (upd F mo (nI f1)) (upd (upd (upd I (3 * mo + 0) (sr_dg cf 0)) (3 * mo + 1) (sr_dg cf 1)) (3 * mo + 2) (sr_dg cf 2)) (upd (upd (upd J (3 * mo + 0) (sr_dg cl 0)) (3 * mo + 1) (sr_dg cl 1)) (3 * mo + 2) (sr_dg cl 2)) U V := by
  refine ⟨fun i hi => ?_, hM.2⟩
  rcases Nat.lt_or_ge i mo with h | h
  · have e : i ≠ mo := by omega
    rw [pk_un e, pk_un e, sr_up_n e, sr_up_n e, sr_up_n e, sr_up_n e]
    refine ⟨(hM.1 i h).1, (hM.1 i h).2.1, fun a ha => ?_⟩
    have e0 : 3 * i + a ≠ 3 * mo + 0 := by omega
    have e1 : 3 * i + a ≠ 3 * mo + 1 := by omega
    have e2 : 3 * i + a ≠ 3 * mo + 2 := by omega
    rw [pk_un e2, pk_un e1, pk_un e0, pk_un e2, pk_un e1, pk_un e0]
    exact (hM.1 i h).2.2 a ha
  · obtain rfl : i = mo := by omega
    rw [pk_us, pk_us, sr_up_s, sr_up_s, sr_up_s, sr_up_s]
    refine ⟨rfl, rfl, fun a ha => ?_⟩
    have e01 : 3 * i + 0 ≠ 3 * i + 1 := by omega
    have e02 : 3 * i + 0 ≠ 3 * i + 2 := by omega
    have e12 : 3 * i + 1 ≠ 3 * i + 2 := by omega
    rcases (show a = 0 ∨ a = 1 ∨ a = 2 by omega) with rfl | rfl | rfl
    · rw [pk_un e02, pk_un e01, pk_us, pk_un e02, pk_un e01, pk_us]
      exact ⟨rfl, rfl⟩
    · rw [pk_un e12, pk_us, pk_un e12, pk_us]
      exact ⟨rfl, rfl⟩
    · rw [pk_us, pk_us]
      exact ⟨rfl, rfl⟩
set_option maxHeartbeats 4000000 in
set_option maxRecDepth 100000 in
theorem c_X1_move (l : Launch) (dC : Nat → ClassId) (dI : Nat → Nat → Nat) (y b1 b2 b3 b4 b5 b6 b7 : Nat) (t1 t2 t3 t4 t5 t6 t7 : ClassId) (sz : Nat) (mo ac : Nat) (kn : Int32) (T F I J U V S : Nat → Int32) (n f : Int32) (cf cl : Nat) (tk fd fs la : Nat → Nat) (g : sr_G mo ac cf cl tk fd fs la) (hM : sr_MI mo cf cl tk fd fs la T F I J U V) : Met l yX1_move wsX1_move ({ frames := 0, cells := 0, slots := 0, locals := 0 }) (sr_pre dC dI (sr_tM t1 t2 t3 t4 t5 t6 t7) (sr_wM y b1 b2 b3 b4 b5 b6 b7 t1 t2 t3 t4 t5 t6 t7 mo ac kn T F I J U V S) sz [.ref y, .int n, .int f]) (va_Qi (fun (r : Int32) (u : va_W) => (((1 ≤ n ∧ n ≤ 100000) ∧ (1 ≤ f ∧ f ≤ 99999) ∧ mo < 2000) ∧ r = nI (mo + 1) ∧ ∃ T' F' I' J' : Nat → Int32, u = sr_wM y b1 b2 b3 b4 b5 b6 b7 t1 t2 t3 t4 t5 t6 t7 (mo + 1) ac 0 T' F' I' J' U V S ∧ sr_MI (mo + 1) cf cl (sr_up tk mo n.toNatClampNeg) (sr_up fd mo f.toNatClampNeg) (sr_up fs mo cf) (sr_up la mo cl) T' F' I' J' U V) ∨ (¬ ((1 ≤ n ∧ n ≤ 100000) ∧ (1 ≤ f ∧ f ≤ 99999) ∧ mo < 2000) ∧ r = -1 ∧ u = sr_wM y b1 b2 b3 b4 b5 b6 b7 t1 t2 t3 t4 t5 t6 t7 mo ac kn T F I J U V S)) (sr_at dC dI (sr_tM t1 t2 t3 t4 t5 t6 t7) (va_A (sr_wM y b1 b2 b3 b4 b5 b6 b7 t1 t2 t3 t4 t5 t6 t7 mo ac kn T F I J U V S) sz)) (va_A (sr_wM y b1 b2 b3 b4 b5 b6 b7 t1 t2 t3 t4 t5 t6 t7 mo ac kn T F I J U V S) sz)) 0 0 (va_A (sr_wM y b1 b2 b3 b4 b5 b6 b7 t1 t2 t3 t4 t5 t6 t7 mo ac kn T F I J U V S) sz) := by
  refine Met.ofW (cc := cX1_move) (maxL := 4) (ret := (some .int)) (by decide) rfl ?_
  intro p e s m args below meth c s₁ B hml hv
  obtain ⟨rfl, hsz, hP, hK, hD0⟩ := hv
  have hx := B.exec
  have hb := B.bytes
  have hr := B.returns
  have hts := atoms_spec (ws := wsX1_move) B.pre
  have hown : s.vm.findClass RX1 = some m.cls := findClass_of_methodNamed B.named
  have hlocks := B.notSynchronized
  subst hsz
  have hD := hD0.self (sz := s.heap.size)
  generalize hAe : va_A (sr_wM y b1 b2 b3 b4 b5 b6 b7 t1 t2 t3 t4 t5 t6 t7 mo ac kn T F I J U V S) s.heap.size = A at hD ⊢
  have hA : ∀ q : Nat, s.heap.size ≤ q → A q := fun q h => by rw [← hAe]; exact Or.inr h
  have hS : va_S A s.heap s.heap [] := va_S.rf
  have hP : va_P (dC, dI) vwCl [(y, .inr (1, [.ref b1, .ref b2, .ref b3, .ref b4, .ref b5, .ref b6, .int (nI mo), .int (nI ac), .ref b7, .int kn])), (b1, .inl (t1, 2000, .inl T)), (b2, .inl (t2, 2000, .inl F)), (b3, .inl (t3, 6000, .inl I)), (b4, .inl (t4, 6000, .inl J)), (b5, .inl (t5, 3, .inl U)), (b6, .inl (t6, 3, .inl V)), (b7, .inl (t7, 2001, .inl S))] s.heap := hP
  have hD : va_D A [(y, .inr (1, [.ref b1, .ref b2, .ref b3, .ref b4, .ref b5, .ref b6, .int (nI mo), .int (nI ac), .ref b7, .int kn])), (b1, .inl (t1, 2000, .inl T)), (b2, .inl (t2, 2000, .inl F)), (b3, .inl (t3, 6000, .inl I)), (b4, .inl (t4, 6000, .inl J)), (b5, .inl (t5, 3, .inl U)), (b6, .inl (t6, 3, .inl V)), (b7, .inl (t7, 2001, .inl S))] := hD
  have hK : va_K (dC, dI) vwCl [(t1, .int), (t2, .int), (t3, .byte), (t4, .byte), (t5, .byte), (t6, .byte), (t7, .int)] s := hK
  have hin1 : ∀ w ∈ u_ws RX1 TX1 10, w ∈ wsX1_move := by decide +kernel
  have hl := lv_entry ([.ref y, .int n, .int f]) (n := 4) (Nat.le_of_ble_eq_true rfl)
  rw [lg_entry_eq]
  generalize (lg_sl ([.ref y, .int n, .int f]) ++ List.replicate (4 - (lg_sl ([.ref y, .int n, .int f])).length) Slot.unset).toArray = ls at hl ⊢
  have hl : lv_has ls 4 [(0, .ref y), (1, .int n), (2, .int f)] := hl
  obtain ⟨hmo, ⟨hac1, hac2⟩, hcf, hcl, hpath⟩ := id g
  refine lv_iload_n hx hb dX1_move_0 rfl (lv_at hl 1 rfl) ?_
  refine lv_iconst (v := 1) hx hb dX1_move_1 (by decide) ?_
  refine lv_icmp_lt (tgt := 32) hx hb dX1_move_2 (by decide) (fun k0 => ?_) (fun k0 => ?_)
  · refine lv_iconst (v := (-1)) hx hb dX1_move_32 (by decide) ?_
    exact W.iret (v := (-1)) hx hb hr (fun t ht hW => ⟨⟨(-1), _, rfl, Or.inr ⟨fun q => absurd q.1.1 (Int32.not_le.mpr k0), rfl, rfl⟩, by rw [ht]; exact hP, va_K.moved hW.alike hK, hD⟩, hS.F ht⟩) hS.2.2 dX1_move_33
  · refine lv_iload_n hx hb dX1_move_5 rfl (lv_at hl 1 rfl) ?_
    refine lv_ldc (v := 100000) hx hb hown (hts (.constant RX1 44 (100000)) (by decide +kernel)) dX1_move_6 ?_
    refine lv_icmp_gt (tgt := 32) hx hb dX1_move_8 (by decide) (fun k1 => ?_) (fun k1 => ?_)
    · refine lv_iconst (v := (-1)) hx hb dX1_move_32 (by decide) ?_
      exact W.iret (v := (-1)) hx hb hr (fun t ht hW => ⟨⟨(-1), _, rfl, Or.inr ⟨fun q => absurd q.1.2 (Int32.not_le.mpr k1), rfl, rfl⟩, by rw [ht]; exact hP, va_K.moved hW.alike hK, hD⟩, hS.F ht⟩) hS.2.2 dX1_move_33
    · refine lv_iload_n hx hb dX1_move_11 rfl (lv_at hl 2 rfl) ?_
      refine lv_iconst (v := 1) hx hb dX1_move_12 (by decide) ?_
      refine lv_icmp_lt (tgt := 32) hx hb dX1_move_13 (by decide) (fun k2 => ?_) (fun k2 => ?_)
      · refine lv_iconst (v := (-1)) hx hb dX1_move_32 (by decide) ?_
        exact W.iret (v := (-1)) hx hb hr (fun t ht hW => ⟨⟨(-1), _, rfl, Or.inr ⟨fun q => absurd q.2.1.1 (Int32.not_le.mpr k2), rfl, rfl⟩, by rw [ht]; exact hP, va_K.moved hW.alike hK, hD⟩, hS.F ht⟩) hS.2.2 dX1_move_33
      · refine lv_iload_n hx hb dX1_move_16 rfl (lv_at hl 2 rfl) ?_
        refine lv_ldc (v := 99999) hx hb hown (hts (.constant RX1 45 (99999)) (by decide +kernel)) dX1_move_17 ?_
        refine lv_icmp_gt (tgt := 32) hx hb dX1_move_19 (by decide) (fun k3 => ?_) (fun k3 => ?_)
        · refine lv_iconst (v := (-1)) hx hb dX1_move_32 (by decide) ?_
          exact W.iret (v := (-1)) hx hb hr (fun t ht hW => ⟨⟨(-1), _, rfl, Or.inr ⟨fun q => absurd q.2.1.2 (Int32.not_le.mpr k3), rfl, rfl⟩, by rw [ht]; exact hP, va_K.moved hW.alike hK, hD⟩, hS.F ht⟩) hS.2.2 dX1_move_33
        · refine lv_aload_n hx hb dX1_move_22 rfl (lv_at hl 0 rfl) ?_
          refine va_get (D := (dC, dI)) (ci := 1) (v := .int (nI mo)) (C := RX1) (T := TX1) (N := 10) hx hb hts hin1 hown hK hP 0 rfl rfl 6 (by decide) (hts (.fieldLink RX1 46 "SpeedRowsModel" "moves" "I") (by decide +kernel)) (fun _ h9 => h9) rfl dX1_move_23 ?_
          refine lv_sipush (v := nI 2000) hx hb dX1_move_26 (by decide) ?_
          refine lv_icmp_ne (tgt := 34) hx hb dX1_move_29 (by decide) (fun k4 => ?_) (fun k4 => ?_)
          · have hm : mo < 2000 := by
              rcases Nat.lt_or_ge mo 2000 with q | q
              · exact q
              · exact absurd (by rw [show mo = 2000 by omega]) k4
            have hn : 1 ≤ n ∧ n ≤ 100000 := ⟨Int32.not_lt.mp k0, Int32.not_lt.mp k1⟩
            have hf : 1 ≤ f ∧ f ≤ 99999 := ⟨Int32.not_lt.mp k2, Int32.not_lt.mp k3⟩
            obtain ⟨n1, hn1, rfl⟩ : ∃ j, j ≤ 100000 ∧ n = nI j := nI_of2 (M := 100000) (by decide) (fun q => absurd (Int32.lt_of_lt_of_le q (by decide : (0 : Int32) ≤ 1)) (Int32.not_lt.mpr hn.1)) hn.2
            obtain ⟨f1, hf1, rfl⟩ : ∃ j, j ≤ 99999 ∧ f = nI j := nI_of2 (M := 99999) (by decide) (fun q => absurd (Int32.lt_of_lt_of_le q (by decide : (0 : Int32) ≤ 1)) (Int32.not_lt.mpr hf.1)) hf.2
            refine lv_aload_n hx hb dX1_move_34 rfl (lv_at hl 0 rfl) ?_
            refine va_get (D := (dC, dI)) (ci := 1) (v := .ref b1) (C := RX1) (T := TX1) (N := 10) hx hb hts hin1 hown hK hP 0 rfl rfl 0 (by decide) (hts (.fieldLink RX1 9 "SpeedRowsModel" "ticks" "[I") (by decide +kernel)) (fun _ h9 => h9) rfl dX1_move_35 ?_
            refine lv_aload_n hx hb dX1_move_38 rfl (lv_at hl 0 rfl) ?_
            refine va_get (D := (dC, dI)) (ci := 1) (v := .int (nI mo)) (C := RX1) (T := TX1) (N := 10) hx hb hts hin1 hown hK hP 0 rfl rfl 6 (by decide) (hts (.fieldLink RX1 46 "SpeedRowsModel" "moves" "I") (by decide +kernel)) (fun _ h9 => h9) rfl dX1_move_39 ?_
            refine lv_iload_n hx hb dX1_move_42 rfl (lv_at hl 1 rfl) ?_
            refine sr_iast hx hb hK hP hD hS 1 0 rfl rfl (by omega) (by decide) dX1_move_43 (fun H locs hP hD hS => ?_)
            have hP : va_P (dC, dI) vwCl [(y, .inr (1, [.ref b1, .ref b2, .ref b3, .ref b4, .ref b5, .ref b6, .int (nI mo), .int (nI ac), .ref b7, .int kn])), (b1, .inl (t1, 2000, .inl (upd T mo (nI n1)))), (b2, .inl (t2, 2000, .inl F)), (b3, .inl (t3, 6000, .inl I)), (b4, .inl (t4, 6000, .inl J)), (b5, .inl (t5, 3, .inl U)), (b6, .inl (t6, 3, .inl V)), (b7, .inl (t7, 2001, .inl S))] H := hP
            have hD : va_D A [(y, .inr (1, [.ref b1, .ref b2, .ref b3, .ref b4, .ref b5, .ref b6, .int (nI mo), .int (nI ac), .ref b7, .int kn])), (b1, .inl (t1, 2000, .inl (upd T mo (nI n1)))), (b2, .inl (t2, 2000, .inl F)), (b3, .inl (t3, 6000, .inl I)), (b4, .inl (t4, 6000, .inl J)), (b5, .inl (t5, 3, .inl U)), (b6, .inl (t6, 3, .inl V)), (b7, .inl (t7, 2001, .inl S))] := hD
            refine lv_aload_n hx hb dX1_move_44 rfl (lv_at hl 0 rfl) ?_
            refine va_get (D := (dC, dI)) (ci := 1) (v := .ref b2) (C := RX1) (T := TX1) (N := 10) hx hb hts hin1 hown hK hP 0 rfl rfl 1 (by decide) (hts (.fieldLink RX1 13 "SpeedRowsModel" "feeds" "[I") (by decide +kernel)) (fun _ h9 => h9) rfl dX1_move_45 ?_
            refine lv_aload_n hx hb dX1_move_48 rfl (lv_at hl 0 rfl) ?_
            refine va_get (D := (dC, dI)) (ci := 1) (v := .int (nI mo)) (C := RX1) (T := TX1) (N := 10) hx hb hts hin1 hown hK hP 0 rfl rfl 6 (by decide) (hts (.fieldLink RX1 46 "SpeedRowsModel" "moves" "I") (by decide +kernel)) (fun _ h9 => h9) rfl dX1_move_49 ?_
            refine lv_iload_n hx hb dX1_move_52 rfl (lv_at hl 2 rfl) ?_
            refine sr_iast hx hb hK hP hD hS 2 1 rfl rfl (by omega) (by decide) dX1_move_53 (fun H locs hP hD hS => ?_)
            have hP : va_P (dC, dI) vwCl [(y, .inr (1, [.ref b1, .ref b2, .ref b3, .ref b4, .ref b5, .ref b6, .int (nI mo), .int (nI ac), .ref b7, .int kn])), (b1, .inl (t1, 2000, .inl (upd T mo (nI n1)))), (b2, .inl (t2, 2000, .inl (upd F mo (nI f1)))), (b3, .inl (t3, 6000, .inl I)), (b4, .inl (t4, 6000, .inl J)), (b5, .inl (t5, 3, .inl U)), (b6, .inl (t6, 3, .inl V)), (b7, .inl (t7, 2001, .inl S))] H := hP
            have hD : va_D A [(y, .inr (1, [.ref b1, .ref b2, .ref b3, .ref b4, .ref b5, .ref b6, .int (nI mo), .int (nI ac), .ref b7, .int kn])), (b1, .inl (t1, 2000, .inl (upd T mo (nI n1)))), (b2, .inl (t2, 2000, .inl (upd F mo (nI f1)))), (b3, .inl (t3, 6000, .inl I)), (b4, .inl (t4, 6000, .inl J)), (b5, .inl (t5, 3, .inl U)), (b6, .inl (t6, 3, .inl V)), (b7, .inl (t7, 2001, .inl S))] := hD
            refine lv_iconst (v := nI 0) hx hb dX1_move_54 (by decide) ?_
            refine lv_istore_n (lv' := [(3, .int (nI 0)), (0, .ref y), (1, .int (nI n1)), (2, .int (nI f1))]) hx hb dX1_move_55 rfl hl (by decide) rfl (fun ls hl => ?_)
            refine lv_iload_n hx hb dX1_move_56 rfl (lv_at hl 0 rfl) ?_
            refine lv_iconst (v := nI 3) hx hb dX1_move_57 (by decide) ?_
            refine lv_icmp_ge (tgt := 105) hx hb dX1_move_58 (by decide) (fun m0 => ?_) (fun m0 => ?_)
            · exact absurd m0 (by decide)
            · refine lv_aload_n hx hb dX1_move_61 rfl (lv_at hl 1 rfl) ?_
              refine va_get (D := (dC, dI)) (ci := 1) (v := .ref b3) (C := RX1) (T := TX1) (N := 10) hx hb hts hin1 hown hK hP 0 rfl rfl 2 (by decide) (hts (.fieldLink RX1 16 "SpeedRowsModel" "firsts" "[B") (by decide +kernel)) (fun _ h9 => h9) rfl dX1_move_62 ?_
              refine lv_iconst (v := nI 3) hx hb dX1_move_65 (by decide) ?_
              refine lv_aload_n hx hb dX1_move_66 rfl (lv_at hl 1 rfl) ?_
              refine va_get (D := (dC, dI)) (ci := 1) (v := .int (nI mo)) (C := RX1) (T := TX1) (N := 10) hx hb hts hin1 hown hK hP 0 rfl rfl 6 (by decide) (hts (.fieldLink RX1 46 "SpeedRowsModel" "moves" "I") (by decide +kernel)) (fun _ h9 => h9) rfl dX1_move_67 ?_
              refine lv_imul hx hb dX1_move_70 ?_
              refine sr_ti (y := nI (3 * mo)) (pk_mul _ _) ?_
              refine lv_iload_n hx hb dX1_move_71 rfl (lv_at hl 0 rfl) ?_
              refine lv_iadd hx hb dX1_move_72 ?_
              refine sr_ti (y := nI ((3 * mo) + 0)) (nI_add _ _) ?_
              refine lv_aload_n hx hb dX1_move_73 rfl (lv_at hl 1 rfl) ?_
              refine va_get (D := (dC, dI)) (ci := 1) (v := .ref b5) (C := RX1) (T := TX1) (N := 10) hx hb hts hin1 hown hK hP 0 rfl rfl 4 (by decide) (hts (.fieldLink RX1 23 "SpeedRowsModel" "first" "[B") (by decide +kernel)) (fun _ h9 => h9) rfl dX1_move_74 ?_
              refine lv_iload_n hx hb dX1_move_77 rfl (lv_at hl 0 rfl) ?_
              refine sr_bald (v := sr_dg cf 0) hx hb hK hP 5 4 rfl rfl (by decide) (by decide) ((hM.2 0 (by decide)).1) dX1_move_78 ?_
              refine sr_bast (v := sr_dg cf 0) hx hb hK hP hD hS 3 2 rfl rfl (by omega) (by decide) (sr_dg_nar cf hcf.1 0 (by decide)) dX1_move_79 (fun H locs hP hD hS => ?_)
              have hP : va_P (dC, dI) vwCl [(y, .inr (1, [.ref b1, .ref b2, .ref b3, .ref b4, .ref b5, .ref b6, .int (nI mo), .int (nI ac), .ref b7, .int kn])), (b1, .inl (t1, 2000, .inl (upd T mo (nI n1)))), (b2, .inl (t2, 2000, .inl (upd F mo (nI f1)))), (b3, .inl (t3, 6000, .inl (upd I ((3 * mo) + 0) (sr_dg cf 0)))), (b4, .inl (t4, 6000, .inl J)), (b5, .inl (t5, 3, .inl U)), (b6, .inl (t6, 3, .inl V)), (b7, .inl (t7, 2001, .inl S))] H := hP
              have hD : va_D A [(y, .inr (1, [.ref b1, .ref b2, .ref b3, .ref b4, .ref b5, .ref b6, .int (nI mo), .int (nI ac), .ref b7, .int kn])), (b1, .inl (t1, 2000, .inl (upd T mo (nI n1)))), (b2, .inl (t2, 2000, .inl (upd F mo (nI f1)))), (b3, .inl (t3, 6000, .inl (upd I ((3 * mo) + 0) (sr_dg cf 0)))), (b4, .inl (t4, 6000, .inl J)), (b5, .inl (t5, 3, .inl U)), (b6, .inl (t6, 3, .inl V)), (b7, .inl (t7, 2001, .inl S))] := hD
              refine lv_aload_n hx hb dX1_move_80 rfl (lv_at hl 1 rfl) ?_
              refine va_get (D := (dC, dI)) (ci := 1) (v := .ref b4) (C := RX1) (T := TX1) (N := 10) hx hb hts hin1 hown hK hP 0 rfl rfl 3 (by decide) (hts (.fieldLink RX1 20 "SpeedRowsModel" "lasts" "[B") (by decide +kernel)) (fun _ h9 => h9) rfl dX1_move_81 ?_
              refine lv_iconst (v := nI 3) hx hb dX1_move_84 (by decide) ?_
              refine lv_aload_n hx hb dX1_move_85 rfl (lv_at hl 1 rfl) ?_
              refine va_get (D := (dC, dI)) (ci := 1) (v := .int (nI mo)) (C := RX1) (T := TX1) (N := 10) hx hb hts hin1 hown hK hP 0 rfl rfl 6 (by decide) (hts (.fieldLink RX1 46 "SpeedRowsModel" "moves" "I") (by decide +kernel)) (fun _ h9 => h9) rfl dX1_move_86 ?_
              refine lv_imul hx hb dX1_move_89 ?_
              refine sr_ti (y := nI (3 * mo)) (pk_mul _ _) ?_
              refine lv_iload_n hx hb dX1_move_90 rfl (lv_at hl 0 rfl) ?_
              refine lv_iadd hx hb dX1_move_91 ?_
              refine sr_ti (y := nI ((3 * mo) + 0)) (nI_add _ _) ?_
              refine lv_aload_n hx hb dX1_move_92 rfl (lv_at hl 1 rfl) ?_
              refine va_get (D := (dC, dI)) (ci := 1) (v := .ref b6) (C := RX1) (T := TX1) (N := 10) hx hb hts hin1 hown hK hP 0 rfl rfl 5 (by decide) (hts (.fieldLink RX1 26 "SpeedRowsModel" "last" "[B") (by decide +kernel)) (fun _ h9 => h9) rfl dX1_move_93 ?_
              refine lv_iload_n hx hb dX1_move_96 rfl (lv_at hl 0 rfl) ?_
              refine sr_bald (v := sr_dg cl 0) hx hb hK hP 6 5 rfl rfl (by decide) (by decide) ((hM.2 0 (by decide)).2) dX1_move_97 ?_
              refine sr_bast (v := sr_dg cl 0) hx hb hK hP hD hS 4 3 rfl rfl (by omega) (by decide) (sr_dg_nar cl hcl.1 0 (by decide)) dX1_move_98 (fun H locs hP hD hS => ?_)
              have hP : va_P (dC, dI) vwCl [(y, .inr (1, [.ref b1, .ref b2, .ref b3, .ref b4, .ref b5, .ref b6, .int (nI mo), .int (nI ac), .ref b7, .int kn])), (b1, .inl (t1, 2000, .inl (upd T mo (nI n1)))), (b2, .inl (t2, 2000, .inl (upd F mo (nI f1)))), (b3, .inl (t3, 6000, .inl (upd I ((3 * mo) + 0) (sr_dg cf 0)))), (b4, .inl (t4, 6000, .inl (upd J ((3 * mo) + 0) (sr_dg cl 0)))), (b5, .inl (t5, 3, .inl U)), (b6, .inl (t6, 3, .inl V)), (b7, .inl (t7, 2001, .inl S))] H := hP
              have hD : va_D A [(y, .inr (1, [.ref b1, .ref b2, .ref b3, .ref b4, .ref b5, .ref b6, .int (nI mo), .int (nI ac), .ref b7, .int kn])), (b1, .inl (t1, 2000, .inl (upd T mo (nI n1)))), (b2, .inl (t2, 2000, .inl (upd F mo (nI f1)))), (b3, .inl (t3, 6000, .inl (upd I ((3 * mo) + 0) (sr_dg cf 0)))), (b4, .inl (t4, 6000, .inl (upd J ((3 * mo) + 0) (sr_dg cl 0)))), (b5, .inl (t5, 3, .inl U)), (b6, .inl (t6, 3, .inl V)), (b7, .inl (t7, 2001, .inl S))] := hD
              refine lv_iinc (v := nI 1) (lv' := [(3, .int (nI 1)), (0, .ref y), (1, .int (nI n1)), (2, .int (nI f1))]) hx hb dX1_move_99 hl (k := 0) rfl (by decide) (by decide) rfl (fun ls hl => ?_)
              refine lv_goto (tgt := 56) hx hb dX1_move_102 (by decide) ?_
              refine lv_iload_n hx hb dX1_move_56 rfl (lv_at hl 0 rfl) ?_
              refine lv_iconst (v := nI 3) hx hb dX1_move_57 (by decide) ?_
              refine lv_icmp_ge (tgt := 105) hx hb dX1_move_58 (by decide) (fun m1 => ?_) (fun m1 => ?_)
              · exact absurd m1 (by decide)
              · refine lv_aload_n hx hb dX1_move_61 rfl (lv_at hl 1 rfl) ?_
                refine va_get (D := (dC, dI)) (ci := 1) (v := .ref b3) (C := RX1) (T := TX1) (N := 10) hx hb hts hin1 hown hK hP 0 rfl rfl 2 (by decide) (hts (.fieldLink RX1 16 "SpeedRowsModel" "firsts" "[B") (by decide +kernel)) (fun _ h9 => h9) rfl dX1_move_62 ?_
                refine lv_iconst (v := nI 3) hx hb dX1_move_65 (by decide) ?_
                refine lv_aload_n hx hb dX1_move_66 rfl (lv_at hl 1 rfl) ?_
                refine va_get (D := (dC, dI)) (ci := 1) (v := .int (nI mo)) (C := RX1) (T := TX1) (N := 10) hx hb hts hin1 hown hK hP 0 rfl rfl 6 (by decide) (hts (.fieldLink RX1 46 "SpeedRowsModel" "moves" "I") (by decide +kernel)) (fun _ h9 => h9) rfl dX1_move_67 ?_
                refine lv_imul hx hb dX1_move_70 ?_
                refine sr_ti (y := nI (3 * mo)) (pk_mul _ _) ?_
                refine lv_iload_n hx hb dX1_move_71 rfl (lv_at hl 0 rfl) ?_
                refine lv_iadd hx hb dX1_move_72 ?_
                refine sr_ti (y := nI ((3 * mo) + 1)) (nI_add _ _) ?_
                refine lv_aload_n hx hb dX1_move_73 rfl (lv_at hl 1 rfl) ?_
                refine va_get (D := (dC, dI)) (ci := 1) (v := .ref b5) (C := RX1) (T := TX1) (N := 10) hx hb hts hin1 hown hK hP 0 rfl rfl 4 (by decide) (hts (.fieldLink RX1 23 "SpeedRowsModel" "first" "[B") (by decide +kernel)) (fun _ h9 => h9) rfl dX1_move_74 ?_
                refine lv_iload_n hx hb dX1_move_77 rfl (lv_at hl 0 rfl) ?_
                refine sr_bald (v := sr_dg cf 1) hx hb hK hP 5 4 rfl rfl (by decide) (by decide) ((hM.2 1 (by decide)).1) dX1_move_78 ?_
                refine sr_bast (v := sr_dg cf 1) hx hb hK hP hD hS 3 2 rfl rfl (by omega) (by decide) (sr_dg_nar cf hcf.1 1 (by decide)) dX1_move_79 (fun H locs hP hD hS => ?_)
                have hP : va_P (dC, dI) vwCl [(y, .inr (1, [.ref b1, .ref b2, .ref b3, .ref b4, .ref b5, .ref b6, .int (nI mo), .int (nI ac), .ref b7, .int kn])), (b1, .inl (t1, 2000, .inl (upd T mo (nI n1)))), (b2, .inl (t2, 2000, .inl (upd F mo (nI f1)))), (b3, .inl (t3, 6000, .inl (upd (upd I ((3 * mo) + 0) (sr_dg cf 0)) ((3 * mo) + 1) (sr_dg cf 1)))), (b4, .inl (t4, 6000, .inl (upd J ((3 * mo) + 0) (sr_dg cl 0)))), (b5, .inl (t5, 3, .inl U)), (b6, .inl (t6, 3, .inl V)), (b7, .inl (t7, 2001, .inl S))] H := hP
                have hD : va_D A [(y, .inr (1, [.ref b1, .ref b2, .ref b3, .ref b4, .ref b5, .ref b6, .int (nI mo), .int (nI ac), .ref b7, .int kn])), (b1, .inl (t1, 2000, .inl (upd T mo (nI n1)))), (b2, .inl (t2, 2000, .inl (upd F mo (nI f1)))), (b3, .inl (t3, 6000, .inl (upd (upd I ((3 * mo) + 0) (sr_dg cf 0)) ((3 * mo) + 1) (sr_dg cf 1)))), (b4, .inl (t4, 6000, .inl (upd J ((3 * mo) + 0) (sr_dg cl 0)))), (b5, .inl (t5, 3, .inl U)), (b6, .inl (t6, 3, .inl V)), (b7, .inl (t7, 2001, .inl S))] := hD
                refine lv_aload_n hx hb dX1_move_80 rfl (lv_at hl 1 rfl) ?_
                refine va_get (D := (dC, dI)) (ci := 1) (v := .ref b4) (C := RX1) (T := TX1) (N := 10) hx hb hts hin1 hown hK hP 0 rfl rfl 3 (by decide) (hts (.fieldLink RX1 20 "SpeedRowsModel" "lasts" "[B") (by decide +kernel)) (fun _ h9 => h9) rfl dX1_move_81 ?_
                refine lv_iconst (v := nI 3) hx hb dX1_move_84 (by decide) ?_
                refine lv_aload_n hx hb dX1_move_85 rfl (lv_at hl 1 rfl) ?_
                refine va_get (D := (dC, dI)) (ci := 1) (v := .int (nI mo)) (C := RX1) (T := TX1) (N := 10) hx hb hts hin1 hown hK hP 0 rfl rfl 6 (by decide) (hts (.fieldLink RX1 46 "SpeedRowsModel" "moves" "I") (by decide +kernel)) (fun _ h9 => h9) rfl dX1_move_86 ?_
                refine lv_imul hx hb dX1_move_89 ?_
                refine sr_ti (y := nI (3 * mo)) (pk_mul _ _) ?_
                refine lv_iload_n hx hb dX1_move_90 rfl (lv_at hl 0 rfl) ?_
                refine lv_iadd hx hb dX1_move_91 ?_
                refine sr_ti (y := nI ((3 * mo) + 1)) (nI_add _ _) ?_
                refine lv_aload_n hx hb dX1_move_92 rfl (lv_at hl 1 rfl) ?_
                refine va_get (D := (dC, dI)) (ci := 1) (v := .ref b6) (C := RX1) (T := TX1) (N := 10) hx hb hts hin1 hown hK hP 0 rfl rfl 5 (by decide) (hts (.fieldLink RX1 26 "SpeedRowsModel" "last" "[B") (by decide +kernel)) (fun _ h9 => h9) rfl dX1_move_93 ?_
                refine lv_iload_n hx hb dX1_move_96 rfl (lv_at hl 0 rfl) ?_
                refine sr_bald (v := sr_dg cl 1) hx hb hK hP 6 5 rfl rfl (by decide) (by decide) ((hM.2 1 (by decide)).2) dX1_move_97 ?_
                refine sr_bast (v := sr_dg cl 1) hx hb hK hP hD hS 4 3 rfl rfl (by omega) (by decide) (sr_dg_nar cl hcl.1 1 (by decide)) dX1_move_98 (fun H locs hP hD hS => ?_)
                have hP : va_P (dC, dI) vwCl [(y, .inr (1, [.ref b1, .ref b2, .ref b3, .ref b4, .ref b5, .ref b6, .int (nI mo), .int (nI ac), .ref b7, .int kn])), (b1, .inl (t1, 2000, .inl (upd T mo (nI n1)))), (b2, .inl (t2, 2000, .inl (upd F mo (nI f1)))), (b3, .inl (t3, 6000, .inl (upd (upd I ((3 * mo) + 0) (sr_dg cf 0)) ((3 * mo) + 1) (sr_dg cf 1)))), (b4, .inl (t4, 6000, .inl (upd (upd J ((3 * mo) + 0) (sr_dg cl 0)) ((3 * mo) + 1) (sr_dg cl 1)))), (b5, .inl (t5, 3, .inl U)), (b6, .inl (t6, 3, .inl V)), (b7, .inl (t7, 2001, .inl S))] H := hP
                have hD : va_D A [(y, .inr (1, [.ref b1, .ref b2, .ref b3, .ref b4, .ref b5, .ref b6, .int (nI mo), .int (nI ac), .ref b7, .int kn])), (b1, .inl (t1, 2000, .inl (upd T mo (nI n1)))), (b2, .inl (t2, 2000, .inl (upd F mo (nI f1)))), (b3, .inl (t3, 6000, .inl (upd (upd I ((3 * mo) + 0) (sr_dg cf 0)) ((3 * mo) + 1) (sr_dg cf 1)))), (b4, .inl (t4, 6000, .inl (upd (upd J ((3 * mo) + 0) (sr_dg cl 0)) ((3 * mo) + 1) (sr_dg cl 1)))), (b5, .inl (t5, 3, .inl U)), (b6, .inl (t6, 3, .inl V)), (b7, .inl (t7, 2001, .inl S))] := hD
                refine lv_iinc (v := nI 2) (lv' := [(3, .int (nI 2)), (0, .ref y), (1, .int (nI n1)), (2, .int (nI f1))]) hx hb dX1_move_99 hl (k := 0) rfl (by decide) (by decide) rfl (fun ls hl => ?_)
                refine lv_goto (tgt := 56) hx hb dX1_move_102 (by decide) ?_
                refine lv_iload_n hx hb dX1_move_56 rfl (lv_at hl 0 rfl) ?_
                refine lv_iconst (v := nI 3) hx hb dX1_move_57 (by decide) ?_
                refine lv_icmp_ge (tgt := 105) hx hb dX1_move_58 (by decide) (fun m2 => ?_) (fun m2 => ?_)
                · exact absurd m2 (by decide)
                · refine lv_aload_n hx hb dX1_move_61 rfl (lv_at hl 1 rfl) ?_
                  refine va_get (D := (dC, dI)) (ci := 1) (v := .ref b3) (C := RX1) (T := TX1) (N := 10) hx hb hts hin1 hown hK hP 0 rfl rfl 2 (by decide) (hts (.fieldLink RX1 16 "SpeedRowsModel" "firsts" "[B") (by decide +kernel)) (fun _ h9 => h9) rfl dX1_move_62 ?_
                  refine lv_iconst (v := nI 3) hx hb dX1_move_65 (by decide) ?_
                  refine lv_aload_n hx hb dX1_move_66 rfl (lv_at hl 1 rfl) ?_
                  refine va_get (D := (dC, dI)) (ci := 1) (v := .int (nI mo)) (C := RX1) (T := TX1) (N := 10) hx hb hts hin1 hown hK hP 0 rfl rfl 6 (by decide) (hts (.fieldLink RX1 46 "SpeedRowsModel" "moves" "I") (by decide +kernel)) (fun _ h9 => h9) rfl dX1_move_67 ?_
                  refine lv_imul hx hb dX1_move_70 ?_
                  refine sr_ti (y := nI (3 * mo)) (pk_mul _ _) ?_
                  refine lv_iload_n hx hb dX1_move_71 rfl (lv_at hl 0 rfl) ?_
                  refine lv_iadd hx hb dX1_move_72 ?_
                  refine sr_ti (y := nI ((3 * mo) + 2)) (nI_add _ _) ?_
                  refine lv_aload_n hx hb dX1_move_73 rfl (lv_at hl 1 rfl) ?_
                  refine va_get (D := (dC, dI)) (ci := 1) (v := .ref b5) (C := RX1) (T := TX1) (N := 10) hx hb hts hin1 hown hK hP 0 rfl rfl 4 (by decide) (hts (.fieldLink RX1 23 "SpeedRowsModel" "first" "[B") (by decide +kernel)) (fun _ h9 => h9) rfl dX1_move_74 ?_
                  refine lv_iload_n hx hb dX1_move_77 rfl (lv_at hl 0 rfl) ?_
                  refine sr_bald (v := sr_dg cf 2) hx hb hK hP 5 4 rfl rfl (by decide) (by decide) ((hM.2 2 (by decide)).1) dX1_move_78 ?_
                  refine sr_bast (v := sr_dg cf 2) hx hb hK hP hD hS 3 2 rfl rfl (by omega) (by decide) (sr_dg_nar cf hcf.1 2 (by decide)) dX1_move_79 (fun H locs hP hD hS => ?_)
                  have hP : va_P (dC, dI) vwCl [(y, .inr (1, [.ref b1, .ref b2, .ref b3, .ref b4, .ref b5, .ref b6, .int (nI mo), .int (nI ac), .ref b7, .int kn])), (b1, .inl (t1, 2000, .inl (upd T mo (nI n1)))), (b2, .inl (t2, 2000, .inl (upd F mo (nI f1)))), (b3, .inl (t3, 6000, .inl (upd (upd (upd I ((3 * mo) + 0) (sr_dg cf 0)) ((3 * mo) + 1) (sr_dg cf 1)) ((3 * mo) + 2) (sr_dg cf 2)))), (b4, .inl (t4, 6000, .inl (upd (upd J ((3 * mo) + 0) (sr_dg cl 0)) ((3 * mo) + 1) (sr_dg cl 1)))), (b5, .inl (t5, 3, .inl U)), (b6, .inl (t6, 3, .inl V)), (b7, .inl (t7, 2001, .inl S))] H := hP
                  have hD : va_D A [(y, .inr (1, [.ref b1, .ref b2, .ref b3, .ref b4, .ref b5, .ref b6, .int (nI mo), .int (nI ac), .ref b7, .int kn])), (b1, .inl (t1, 2000, .inl (upd T mo (nI n1)))), (b2, .inl (t2, 2000, .inl (upd F mo (nI f1)))), (b3, .inl (t3, 6000, .inl (upd (upd (upd I ((3 * mo) + 0) (sr_dg cf 0)) ((3 * mo) + 1) (sr_dg cf 1)) ((3 * mo) + 2) (sr_dg cf 2)))), (b4, .inl (t4, 6000, .inl (upd (upd J ((3 * mo) + 0) (sr_dg cl 0)) ((3 * mo) + 1) (sr_dg cl 1)))), (b5, .inl (t5, 3, .inl U)), (b6, .inl (t6, 3, .inl V)), (b7, .inl (t7, 2001, .inl S))] := hD
                  refine lv_aload_n hx hb dX1_move_80 rfl (lv_at hl 1 rfl) ?_
                  refine va_get (D := (dC, dI)) (ci := 1) (v := .ref b4) (C := RX1) (T := TX1) (N := 10) hx hb hts hin1 hown hK hP 0 rfl rfl 3 (by decide) (hts (.fieldLink RX1 20 "SpeedRowsModel" "lasts" "[B") (by decide +kernel)) (fun _ h9 => h9) rfl dX1_move_81 ?_
                  refine lv_iconst (v := nI 3) hx hb dX1_move_84 (by decide) ?_
                  refine lv_aload_n hx hb dX1_move_85 rfl (lv_at hl 1 rfl) ?_
                  refine va_get (D := (dC, dI)) (ci := 1) (v := .int (nI mo)) (C := RX1) (T := TX1) (N := 10) hx hb hts hin1 hown hK hP 0 rfl rfl 6 (by decide) (hts (.fieldLink RX1 46 "SpeedRowsModel" "moves" "I") (by decide +kernel)) (fun _ h9 => h9) rfl dX1_move_86 ?_
                  refine lv_imul hx hb dX1_move_89 ?_
                  refine sr_ti (y := nI (3 * mo)) (pk_mul _ _) ?_
                  refine lv_iload_n hx hb dX1_move_90 rfl (lv_at hl 0 rfl) ?_
                  refine lv_iadd hx hb dX1_move_91 ?_
                  refine sr_ti (y := nI ((3 * mo) + 2)) (nI_add _ _) ?_
                  refine lv_aload_n hx hb dX1_move_92 rfl (lv_at hl 1 rfl) ?_
                  refine va_get (D := (dC, dI)) (ci := 1) (v := .ref b6) (C := RX1) (T := TX1) (N := 10) hx hb hts hin1 hown hK hP 0 rfl rfl 5 (by decide) (hts (.fieldLink RX1 26 "SpeedRowsModel" "last" "[B") (by decide +kernel)) (fun _ h9 => h9) rfl dX1_move_93 ?_
                  refine lv_iload_n hx hb dX1_move_96 rfl (lv_at hl 0 rfl) ?_
                  refine sr_bald (v := sr_dg cl 2) hx hb hK hP 6 5 rfl rfl (by decide) (by decide) ((hM.2 2 (by decide)).2) dX1_move_97 ?_
                  refine sr_bast (v := sr_dg cl 2) hx hb hK hP hD hS 4 3 rfl rfl (by omega) (by decide) (sr_dg_nar cl hcl.1 2 (by decide)) dX1_move_98 (fun H locs hP hD hS => ?_)
                  have hP : va_P (dC, dI) vwCl [(y, .inr (1, [.ref b1, .ref b2, .ref b3, .ref b4, .ref b5, .ref b6, .int (nI mo), .int (nI ac), .ref b7, .int kn])), (b1, .inl (t1, 2000, .inl (upd T mo (nI n1)))), (b2, .inl (t2, 2000, .inl (upd F mo (nI f1)))), (b3, .inl (t3, 6000, .inl (upd (upd (upd I ((3 * mo) + 0) (sr_dg cf 0)) ((3 * mo) + 1) (sr_dg cf 1)) ((3 * mo) + 2) (sr_dg cf 2)))), (b4, .inl (t4, 6000, .inl (upd (upd (upd J ((3 * mo) + 0) (sr_dg cl 0)) ((3 * mo) + 1) (sr_dg cl 1)) ((3 * mo) + 2) (sr_dg cl 2)))), (b5, .inl (t5, 3, .inl U)), (b6, .inl (t6, 3, .inl V)), (b7, .inl (t7, 2001, .inl S))] H := hP
                  have hD : va_D A [(y, .inr (1, [.ref b1, .ref b2, .ref b3, .ref b4, .ref b5, .ref b6, .int (nI mo), .int (nI ac), .ref b7, .int kn])), (b1, .inl (t1, 2000, .inl (upd T mo (nI n1)))), (b2, .inl (t2, 2000, .inl (upd F mo (nI f1)))), (b3, .inl (t3, 6000, .inl (upd (upd (upd I ((3 * mo) + 0) (sr_dg cf 0)) ((3 * mo) + 1) (sr_dg cf 1)) ((3 * mo) + 2) (sr_dg cf 2)))), (b4, .inl (t4, 6000, .inl (upd (upd (upd J ((3 * mo) + 0) (sr_dg cl 0)) ((3 * mo) + 1) (sr_dg cl 1)) ((3 * mo) + 2) (sr_dg cl 2)))), (b5, .inl (t5, 3, .inl U)), (b6, .inl (t6, 3, .inl V)), (b7, .inl (t7, 2001, .inl S))] := hD
                  refine lv_iinc (v := nI 3) (lv' := [(3, .int (nI 3)), (0, .ref y), (1, .int (nI n1)), (2, .int (nI f1))]) hx hb dX1_move_99 hl (k := 0) rfl (by decide) (by decide) rfl (fun ls hl => ?_)
                  refine lv_goto (tgt := 56) hx hb dX1_move_102 (by decide) ?_
                  refine lv_iload_n hx hb dX1_move_56 rfl (lv_at hl 0 rfl) ?_
                  refine lv_iconst (v := nI 3) hx hb dX1_move_57 (by decide) ?_
                  refine lv_icmp_ge (tgt := 105) hx hb dX1_move_58 (by decide) (fun m3 => ?_) (fun m3 => ?_)
                  · refine lv_aload_n hx hb dX1_move_105 rfl (lv_at hl 1 rfl) ?_
                    refine lv_dup hx hb dX1_move_106 rfl ?_
                    refine va_get (D := (dC, dI)) (ci := 1) (v := .int (nI mo)) (C := RX1) (T := TX1) (N := 10) hx hb hts hin1 hown hK hP 0 rfl rfl 6 (by decide) (hts (.fieldLink RX1 46 "SpeedRowsModel" "moves" "I") (by decide +kernel)) (fun _ h9 => h9) rfl dX1_move_107 ?_
                    refine lv_iconst (v := nI 1) hx hb dX1_move_110 (by decide) ?_
                    refine lv_iadd hx hb dX1_move_111 ?_
                    refine sr_ti (y := nI (mo + 1)) (nI_add _ _) ?_
                    refine va_put (D := (dC, dI)) (ci := 1) (v := .int (nI (mo + 1))) (ty := .int) (C := RX1) (T := TX1) (N := 10) hx hb hts hin1 tyX1 tyX1_ok nmX1 hown hK hP hD hS 0 rfl rfl 6 (by decide) (hts (.fieldLink RX1 46 "SpeedRowsModel" "moves" "I") (by decide +kernel)) (fun _ h9 => h9) rfl (by decide +kernel) rfl rfl (Nat.le_of_ble_eq_true rfl) dX1_move_112 (fun H locs hP hD hS => ?_)
                    have hP : va_P (dC, dI) vwCl [(y, .inr (1, [.ref b1, .ref b2, .ref b3, .ref b4, .ref b5, .ref b6, .int (nI (mo + 1)), .int (nI ac), .ref b7, .int kn])), (b1, .inl (t1, 2000, .inl (upd T mo (nI n1)))), (b2, .inl (t2, 2000, .inl (upd F mo (nI f1)))), (b3, .inl (t3, 6000, .inl (upd (upd (upd I ((3 * mo) + 0) (sr_dg cf 0)) ((3 * mo) + 1) (sr_dg cf 1)) ((3 * mo) + 2) (sr_dg cf 2)))), (b4, .inl (t4, 6000, .inl (upd (upd (upd J ((3 * mo) + 0) (sr_dg cl 0)) ((3 * mo) + 1) (sr_dg cl 1)) ((3 * mo) + 2) (sr_dg cl 2)))), (b5, .inl (t5, 3, .inl U)), (b6, .inl (t6, 3, .inl V)), (b7, .inl (t7, 2001, .inl S))] H := hP
                    have hD : va_D A [(y, .inr (1, [.ref b1, .ref b2, .ref b3, .ref b4, .ref b5, .ref b6, .int (nI (mo + 1)), .int (nI ac), .ref b7, .int kn])), (b1, .inl (t1, 2000, .inl (upd T mo (nI n1)))), (b2, .inl (t2, 2000, .inl (upd F mo (nI f1)))), (b3, .inl (t3, 6000, .inl (upd (upd (upd I ((3 * mo) + 0) (sr_dg cf 0)) ((3 * mo) + 1) (sr_dg cf 1)) ((3 * mo) + 2) (sr_dg cf 2)))), (b4, .inl (t4, 6000, .inl (upd (upd (upd J ((3 * mo) + 0) (sr_dg cl 0)) ((3 * mo) + 1) (sr_dg cl 1)) ((3 * mo) + 2) (sr_dg cl 2)))), (b5, .inl (t5, 3, .inl U)), (b6, .inl (t6, 3, .inl V)), (b7, .inl (t7, 2001, .inl S))] := hD
                    refine lv_aload_n hx hb dX1_move_115 rfl (lv_at hl 1 rfl) ?_
                    refine lv_iconst (v := 0) hx hb dX1_move_116 (by decide) ?_
                    refine va_put (D := (dC, dI)) (ci := 1) (v := .int 0) (ty := .boolean) (C := RX1) (T := TX1) (N := 10) hx hb hts hin1 tyX1 tyX1_ok nmX1 hown hK hP hD hS 0 rfl rfl 9 (by decide) (hts (.fieldLink RX1 49 "SpeedRowsModel" "isKnown" "Z") (by decide +kernel)) (fun _ h9 => h9) rfl (by decide +kernel) rfl rfl (Nat.le_of_ble_eq_true rfl) dX1_move_117 (fun H locs hP hD hS => ?_)
                    have hP : va_P (dC, dI) vwCl [(y, .inr (1, [.ref b1, .ref b2, .ref b3, .ref b4, .ref b5, .ref b6, .int (nI (mo + 1)), .int (nI ac), .ref b7, .int 0])), (b1, .inl (t1, 2000, .inl (upd T mo (nI n1)))), (b2, .inl (t2, 2000, .inl (upd F mo (nI f1)))), (b3, .inl (t3, 6000, .inl (upd (upd (upd I ((3 * mo) + 0) (sr_dg cf 0)) ((3 * mo) + 1) (sr_dg cf 1)) ((3 * mo) + 2) (sr_dg cf 2)))), (b4, .inl (t4, 6000, .inl (upd (upd (upd J ((3 * mo) + 0) (sr_dg cl 0)) ((3 * mo) + 1) (sr_dg cl 1)) ((3 * mo) + 2) (sr_dg cl 2)))), (b5, .inl (t5, 3, .inl U)), (b6, .inl (t6, 3, .inl V)), (b7, .inl (t7, 2001, .inl S))] H := hP
                    have hD : va_D A [(y, .inr (1, [.ref b1, .ref b2, .ref b3, .ref b4, .ref b5, .ref b6, .int (nI (mo + 1)), .int (nI ac), .ref b7, .int 0])), (b1, .inl (t1, 2000, .inl (upd T mo (nI n1)))), (b2, .inl (t2, 2000, .inl (upd F mo (nI f1)))), (b3, .inl (t3, 6000, .inl (upd (upd (upd I ((3 * mo) + 0) (sr_dg cf 0)) ((3 * mo) + 1) (sr_dg cf 1)) ((3 * mo) + 2) (sr_dg cf 2)))), (b4, .inl (t4, 6000, .inl (upd (upd (upd J ((3 * mo) + 0) (sr_dg cl 0)) ((3 * mo) + 1) (sr_dg cl 1)) ((3 * mo) + 2) (sr_dg cl 2)))), (b5, .inl (t5, 3, .inl U)), (b6, .inl (t6, 3, .inl V)), (b7, .inl (t7, 2001, .inl S))] := hD
                    refine lv_aload_n hx hb dX1_move_120 rfl (lv_at hl 1 rfl) ?_
                    refine va_get (D := (dC, dI)) (ci := 1) (v := .int (nI (mo + 1))) (C := RX1) (T := TX1) (N := 10) hx hb hts hin1 hown hK hP 0 rfl rfl 6 (by decide) (hts (.fieldLink RX1 46 "SpeedRowsModel" "moves" "I") (by decide +kernel)) (fun _ h9 => h9) rfl dX1_move_121 ?_
                    exact W.iret (v := nI (mo + 1)) hx hb hr (fun t ht hW => ⟨⟨nI (mo + 1), _, rfl, Or.inl ⟨⟨hn, hf, hm⟩, rfl, _, _, _, _, rfl, by rw [nI_clamp (by omega), nI_clamp (by omega)]; exact sr_MI_push hM n1 f1⟩, by rw [ht]; exact hP, va_K.moved hW.alike hK, hD⟩, hS.F ht⟩) hS.2.2 dX1_move_124
                  · exact absurd (by decide) m3
          · refine lv_iconst (v := (-1)) hx hb dX1_move_32 (by decide) ?_
            exact W.iret (v := (-1)) hx hb hr (fun t ht hW => ⟨⟨(-1), _, rfl, Or.inr ⟨fun q => absurd ((nI_eq (by omega) (by omega)).mp k4) (by omega), rfl, rfl⟩, by rw [ht]; exact hP, va_K.moved hW.alike hK, hD⟩, hS.F ht⟩) hS.2.2 dX1_move_33
set_option maxHeartbeats 400000 in
set_option maxRecDepth 100000 in
theorem c_X1_init (l : Launch) (dC : Nat → ClassId) (dI : Nat → Nat → Nat) (y sz : Nat) : Met l yX1_init wsX1_init ({ frames := 1, cells := 7, slots := 18007, locals := 12 }) (sr_pre dC dI [] [(y, .inr (1, [.null, .null, .null, .null, .null, .null, .int 0, .int 0, .null, .int 0]))] sz [.ref y]) (va_Qv (fun (u : va_W × List (ClassId × FieldType)) => ∃ (b1 b2 b3 b4 b5 b6 b7 : Nat) (t1 t2 t3 t4 t5 t6 t7 : ClassId), u = (sr_wM y b1 b2 b3 b4 b5 b6 b7 t1 t2 t3 t4 t5 t6 t7 0 100 0 (fun _ => 0) (fun _ => 0) (fun _ => 0) (fun _ => 0) (upd (fun _ => 0) 0 1) (upd (fun _ => 0) 0 1) (fun _ => 0), sr_tM t1 t2 t3 t4 t5 t6 t7)) (fun u t => va_P (dC, dI) vwCl u.1 t.heap ∧ va_K (dC, dI) vwCl u.2 t ∧ va_D (va_A [(y, .inr (1, [.null, .null, .null, .null, .null, .null, .int 0, .int 0, .null, .int 0]))] sz) u.1) (va_A [(y, .inr (1, [.null, .null, .null, .null, .null, .null, .int 0, .int 0, .null, .int 0]))] sz)) 7 18007 (va_A [(y, .inr (1, [.null, .null, .null, .null, .null, .null, .int 0, .int 0, .null, .int 0]))] sz) := by
  refine Met.ofW (cc := cX1_init) (maxL := 1) (ret := none) (by decide) rfl ?_
  intro p e s m args below meth c s₁ B hml hv
  obtain ⟨rfl, hsz, hP, hK, hD0⟩ := hv
  have hx := B.exec
  have hb := B.bytes
  have hr := B.returns
  have hts := atoms_spec (ws := wsX1_init) B.pre
  have hown : s.vm.findClass RX1 = some m.cls := findClass_of_methodNamed B.named
  have hlocks := B.notSynchronized
  have hin : meth.name = "<init>" := (name_of_methodNamed B.named B.method).1
  subst hsz
  have hD := hD0.self (sz := s.heap.size)
  generalize hAe : va_A [(y, .inr (1, [.null, .null, .null, .null, .null, .null, .int 0, .int 0, .null, .int 0]))] s.heap.size = A at hD ⊢
  have hA : ∀ q : Nat, s.heap.size ≤ q → A q := fun q h => by rw [← hAe]; exact Or.inr h
  have hS : va_S A s.heap s.heap [] := va_S.rf
  have hP : va_P (dC, dI) vwCl [(y, .inr (1, [.null, .null, .null, .null, .null, .null, .int 0, .int 0, .null, .int 0]))] s.heap := hP
  have hD : va_D A [(y, .inr (1, [.null, .null, .null, .null, .null, .null, .int 0, .int 0, .null, .int 0]))] := hD
  have hK : va_K (dC, dI) vwCl [] s := hK
  have hin1 : ∀ w ∈ u_ws RX1 TX1 10, w ∈ wsX1_init := by decide +kernel
  have hl := lv_entry ([.ref y]) (n := 1) (Nat.le_of_ble_eq_true rfl)
  rw [lg_entry_eq]
  generalize (lg_sl ([.ref y]) ++ List.replicate (1 - (lg_sl ([.ref y])).length) Slot.unset).toArray = ls at hl ⊢
  have hl : lv_has ls 1 [(0, .ref y)] := hl
  refine lv_aload_n hx hb dX1_init_0 rfl (lv_at hl 0 rfl) ?_
  refine W.objInit hx hb hown (hts (.methodLink RX1 1 objectInit) (by decide +kernel)) (hts (.instanceMethod objectInit) (by decide +kernel)) (hts _ (List.mem_cons_of_mem _ (List.mem_append_left _ (List.mem_of_getElem? (i := 2) rfl)))) rfl (by rw [hml]; exact hl.1) rfl dX1_init_1 (Nat.le_of_ble_eq_true rfl) (Nat.le_of_ble_eq_true rfl) ?_
  refine W.eq (g2 := F0 m 4 ls []) rfl ?_
  refine lv_aload_n hx hb dX1_init_4 rfl (lv_at hl 0 rfl) ?_
  refine lv_sipush (v := nI 2000) hx hb dX1_init_5 (by decide) ?_
  refine va_newa (atype := .int) (ty := .int) (N' := 2000) (a0 := (2000, .inl (fun _ => 0))) hx hb (hts (.arrayClass .int) (by decide +kernel)) rfl hK hP hD hS hA (sr_ca_i 2000) (nI_pos (by omega)) (nI_clamp (by omega)) (by show 2000 * 4 ≤ 536870912; omega) (by show _ ≤ 7; omega) (by show _ ≤ 18007; omega) dX1_init_8 (fun b1 t1 H hK hP hD hS => ?_)
  have hK : va_K (dC, dI) vwCl [(t1, .int)] s := hK
  have hP : va_P (dC, dI) vwCl [(y, .inr (1, [.null, .null, .null, .null, .null, .null, .int 0, .int 0, .null, .int 0])), (b1, .inl (t1, 2000, .inl (fun _ => 0)))] H := hP
  have hD : va_D A [(y, .inr (1, [.null, .null, .null, .null, .null, .null, .int 0, .int 0, .null, .int 0])), (b1, .inl (t1, 2000, .inl (fun _ => 0)))] := hD
  refine va_putF (D := (dC, dI)) (ci := 1) (v := .ref b1) (ty := (.array .int)) (C := RX1) (T := TX1) (N := 10) hx hb hts hin1 tyX1 tyX1_ok nmX1 hown hK hP hD hS 0 rfl rfl 0 (by decide) (hts (.fieldLink RX1 9 "SpeedRowsModel" "ticks" "[I") (by decide +kernel)) (fun _ h9 => h9) rfl hin rfl (by decide +kernel) rfl rfl (Nat.le_of_ble_eq_true rfl) dX1_init_10 (fun H locs hP hD hS => ?_)
  have hP : va_P (dC, dI) vwCl [(y, .inr (1, [.ref b1, .null, .null, .null, .null, .null, .int 0, .int 0, .null, .int 0])), (b1, .inl (t1, 2000, .inl (fun _ => 0)))] H := hP
  have hD : va_D A [(y, .inr (1, [.ref b1, .null, .null, .null, .null, .null, .int 0, .int 0, .null, .int 0])), (b1, .inl (t1, 2000, .inl (fun _ => 0)))] := hD
  refine lv_aload_n hx hb dX1_init_13 rfl (lv_at hl 0 rfl) ?_
  refine lv_sipush (v := nI 2000) hx hb dX1_init_14 (by decide) ?_
  refine va_newa (atype := .int) (ty := .int) (N' := 2000) (a0 := (2000, .inl (fun _ => 0))) hx hb (hts (.arrayClass .int) (by decide +kernel)) rfl hK hP hD hS hA (sr_ca_i 2000) (nI_pos (by omega)) (nI_clamp (by omega)) (by show 2000 * 4 ≤ 536870912; omega) (by show _ ≤ 7; omega) (by show _ ≤ 18007; omega) dX1_init_17 (fun b2 t2 H hK hP hD hS => ?_)
  have hK : va_K (dC, dI) vwCl [(t1, .int), (t2, .int)] s := hK
  have hP : va_P (dC, dI) vwCl [(y, .inr (1, [.ref b1, .null, .null, .null, .null, .null, .int 0, .int 0, .null, .int 0])), (b1, .inl (t1, 2000, .inl (fun _ => 0))), (b2, .inl (t2, 2000, .inl (fun _ => 0)))] H := hP
  have hD : va_D A [(y, .inr (1, [.ref b1, .null, .null, .null, .null, .null, .int 0, .int 0, .null, .int 0])), (b1, .inl (t1, 2000, .inl (fun _ => 0))), (b2, .inl (t2, 2000, .inl (fun _ => 0)))] := hD
  refine va_putF (D := (dC, dI)) (ci := 1) (v := .ref b2) (ty := (.array .int)) (C := RX1) (T := TX1) (N := 10) hx hb hts hin1 tyX1 tyX1_ok nmX1 hown hK hP hD hS 0 rfl rfl 1 (by decide) (hts (.fieldLink RX1 13 "SpeedRowsModel" "feeds" "[I") (by decide +kernel)) (fun _ h9 => h9) rfl hin rfl (by decide +kernel) rfl rfl (Nat.le_of_ble_eq_true rfl) dX1_init_19 (fun H locs hP hD hS => ?_)
  have hP : va_P (dC, dI) vwCl [(y, .inr (1, [.ref b1, .ref b2, .null, .null, .null, .null, .int 0, .int 0, .null, .int 0])), (b1, .inl (t1, 2000, .inl (fun _ => 0))), (b2, .inl (t2, 2000, .inl (fun _ => 0)))] H := hP
  have hD : va_D A [(y, .inr (1, [.ref b1, .ref b2, .null, .null, .null, .null, .int 0, .int 0, .null, .int 0])), (b1, .inl (t1, 2000, .inl (fun _ => 0))), (b2, .inl (t2, 2000, .inl (fun _ => 0)))] := hD
  refine lv_aload_n hx hb dX1_init_22 rfl (lv_at hl 0 rfl) ?_
  refine lv_sipush (v := nI 6000) hx hb dX1_init_23 (by decide) ?_
  refine va_newa (atype := .byte) (ty := .byte) (N' := 6000) (a0 := (6000, .inl (fun _ => 0))) hx hb (hts (.arrayClass .byte) (by decide +kernel)) rfl hK hP hD hS hA (sr_ca_b 6000) (nI_pos (by omega)) (nI_clamp (by omega)) (by show 6000 * 1 ≤ 536870912; omega) (by show _ ≤ 7; omega) (by show _ ≤ 18007; omega) dX1_init_26 (fun b3 t3 H hK hP hD hS => ?_)
  have hK : va_K (dC, dI) vwCl [(t1, .int), (t2, .int), (t3, .byte)] s := hK
  have hP : va_P (dC, dI) vwCl [(y, .inr (1, [.ref b1, .ref b2, .null, .null, .null, .null, .int 0, .int 0, .null, .int 0])), (b1, .inl (t1, 2000, .inl (fun _ => 0))), (b2, .inl (t2, 2000, .inl (fun _ => 0))), (b3, .inl (t3, 6000, .inl (fun _ => 0)))] H := hP
  have hD : va_D A [(y, .inr (1, [.ref b1, .ref b2, .null, .null, .null, .null, .int 0, .int 0, .null, .int 0])), (b1, .inl (t1, 2000, .inl (fun _ => 0))), (b2, .inl (t2, 2000, .inl (fun _ => 0))), (b3, .inl (t3, 6000, .inl (fun _ => 0)))] := hD
  refine va_putF (D := (dC, dI)) (ci := 1) (v := .ref b3) (ty := (.array .byte)) (C := RX1) (T := TX1) (N := 10) hx hb hts hin1 tyX1 tyX1_ok nmX1 hown hK hP hD hS 0 rfl rfl 2 (by decide) (hts (.fieldLink RX1 16 "SpeedRowsModel" "firsts" "[B") (by decide +kernel)) (fun _ h9 => h9) rfl hin rfl (by decide +kernel) rfl rfl (Nat.le_of_ble_eq_true rfl) dX1_init_28 (fun H locs hP hD hS => ?_)
  have hP : va_P (dC, dI) vwCl [(y, .inr (1, [.ref b1, .ref b2, .ref b3, .null, .null, .null, .int 0, .int 0, .null, .int 0])), (b1, .inl (t1, 2000, .inl (fun _ => 0))), (b2, .inl (t2, 2000, .inl (fun _ => 0))), (b3, .inl (t3, 6000, .inl (fun _ => 0)))] H := hP
  have hD : va_D A [(y, .inr (1, [.ref b1, .ref b2, .ref b3, .null, .null, .null, .int 0, .int 0, .null, .int 0])), (b1, .inl (t1, 2000, .inl (fun _ => 0))), (b2, .inl (t2, 2000, .inl (fun _ => 0))), (b3, .inl (t3, 6000, .inl (fun _ => 0)))] := hD
  refine lv_aload_n hx hb dX1_init_31 rfl (lv_at hl 0 rfl) ?_
  refine lv_sipush (v := nI 6000) hx hb dX1_init_32 (by decide) ?_
  refine va_newa (atype := .byte) (ty := .byte) (N' := 6000) (a0 := (6000, .inl (fun _ => 0))) hx hb (hts (.arrayClass .byte) (by decide +kernel)) rfl hK hP hD hS hA (sr_ca_b 6000) (nI_pos (by omega)) (nI_clamp (by omega)) (by show 6000 * 1 ≤ 536870912; omega) (by show _ ≤ 7; omega) (by show _ ≤ 18007; omega) dX1_init_35 (fun b4 t4 H hK hP hD hS => ?_)
  have hK : va_K (dC, dI) vwCl [(t1, .int), (t2, .int), (t3, .byte), (t4, .byte)] s := hK
  have hP : va_P (dC, dI) vwCl [(y, .inr (1, [.ref b1, .ref b2, .ref b3, .null, .null, .null, .int 0, .int 0, .null, .int 0])), (b1, .inl (t1, 2000, .inl (fun _ => 0))), (b2, .inl (t2, 2000, .inl (fun _ => 0))), (b3, .inl (t3, 6000, .inl (fun _ => 0))), (b4, .inl (t4, 6000, .inl (fun _ => 0)))] H := hP
  have hD : va_D A [(y, .inr (1, [.ref b1, .ref b2, .ref b3, .null, .null, .null, .int 0, .int 0, .null, .int 0])), (b1, .inl (t1, 2000, .inl (fun _ => 0))), (b2, .inl (t2, 2000, .inl (fun _ => 0))), (b3, .inl (t3, 6000, .inl (fun _ => 0))), (b4, .inl (t4, 6000, .inl (fun _ => 0)))] := hD
  refine va_putF (D := (dC, dI)) (ci := 1) (v := .ref b4) (ty := (.array .byte)) (C := RX1) (T := TX1) (N := 10) hx hb hts hin1 tyX1 tyX1_ok nmX1 hown hK hP hD hS 0 rfl rfl 3 (by decide) (hts (.fieldLink RX1 20 "SpeedRowsModel" "lasts" "[B") (by decide +kernel)) (fun _ h9 => h9) rfl hin rfl (by decide +kernel) rfl rfl (Nat.le_of_ble_eq_true rfl) dX1_init_37 (fun H locs hP hD hS => ?_)
  have hP : va_P (dC, dI) vwCl [(y, .inr (1, [.ref b1, .ref b2, .ref b3, .ref b4, .null, .null, .int 0, .int 0, .null, .int 0])), (b1, .inl (t1, 2000, .inl (fun _ => 0))), (b2, .inl (t2, 2000, .inl (fun _ => 0))), (b3, .inl (t3, 6000, .inl (fun _ => 0))), (b4, .inl (t4, 6000, .inl (fun _ => 0)))] H := hP
  have hD : va_D A [(y, .inr (1, [.ref b1, .ref b2, .ref b3, .ref b4, .null, .null, .int 0, .int 0, .null, .int 0])), (b1, .inl (t1, 2000, .inl (fun _ => 0))), (b2, .inl (t2, 2000, .inl (fun _ => 0))), (b3, .inl (t3, 6000, .inl (fun _ => 0))), (b4, .inl (t4, 6000, .inl (fun _ => 0)))] := hD
  refine lv_aload_n hx hb dX1_init_40 rfl (lv_at hl 0 rfl) ?_
  refine lv_iconst (v := nI 3) hx hb dX1_init_41 (by decide) ?_
  refine va_newa (atype := .byte) (ty := .byte) (N' := 3) (a0 := (3, .inl (fun _ => 0))) hx hb (hts (.arrayClass .byte) (by decide +kernel)) rfl hK hP hD hS hA (sr_ca_b 3) (nI_pos (by omega)) (nI_clamp (by omega)) (by show 3 * 1 ≤ 536870912; omega) (by show _ ≤ 7; omega) (by show _ ≤ 18007; omega) dX1_init_42 (fun b5 t5 H hK hP hD hS => ?_)
  have hK : va_K (dC, dI) vwCl [(t1, .int), (t2, .int), (t3, .byte), (t4, .byte), (t5, .byte)] s := hK
  have hP : va_P (dC, dI) vwCl [(y, .inr (1, [.ref b1, .ref b2, .ref b3, .ref b4, .null, .null, .int 0, .int 0, .null, .int 0])), (b1, .inl (t1, 2000, .inl (fun _ => 0))), (b2, .inl (t2, 2000, .inl (fun _ => 0))), (b3, .inl (t3, 6000, .inl (fun _ => 0))), (b4, .inl (t4, 6000, .inl (fun _ => 0))), (b5, .inl (t5, 3, .inl (fun _ => 0)))] H := hP
  have hD : va_D A [(y, .inr (1, [.ref b1, .ref b2, .ref b3, .ref b4, .null, .null, .int 0, .int 0, .null, .int 0])), (b1, .inl (t1, 2000, .inl (fun _ => 0))), (b2, .inl (t2, 2000, .inl (fun _ => 0))), (b3, .inl (t3, 6000, .inl (fun _ => 0))), (b4, .inl (t4, 6000, .inl (fun _ => 0))), (b5, .inl (t5, 3, .inl (fun _ => 0)))] := hD
  refine va_putF (D := (dC, dI)) (ci := 1) (v := .ref b5) (ty := (.array .byte)) (C := RX1) (T := TX1) (N := 10) hx hb hts hin1 tyX1 tyX1_ok nmX1 hown hK hP hD hS 0 rfl rfl 4 (by decide) (hts (.fieldLink RX1 23 "SpeedRowsModel" "first" "[B") (by decide +kernel)) (fun _ h9 => h9) rfl hin rfl (by decide +kernel) rfl rfl (Nat.le_of_ble_eq_true rfl) dX1_init_44 (fun H locs hP hD hS => ?_)
  have hP : va_P (dC, dI) vwCl [(y, .inr (1, [.ref b1, .ref b2, .ref b3, .ref b4, .ref b5, .null, .int 0, .int 0, .null, .int 0])), (b1, .inl (t1, 2000, .inl (fun _ => 0))), (b2, .inl (t2, 2000, .inl (fun _ => 0))), (b3, .inl (t3, 6000, .inl (fun _ => 0))), (b4, .inl (t4, 6000, .inl (fun _ => 0))), (b5, .inl (t5, 3, .inl (fun _ => 0)))] H := hP
  have hD : va_D A [(y, .inr (1, [.ref b1, .ref b2, .ref b3, .ref b4, .ref b5, .null, .int 0, .int 0, .null, .int 0])), (b1, .inl (t1, 2000, .inl (fun _ => 0))), (b2, .inl (t2, 2000, .inl (fun _ => 0))), (b3, .inl (t3, 6000, .inl (fun _ => 0))), (b4, .inl (t4, 6000, .inl (fun _ => 0))), (b5, .inl (t5, 3, .inl (fun _ => 0)))] := hD
  refine lv_aload_n hx hb dX1_init_47 rfl (lv_at hl 0 rfl) ?_
  refine lv_iconst (v := nI 3) hx hb dX1_init_48 (by decide) ?_
  refine va_newa (atype := .byte) (ty := .byte) (N' := 3) (a0 := (3, .inl (fun _ => 0))) hx hb (hts (.arrayClass .byte) (by decide +kernel)) rfl hK hP hD hS hA (sr_ca_b 3) (nI_pos (by omega)) (nI_clamp (by omega)) (by show 3 * 1 ≤ 536870912; omega) (by show _ ≤ 7; omega) (by show _ ≤ 18007; omega) dX1_init_49 (fun b6 t6 H hK hP hD hS => ?_)
  have hK : va_K (dC, dI) vwCl [(t1, .int), (t2, .int), (t3, .byte), (t4, .byte), (t5, .byte), (t6, .byte)] s := hK
  have hP : va_P (dC, dI) vwCl [(y, .inr (1, [.ref b1, .ref b2, .ref b3, .ref b4, .ref b5, .null, .int 0, .int 0, .null, .int 0])), (b1, .inl (t1, 2000, .inl (fun _ => 0))), (b2, .inl (t2, 2000, .inl (fun _ => 0))), (b3, .inl (t3, 6000, .inl (fun _ => 0))), (b4, .inl (t4, 6000, .inl (fun _ => 0))), (b5, .inl (t5, 3, .inl (fun _ => 0))), (b6, .inl (t6, 3, .inl (fun _ => 0)))] H := hP
  have hD : va_D A [(y, .inr (1, [.ref b1, .ref b2, .ref b3, .ref b4, .ref b5, .null, .int 0, .int 0, .null, .int 0])), (b1, .inl (t1, 2000, .inl (fun _ => 0))), (b2, .inl (t2, 2000, .inl (fun _ => 0))), (b3, .inl (t3, 6000, .inl (fun _ => 0))), (b4, .inl (t4, 6000, .inl (fun _ => 0))), (b5, .inl (t5, 3, .inl (fun _ => 0))), (b6, .inl (t6, 3, .inl (fun _ => 0)))] := hD
  refine va_putF (D := (dC, dI)) (ci := 1) (v := .ref b6) (ty := (.array .byte)) (C := RX1) (T := TX1) (N := 10) hx hb hts hin1 tyX1 tyX1_ok nmX1 hown hK hP hD hS 0 rfl rfl 5 (by decide) (hts (.fieldLink RX1 26 "SpeedRowsModel" "last" "[B") (by decide +kernel)) (fun _ h9 => h9) rfl hin rfl (by decide +kernel) rfl rfl (Nat.le_of_ble_eq_true rfl) dX1_init_51 (fun H locs hP hD hS => ?_)
  have hP : va_P (dC, dI) vwCl [(y, .inr (1, [.ref b1, .ref b2, .ref b3, .ref b4, .ref b5, .ref b6, .int 0, .int 0, .null, .int 0])), (b1, .inl (t1, 2000, .inl (fun _ => 0))), (b2, .inl (t2, 2000, .inl (fun _ => 0))), (b3, .inl (t3, 6000, .inl (fun _ => 0))), (b4, .inl (t4, 6000, .inl (fun _ => 0))), (b5, .inl (t5, 3, .inl (fun _ => 0))), (b6, .inl (t6, 3, .inl (fun _ => 0)))] H := hP
  have hD : va_D A [(y, .inr (1, [.ref b1, .ref b2, .ref b3, .ref b4, .ref b5, .ref b6, .int 0, .int 0, .null, .int 0])), (b1, .inl (t1, 2000, .inl (fun _ => 0))), (b2, .inl (t2, 2000, .inl (fun _ => 0))), (b3, .inl (t3, 6000, .inl (fun _ => 0))), (b4, .inl (t4, 6000, .inl (fun _ => 0))), (b5, .inl (t5, 3, .inl (fun _ => 0))), (b6, .inl (t6, 3, .inl (fun _ => 0)))] := hD
  refine lv_aload_n hx hb dX1_init_54 rfl (lv_at hl 0 rfl) ?_
  refine lv_bipush (v := nI 100) hx hb dX1_init_55 (by decide) ?_
  refine va_put (D := (dC, dI)) (ci := 1) (v := .int (nI 100)) (ty := .int) (C := RX1) (T := TX1) (N := 10) hx hb hts hin1 tyX1 tyX1_ok nmX1 hown hK hP hD hS 0 rfl rfl 7 (by decide) (hts (.fieldLink RX1 29 "SpeedRowsModel" "most" "I") (by decide +kernel)) (fun _ h9 => h9) rfl (by decide +kernel) rfl rfl (Nat.le_of_ble_eq_true rfl) dX1_init_57 (fun H locs hP hD hS => ?_)
  have hP : va_P (dC, dI) vwCl [(y, .inr (1, [.ref b1, .ref b2, .ref b3, .ref b4, .ref b5, .ref b6, .int 0, .int (nI 100), .null, .int 0])), (b1, .inl (t1, 2000, .inl (fun _ => 0))), (b2, .inl (t2, 2000, .inl (fun _ => 0))), (b3, .inl (t3, 6000, .inl (fun _ => 0))), (b4, .inl (t4, 6000, .inl (fun _ => 0))), (b5, .inl (t5, 3, .inl (fun _ => 0))), (b6, .inl (t6, 3, .inl (fun _ => 0)))] H := hP
  have hD : va_D A [(y, .inr (1, [.ref b1, .ref b2, .ref b3, .ref b4, .ref b5, .ref b6, .int 0, .int (nI 100), .null, .int 0])), (b1, .inl (t1, 2000, .inl (fun _ => 0))), (b2, .inl (t2, 2000, .inl (fun _ => 0))), (b3, .inl (t3, 6000, .inl (fun _ => 0))), (b4, .inl (t4, 6000, .inl (fun _ => 0))), (b5, .inl (t5, 3, .inl (fun _ => 0))), (b6, .inl (t6, 3, .inl (fun _ => 0)))] := hD
  refine lv_aload_n hx hb dX1_init_60 rfl (lv_at hl 0 rfl) ?_
  refine lv_sipush (v := nI 2001) hx hb dX1_init_61 (by decide) ?_
  refine va_newa (atype := .int) (ty := .int) (N' := 2001) (a0 := (2001, .inl (fun _ => 0))) hx hb (hts (.arrayClass .int) (by decide +kernel)) rfl hK hP hD hS hA (sr_ca_i 2001) (nI_pos (by omega)) (nI_clamp (by omega)) (by show 2001 * 4 ≤ 536870912; omega) (by show _ ≤ 7; omega) (by show _ ≤ 18007; omega) dX1_init_64 (fun b7 t7 H hK hP hD hS => ?_)
  have hK : va_K (dC, dI) vwCl [(t1, .int), (t2, .int), (t3, .byte), (t4, .byte), (t5, .byte), (t6, .byte), (t7, .int)] s := hK
  have hP : va_P (dC, dI) vwCl [(y, .inr (1, [.ref b1, .ref b2, .ref b3, .ref b4, .ref b5, .ref b6, .int 0, .int (nI 100), .null, .int 0])), (b1, .inl (t1, 2000, .inl (fun _ => 0))), (b2, .inl (t2, 2000, .inl (fun _ => 0))), (b3, .inl (t3, 6000, .inl (fun _ => 0))), (b4, .inl (t4, 6000, .inl (fun _ => 0))), (b5, .inl (t5, 3, .inl (fun _ => 0))), (b6, .inl (t6, 3, .inl (fun _ => 0))), (b7, .inl (t7, 2001, .inl (fun _ => 0)))] H := hP
  have hD : va_D A [(y, .inr (1, [.ref b1, .ref b2, .ref b3, .ref b4, .ref b5, .ref b6, .int 0, .int (nI 100), .null, .int 0])), (b1, .inl (t1, 2000, .inl (fun _ => 0))), (b2, .inl (t2, 2000, .inl (fun _ => 0))), (b3, .inl (t3, 6000, .inl (fun _ => 0))), (b4, .inl (t4, 6000, .inl (fun _ => 0))), (b5, .inl (t5, 3, .inl (fun _ => 0))), (b6, .inl (t6, 3, .inl (fun _ => 0))), (b7, .inl (t7, 2001, .inl (fun _ => 0)))] := hD
  refine va_putF (D := (dC, dI)) (ci := 1) (v := .ref b7) (ty := (.array .int)) (C := RX1) (T := TX1) (N := 10) hx hb hts hin1 tyX1 tyX1_ok nmX1 hown hK hP hD hS 0 rfl rfl 8 (by decide) (hts (.fieldLink RX1 33 "SpeedRowsModel" "speeds" "[I") (by decide +kernel)) (fun _ h9 => h9) rfl hin rfl (by decide +kernel) rfl rfl (Nat.le_of_ble_eq_true rfl) dX1_init_66 (fun H locs hP hD hS => ?_)
  have hP : va_P (dC, dI) vwCl [(y, .inr (1, [.ref b1, .ref b2, .ref b3, .ref b4, .ref b5, .ref b6, .int 0, .int (nI 100), .ref b7, .int 0])), (b1, .inl (t1, 2000, .inl (fun _ => 0))), (b2, .inl (t2, 2000, .inl (fun _ => 0))), (b3, .inl (t3, 6000, .inl (fun _ => 0))), (b4, .inl (t4, 6000, .inl (fun _ => 0))), (b5, .inl (t5, 3, .inl (fun _ => 0))), (b6, .inl (t6, 3, .inl (fun _ => 0))), (b7, .inl (t7, 2001, .inl (fun _ => 0)))] H := hP
  have hD : va_D A [(y, .inr (1, [.ref b1, .ref b2, .ref b3, .ref b4, .ref b5, .ref b6, .int 0, .int (nI 100), .ref b7, .int 0])), (b1, .inl (t1, 2000, .inl (fun _ => 0))), (b2, .inl (t2, 2000, .inl (fun _ => 0))), (b3, .inl (t3, 6000, .inl (fun _ => 0))), (b4, .inl (t4, 6000, .inl (fun _ => 0))), (b5, .inl (t5, 3, .inl (fun _ => 0))), (b6, .inl (t6, 3, .inl (fun _ => 0))), (b7, .inl (t7, 2001, .inl (fun _ => 0)))] := hD
  refine W.widen (k := 7) (n := 18007) (by omega) (by omega) ?_
  refine lv_aload_n hx hb dX1_init_69 rfl (lv_at hl 0 rfl) ?_
  refine va_get (D := (dC, dI)) (ci := 1) (v := .ref b5) (C := RX1) (T := TX1) (N := 10) hx hb hts hin1 hown hK hP 0 rfl rfl 4 (by decide) (hts (.fieldLink RX1 23 "SpeedRowsModel" "first" "[B") (by decide +kernel)) (fun _ h9 => h9) rfl dX1_init_70 ?_
  refine lv_iconst (v := nI 0) hx hb dX1_init_73 (by decide) ?_
  refine lv_iconst (v := 1) hx hb dX1_init_74 (by decide) ?_
  refine sr_bast (v := 1) hx hb hK hP hD hS 5 4 rfl rfl (by decide) (by decide) (by decide) dX1_init_75 (fun H locs hP hD hS => ?_)
  have hP : va_P (dC, dI) vwCl [(y, .inr (1, [.ref b1, .ref b2, .ref b3, .ref b4, .ref b5, .ref b6, .int 0, .int (nI 100), .ref b7, .int 0])), (b1, .inl (t1, 2000, .inl (fun _ => 0))), (b2, .inl (t2, 2000, .inl (fun _ => 0))), (b3, .inl (t3, 6000, .inl (fun _ => 0))), (b4, .inl (t4, 6000, .inl (fun _ => 0))), (b5, .inl (t5, 3, .inl (upd (fun _ => 0) 0 1))), (b6, .inl (t6, 3, .inl (fun _ => 0))), (b7, .inl (t7, 2001, .inl (fun _ => 0)))] H := hP
  have hD : va_D A [(y, .inr (1, [.ref b1, .ref b2, .ref b3, .ref b4, .ref b5, .ref b6, .int 0, .int (nI 100), .ref b7, .int 0])), (b1, .inl (t1, 2000, .inl (fun _ => 0))), (b2, .inl (t2, 2000, .inl (fun _ => 0))), (b3, .inl (t3, 6000, .inl (fun _ => 0))), (b4, .inl (t4, 6000, .inl (fun _ => 0))), (b5, .inl (t5, 3, .inl (upd (fun _ => 0) 0 1))), (b6, .inl (t6, 3, .inl (fun _ => 0))), (b7, .inl (t7, 2001, .inl (fun _ => 0)))] := hD
  refine lv_aload_n hx hb dX1_init_76 rfl (lv_at hl 0 rfl) ?_
  refine va_get (D := (dC, dI)) (ci := 1) (v := .ref b6) (C := RX1) (T := TX1) (N := 10) hx hb hts hin1 hown hK hP 0 rfl rfl 5 (by decide) (hts (.fieldLink RX1 26 "SpeedRowsModel" "last" "[B") (by decide +kernel)) (fun _ h9 => h9) rfl dX1_init_77 ?_
  refine lv_iconst (v := nI 0) hx hb dX1_init_80 (by decide) ?_
  refine lv_iconst (v := 1) hx hb dX1_init_81 (by decide) ?_
  refine sr_bast (v := 1) hx hb hK hP hD hS 6 5 rfl rfl (by decide) (by decide) (by decide) dX1_init_82 (fun H locs hP hD hS => ?_)
  have hP : va_P (dC, dI) vwCl [(y, .inr (1, [.ref b1, .ref b2, .ref b3, .ref b4, .ref b5, .ref b6, .int 0, .int (nI 100), .ref b7, .int 0])), (b1, .inl (t1, 2000, .inl (fun _ => 0))), (b2, .inl (t2, 2000, .inl (fun _ => 0))), (b3, .inl (t3, 6000, .inl (fun _ => 0))), (b4, .inl (t4, 6000, .inl (fun _ => 0))), (b5, .inl (t5, 3, .inl (upd (fun _ => 0) 0 1))), (b6, .inl (t6, 3, .inl (upd (fun _ => 0) 0 1))), (b7, .inl (t7, 2001, .inl (fun _ => 0)))] H := hP
  have hD : va_D A [(y, .inr (1, [.ref b1, .ref b2, .ref b3, .ref b4, .ref b5, .ref b6, .int 0, .int (nI 100), .ref b7, .int 0])), (b1, .inl (t1, 2000, .inl (fun _ => 0))), (b2, .inl (t2, 2000, .inl (fun _ => 0))), (b3, .inl (t3, 6000, .inl (fun _ => 0))), (b4, .inl (t4, 6000, .inl (fun _ => 0))), (b5, .inl (t5, 3, .inl (upd (fun _ => 0) 0 1))), (b6, .inl (t6, 3, .inl (upd (fun _ => 0) 0 1))), (b7, .inl (t7, 2001, .inl (fun _ => 0)))] := hD
  exact W.vret hx hb hr (fun t ht hW => ⟨⟨(_, _), rfl, ⟨b1, b2, b3, b4, b5, b6, b7, t1, t2, t3, t4, t5, t6, t7, rfl⟩, by rw [ht]; exact hP, va_K.moved hW.alike hK, hD⟩, hS.F ht⟩) hS.2.2 dX1_init_83
