/-! THE REFERENCE: limit. -/
set_option maxHeartbeats 4000000 in
set_option maxRecDepth 100000 in
theorem c_X1_limit (l : Launch) (dC : Nat → ClassId) (dI : Nat → Nat → Nat) (y b1 b2 b3 b4 b5 b6 b7 : Nat) (t1 t2 t3 t4 t5 t6 t7 : ClassId) (sz : Nat) (mo ac : Nat) (kn : Int32) (T F I J U V S : Nat → Int32) (k : Int32) (cf cl : Nat) (tk fd fs la : Nat → Nat) (g : sr_G mo ac cf cl tk fd fs la) (hM : sr_MI mo cf cl tk fd fs la T F I J U V) : Met l yX1_limit wsX1_limit ({ frames := 1, cells := 0, slots := 0, locals := 14 }) (sr_pre dC dI (sr_tM t1 t2 t3 t4 t5 t6 t7) (sr_wM y b1 b2 b3 b4 b5 b6 b7 t1 t2 t3 t4 t5 t6 t7 mo ac kn T F I J U V S) sz [.ref y, .int k]) (va_Qi (fun (r : Int32) (u : va_W) => u = sr_wM y b1 b2 b3 b4 b5 b6 b7 t1 t2 t3 t4 t5 t6 t7 mo ac kn T F I J U V S ∧ r = sr_an mo (sr_lim mo fd fs la) k) (sr_at dC dI (sr_tM t1 t2 t3 t4 t5 t6 t7) (va_A (sr_wM y b1 b2 b3 b4 b5 b6 b7 t1 t2 t3 t4 t5 t6 t7 mo ac kn T F I J U V S) sz)) (va_A (sr_wM y b1 b2 b3 b4 b5 b6 b7 t1 t2 t3 t4 t5 t6 t7 mo ac kn T F I J U V S) sz)) 0 0 (va_A (sr_wM y b1 b2 b3 b4 b5 b6 b7 t1 t2 t3 t4 t5 t6 t7 mo ac kn T F I J U V S) sz) := by
  refine Met.ofW (cc := cX1_limit) (maxL := 8) (ret := (some .int)) (by decide) rfl ?_
  intro p e s m args below meth c s₁ B hml hv
  obtain ⟨rfl, hsz, hP, hK, hD0⟩ := hv
  have hx := B.exec
  have hb := B.bytes
  have hr := B.returns
  have hts := atoms_spec (ws := wsX1_limit) B.pre
  have hown : s.vm.findClass RX1 = some m.cls := findClass_of_methodNamed B.named
  have hlocks := B.notSynchronized
  subst hsz
  have hD := hD0.self (sz := s.heap.size)
  generalize hAe : va_A (sr_wM y b1 b2 b3 b4 b5 b6 b7 t1 t2 t3 t4 t5 t6 t7 mo ac kn T F I J U V S) s.heap.size = A at hD ⊢
  have hA : ∀ q : Nat, s.heap.size ≤ q → A q := fun q h => by rw [← hAe]; exact Or.inr h
  have hS : va_S A s.heap s.heap [] := va_S.rf
  have hP : va_P (dC, dI) vwCl [(y, .inr (1, [.ref b1, .ref b2, .ref b3, .ref b4, .ref b5, .ref b6, .int (nI mo), .int (nI ac), .ref b7, .int kn])), (b1, .inl (t1, 2000, .inl T)), (b2, .inl (t2, 2000, .inl F)), (b3, .inl (t3, 6000, .inl I)), (b4, .inl (t4, 6000, .inl J)), (b5, .inl (t5, 3, .inl U)), (b6, .inl (t6, 3, .inl V)), (b7, .inl (t7, 2001, .inl S))] s.heap := hP
  have hD : va_D A [(y, .inr (1, [.ref b1, .ref b2, .ref b3, .ref b4, .ref b5, .ref b6, .int (nI mo), .int (nI ac), .ref b7, .int kn])), (b1, .inl (t1, 2000, .inl T)), (b2, .inl (t2, 2000, .inl F)), (b3, .inl (t3, 6000, .inl I)), (b4, .inl (t4, 6000, .inl J)), (b5, .inl (t5, 3, .inl U)), (b6, .inl (t6, 3, .inl V)), (b7, .inl (t7, 2001, .inl S))] := hD
  have hK : va_K (dC, dI) vwCl [(t1, .int), (t2, .int), (t3, .byte), (t4, .byte), (t5, .byte), (t6, .byte), (t7, .int)] s := hK
  have hin1 : ∀ w ∈ u_ws RX1 TX1 10, w ∈ wsX1_limit := by decide +kernel
  have hl := lv_entry ([.ref y, .int k]) (n := 8) (Nat.le_of_ble_eq_true rfl)
  rw [lg_entry_eq]
  generalize (lg_sl ([.ref y, .int k]) ++ List.replicate (8 - (lg_sl ([.ref y, .int k])).length) Slot.unset).toArray = ls at hl ⊢
  have hl : lv_has ls 8 [(0, .ref y), (1, .int k)] := hl
  obtain ⟨hmo, ⟨hac1, hac2⟩, hcf, hcl, hpath⟩ := id g
  refine lv_iload_n hx hb dX1_limit_0 rfl (lv_at hl 1 rfl) ?_
  refine lv_if_lt (tgt := 12) hx hb dX1_limit_1 (by decide) (fun c1 => ?_) (fun c1 => ?_)
  · refine lv_iconst (v := (-1)) hx hb dX1_limit_12 (by decide) ?_
    exact W.iret (v := (-1)) hx hb hr (fun t ht hW => ⟨⟨(-1), _, rfl, ⟨rfl, by rw [sr_an, if_neg (fun q => absurd q.1 (Int32.not_le.mpr c1))]⟩, by rw [ht]; exact hP, va_K.moved hW.alike hK, hD⟩, hS.F ht⟩) hS.2.2 dX1_limit_13
  · refine lv_iload_n hx hb dX1_limit_4 rfl (lv_at hl 1 rfl) ?_
    refine lv_aload_n hx hb dX1_limit_5 rfl (lv_at hl 0 rfl) ?_
    refine va_get (D := (dC, dI)) (ci := 1) (v := .int (nI mo)) (C := RX1) (T := TX1) (N := 10) hx hb hts hin1 hown hK hP 0 rfl rfl 6 (by decide) (hts (.fieldLink RX1 46 "SpeedRowsModel" "moves" "I") (by decide +kernel)) (fun _ h9 => h9) rfl dX1_limit_6 ?_
    refine lv_icmp_le (tgt := 14) hx hb dX1_limit_9 (by decide) (fun c2 => ?_) (fun c2 => ?_)
    · have hc : 0 ≤ k ∧ k ≤ nI mo := ⟨Int32.not_lt.mp c1, c2⟩
      obtain ⟨j, hj, rfl⟩ : ∃ j, j ≤ mo ∧ k = nI j := nI_of2 (nI_toInt (by omega)) c1 c2
      have ean : sr_an mo (sr_lim mo fd fs la) (nI j) = nI (sr_lim mo fd fs la j) := by rw [sr_an, if_pos hc, nI_clamp (by omega)]
      refine lv_iload_n hx hb dX1_limit_14 rfl (lv_at hl 1 rfl) ?_
      refine lv_if_eq (tgt := 26) hx hb dX1_limit_15 (by decide) (fun c3 => ?_) (fun c3 => ?_)
      · have hj0 : j = 0 := (nI_eq (by omega) (by omega)).mp c3
        refine lv_iconst (v := nI 0) hx hb dX1_limit_26 (by decide) ?_
        exact W.iret (v := nI 0) hx hb hr (fun t ht hW => ⟨⟨nI 0, _, rfl, ⟨rfl, by rw [ean, hj0, sr_lim_0]⟩, by rw [ht]; exact hP, va_K.moved hW.alike hK, hD⟩, hS.F ht⟩) hS.2.2 dX1_limit_27
      · refine lv_iload_n hx hb dX1_limit_18 rfl (lv_at hl 1 rfl) ?_
        refine lv_aload_n hx hb dX1_limit_19 rfl (lv_at hl 0 rfl) ?_
        refine va_get (D := (dC, dI)) (ci := 1) (v := .int (nI mo)) (C := RX1) (T := TX1) (N := 10) hx hb hts hin1 hown hK hP 0 rfl rfl 6 (by decide) (hts (.fieldLink RX1 46 "SpeedRowsModel" "moves" "I") (by decide +kernel)) (fun _ h9 => h9) rfl dX1_limit_20 ?_
        refine lv_icmp_ne (tgt := 28) hx hb dX1_limit_23 (by decide) (fun c4 => ?_) (fun c4 => ?_)
        · have hj0 : j ≠ 0 := fun q => c3 (by rw [q]; decide)
          have hjm : j < mo := by
            rcases Nat.lt_or_ge j mo with q | q
            · exact q
            · exact absurd (by rw [show j = mo by omega]) c4
          obtain ⟨hp1, hp2, hp3, hp4⟩ := hpath (j - 1) (by omega)
          obtain ⟨hq1, hq2, hq3, hq4⟩ := hpath j hjm
          obtain ⟨m1, m2, m3⟩ := hM.1 (j - 1) (by omega)
          obtain ⟨m4, m5, m6⟩ := hM.1 j hjm
          generalize epp : la (j - 1) = pp at hp4 m3
          generalize eqq : fs j = qq at hq3 m6
          have p1 := sr_pd_le hp4.1 hp4.1
          have p2 := sr_pd_le hq3.1 hq3.1
          have p3 := sr_pd_le hp4.1 hq3.1
          have p4 := sr_pd_pos hp4
          have p6 : sr_mx pp qq ≤ 3 := Nat.max_le.mpr ⟨p1, p2⟩
          have p7 : 1 ≤ sr_mx pp qq := Nat.le_trans p4 (Nat.le_max_left _ _)
          have p8 : min (fd (j - 1)) (fd j) * sr_pd pp qq ≤ 99999 * 3 := Nat.mul_le_mul (Nat.le_trans (Nat.min_le_left _ _) hp2.2) p3
          refine lv_iconst (v := 0) hx hb dX1_limit_28 (by decide) ?_
          refine lv_istore_n (lv' := [(2, .int 0), (0, .ref y), (1, .int (nI j))]) hx hb dX1_limit_29 rfl hl (by decide) rfl (fun ls hl => ?_)
          refine lv_iconst (v := 0) hx hb dX1_limit_30 (by decide) ?_
          refine lv_istore_n (lv' := [(3, .int 0), (2, .int 0), (0, .ref y), (1, .int (nI j))]) hx hb dX1_limit_31 rfl hl (by decide) rfl (fun ls hl => ?_)
          refine lv_iconst (v := 0) hx hb dX1_limit_32 (by decide) ?_
          refine lv_istore (lv' := [(4, .int 0), (3, .int 0), (2, .int 0), (0, .ref y), (1, .int (nI j))]) hx hb dX1_limit_33 hl (by decide) rfl (fun ls hl => ?_)
          refine lv_iconst (v := nI 0) hx hb dX1_limit_35 (by decide) ?_
          refine lv_istore (lv' := [(5, .int (nI 0)), (4, .int 0), (3, .int 0), (2, .int 0), (0, .ref y), (1, .int (nI j))]) hx hb dX1_limit_36 hl (by decide) rfl (fun ls hl => ?_)
          refine lv_iload hx hb dX1_limit_38 (lv_at hl 0 rfl) ?_
          refine lv_iconst (v := nI 3) hx hb dX1_limit_40 (by decide) ?_
          refine lv_icmp_ge (tgt := 104) hx hb dX1_limit_41 (by decide) (fun k0 => ?_) (fun k0 => ?_)
          · exact absurd k0 (by decide)
          · refine lv_aload_n hx hb dX1_limit_44 rfl (lv_at hl 4 rfl) ?_
            refine va_get (D := (dC, dI)) (ci := 1) (v := .ref b4) (C := RX1) (T := TX1) (N := 10) hx hb hts hin1 hown hK hP 0 rfl rfl 3 (by decide) (hts (.fieldLink RX1 20 "SpeedRowsModel" "lasts" "[B") (by decide +kernel)) (fun _ h9 => h9) rfl dX1_limit_45 ?_
            refine lv_iconst (v := nI 3) hx hb dX1_limit_48 (by decide) ?_
            refine lv_iload_n hx hb dX1_limit_49 rfl (lv_at hl 5 rfl) ?_
            refine lv_iconst (v := nI 1) hx hb dX1_limit_50 (by decide) ?_
            refine lv_isub hx hb dX1_limit_51 ?_
            refine sr_ti (y := nI (j - 1)) (pk_sub (by omega)) ?_
            refine lv_imul hx hb dX1_limit_52 ?_
            refine sr_ti (y := nI (3 * (j - 1))) (pk_mul _ _) ?_
            refine lv_iload hx hb dX1_limit_53 (lv_at hl 0 rfl) ?_
            refine lv_iadd hx hb dX1_limit_55 ?_
            refine sr_ti (y := nI ((3 * (j - 1)) + 0)) (nI_add _ _) ?_
            refine sr_bald (v := sr_dg pp 0) hx hb hK hP 4 3 rfl rfl (by omega) (by decide) ((m3 0 (by decide)).2) dX1_limit_56 ?_
            refine lv_istore (lv' := [(6, .int (sr_dg pp 0)), (5, .int (nI 0)), (4, .int 0), (3, .int 0), (2, .int 0), (0, .ref y), (1, .int (nI j))]) hx hb dX1_limit_57 hl (by decide) rfl (fun ls hl => ?_)
            refine lv_aload_n hx hb dX1_limit_59 rfl (lv_at hl 5 rfl) ?_
            refine va_get (D := (dC, dI)) (ci := 1) (v := .ref b3) (C := RX1) (T := TX1) (N := 10) hx hb hts hin1 hown hK hP 0 rfl rfl 2 (by decide) (hts (.fieldLink RX1 16 "SpeedRowsModel" "firsts" "[B") (by decide +kernel)) (fun _ h9 => h9) rfl dX1_limit_60 ?_
            refine lv_iconst (v := nI 3) hx hb dX1_limit_63 (by decide) ?_
            refine lv_iload_n hx hb dX1_limit_64 rfl (lv_at hl 6 rfl) ?_
            refine lv_imul hx hb dX1_limit_65 ?_
            refine sr_ti (y := nI (3 * j)) (pk_mul _ _) ?_
            refine lv_iload hx hb dX1_limit_66 (lv_at hl 1 rfl) ?_
            refine lv_iadd hx hb dX1_limit_68 ?_
            refine sr_ti (y := nI ((3 * j) + 0)) (nI_add _ _) ?_
            refine sr_bald (v := sr_dg qq 0) hx hb hK hP 3 2 rfl rfl (by omega) (by decide) ((m6 0 (by decide)).1) dX1_limit_69 ?_
            refine lv_istore (lv' := [(7, .int (sr_dg qq 0)), (6, .int (sr_dg pp 0)), (5, .int (nI 0)), (4, .int 0), (3, .int 0), (2, .int 0), (0, .ref y), (1, .int (nI j))]) hx hb dX1_limit_70 hl (by decide) rfl (fun ls hl => ?_)
            refine lv_iload_n hx hb dX1_limit_72 rfl (lv_at hl 5 rfl) ?_
            refine lv_iload hx hb dX1_limit_73 (lv_at hl 1 rfl) ?_
            refine lv_iload hx hb dX1_limit_75 (lv_at hl 0 rfl) ?_
            refine lv_imul hx hb dX1_limit_77 ?_
            refine lv_iadd hx hb dX1_limit_78 ?_
            refine sr_ti (y := sr_dg pp 0 * sr_dg qq 0) (Int32.zero_add _) ?_
            refine lv_istore_n (lv' := [(2, .int (sr_dg pp 0 * sr_dg qq 0)), (7, .int (sr_dg qq 0)), (6, .int (sr_dg pp 0)), (5, .int (nI 0)), (4, .int 0), (3, .int 0), (0, .ref y), (1, .int (nI j))]) hx hb dX1_limit_79 rfl hl (by decide) rfl (fun ls hl => ?_)
            refine lv_iload_n hx hb dX1_limit_80 rfl (lv_at hl 5 rfl) ?_
            refine lv_iload hx hb dX1_limit_81 (lv_at hl 2 rfl) ?_
            refine lv_iload hx hb dX1_limit_83 (lv_at hl 2 rfl) ?_
            refine lv_imul hx hb dX1_limit_85 ?_
            refine lv_iadd hx hb dX1_limit_86 ?_
            refine sr_ti (y := sr_dg pp 0 * sr_dg pp 0) (Int32.zero_add _) ?_
            refine lv_istore_n (lv' := [(3, .int (sr_dg pp 0 * sr_dg pp 0)), (2, .int (sr_dg pp 0 * sr_dg qq 0)), (7, .int (sr_dg qq 0)), (6, .int (sr_dg pp 0)), (5, .int (nI 0)), (4, .int 0), (0, .ref y), (1, .int (nI j))]) hx hb dX1_limit_87 rfl hl (by decide) rfl (fun ls hl => ?_)
            refine lv_iload hx hb dX1_limit_88 (lv_at hl 5 rfl) ?_
            refine lv_iload hx hb dX1_limit_90 (lv_at hl 2 rfl) ?_
            refine lv_iload hx hb dX1_limit_92 (lv_at hl 2 rfl) ?_
            refine lv_imul hx hb dX1_limit_94 ?_
            refine lv_iadd hx hb dX1_limit_95 ?_
            refine sr_ti (y := sr_dg qq 0 * sr_dg qq 0) (Int32.zero_add _) ?_
            refine lv_istore (lv' := [(4, .int (sr_dg qq 0 * sr_dg qq 0)), (3, .int (sr_dg pp 0 * sr_dg pp 0)), (2, .int (sr_dg pp 0 * sr_dg qq 0)), (7, .int (sr_dg qq 0)), (6, .int (sr_dg pp 0)), (5, .int (nI 0)), (0, .ref y), (1, .int (nI j))]) hx hb dX1_limit_96 hl (by decide) rfl (fun ls hl => ?_)
            refine lv_iinc (v := nI (0 + 1)) (lv' := [(5, .int (nI (0 + 1))), (4, .int (sr_dg qq 0 * sr_dg qq 0)), (3, .int (sr_dg pp 0 * sr_dg pp 0)), (2, .int (sr_dg pp 0 * sr_dg qq 0)), (7, .int (sr_dg qq 0)), (6, .int (sr_dg pp 0)), (0, .ref y), (1, .int (nI j))]) hx hb dX1_limit_98 hl (k := 5) rfl (nI_1 _) (by decide) rfl (fun ls hl => ?_)
            refine lv_goto (tgt := 38) hx hb dX1_limit_101 (by decide) ?_
            refine lv_iload hx hb dX1_limit_38 (lv_at hl 0 rfl) ?_
            refine lv_iconst (v := nI 3) hx hb dX1_limit_40 (by decide) ?_
            refine lv_icmp_ge (tgt := 104) hx hb dX1_limit_41 (by decide) (fun k1 => ?_) (fun k1 => ?_)
            · exact absurd k1 (by decide)
            · refine lv_aload_n hx hb dX1_limit_44 rfl (lv_at hl 6 rfl) ?_
              refine va_get (D := (dC, dI)) (ci := 1) (v := .ref b4) (C := RX1) (T := TX1) (N := 10) hx hb hts hin1 hown hK hP 0 rfl rfl 3 (by decide) (hts (.fieldLink RX1 20 "SpeedRowsModel" "lasts" "[B") (by decide +kernel)) (fun _ h9 => h9) rfl dX1_limit_45 ?_
              refine lv_iconst (v := nI 3) hx hb dX1_limit_48 (by decide) ?_
              refine lv_iload_n hx hb dX1_limit_49 rfl (lv_at hl 7 rfl) ?_
              refine lv_iconst (v := nI 1) hx hb dX1_limit_50 (by decide) ?_
              refine lv_isub hx hb dX1_limit_51 ?_
              refine sr_ti (y := nI (j - 1)) (pk_sub (by omega)) ?_
              refine lv_imul hx hb dX1_limit_52 ?_
              refine sr_ti (y := nI (3 * (j - 1))) (pk_mul _ _) ?_
              refine lv_iload hx hb dX1_limit_53 (lv_at hl 0 rfl) ?_
              refine lv_iadd hx hb dX1_limit_55 ?_
              refine sr_ti (y := nI ((3 * (j - 1)) + (0 + 1))) (nI_add _ _) ?_
              refine sr_bald (v := sr_dg pp 1) hx hb hK hP 4 3 rfl rfl (by omega) (by decide) ((m3 1 (by decide)).2) dX1_limit_56 ?_
              refine lv_istore (lv' := [(6, .int (sr_dg pp 1)), (5, .int (nI (0 + 1))), (4, .int (sr_dg qq 0 * sr_dg qq 0)), (3, .int (sr_dg pp 0 * sr_dg pp 0)), (2, .int (sr_dg pp 0 * sr_dg qq 0)), (7, .int (sr_dg qq 0)), (0, .ref y), (1, .int (nI j))]) hx hb dX1_limit_57 hl (by decide) rfl (fun ls hl => ?_)
              refine lv_aload_n hx hb dX1_limit_59 rfl (lv_at hl 6 rfl) ?_
              refine va_get (D := (dC, dI)) (ci := 1) (v := .ref b3) (C := RX1) (T := TX1) (N := 10) hx hb hts hin1 hown hK hP 0 rfl rfl 2 (by decide) (hts (.fieldLink RX1 16 "SpeedRowsModel" "firsts" "[B") (by decide +kernel)) (fun _ h9 => h9) rfl dX1_limit_60 ?_
              refine lv_iconst (v := nI 3) hx hb dX1_limit_63 (by decide) ?_
              refine lv_iload_n hx hb dX1_limit_64 rfl (lv_at hl 7 rfl) ?_
              refine lv_imul hx hb dX1_limit_65 ?_
              refine sr_ti (y := nI (3 * j)) (pk_mul _ _) ?_
              refine lv_iload hx hb dX1_limit_66 (lv_at hl 1 rfl) ?_
              refine lv_iadd hx hb dX1_limit_68 ?_
              refine sr_ti (y := nI ((3 * j) + (0 + 1))) (nI_add _ _) ?_
              refine sr_bald (v := sr_dg qq 1) hx hb hK hP 3 2 rfl rfl (by omega) (by decide) ((m6 1 (by decide)).1) dX1_limit_69 ?_
              refine lv_istore (lv' := [(7, .int (sr_dg qq 1)), (6, .int (sr_dg pp 1)), (5, .int (nI (0 + 1))), (4, .int (sr_dg qq 0 * sr_dg qq 0)), (3, .int (sr_dg pp 0 * sr_dg pp 0)), (2, .int (sr_dg pp 0 * sr_dg qq 0)), (0, .ref y), (1, .int (nI j))]) hx hb dX1_limit_70 hl (by decide) rfl (fun ls hl => ?_)
              refine lv_iload_n hx hb dX1_limit_72 rfl (lv_at hl 5 rfl) ?_
              refine lv_iload hx hb dX1_limit_73 (lv_at hl 1 rfl) ?_
              refine lv_iload hx hb dX1_limit_75 (lv_at hl 0 rfl) ?_
              refine lv_imul hx hb dX1_limit_77 ?_
              refine lv_iadd hx hb dX1_limit_78 ?_
              refine lv_istore_n (lv' := [(2, .int ((sr_dg pp 0 * sr_dg qq 0) + ((sr_dg pp 1) * (sr_dg qq 1)))), (7, .int (sr_dg qq 1)), (6, .int (sr_dg pp 1)), (5, .int (nI (0 + 1))), (4, .int (sr_dg qq 0 * sr_dg qq 0)), (3, .int (sr_dg pp 0 * sr_dg pp 0)), (0, .ref y), (1, .int (nI j))]) hx hb dX1_limit_79 rfl hl (by decide) rfl (fun ls hl => ?_)
              refine lv_iload_n hx hb dX1_limit_80 rfl (lv_at hl 5 rfl) ?_
              refine lv_iload hx hb dX1_limit_81 (lv_at hl 2 rfl) ?_
              refine lv_iload hx hb dX1_limit_83 (lv_at hl 2 rfl) ?_
              refine lv_imul hx hb dX1_limit_85 ?_
              refine lv_iadd hx hb dX1_limit_86 ?_
              refine lv_istore_n (lv' := [(3, .int ((sr_dg pp 0 * sr_dg pp 0) + ((sr_dg pp 1) * (sr_dg pp 1)))), (2, .int ((sr_dg pp 0 * sr_dg qq 0) + ((sr_dg pp 1) * (sr_dg qq 1)))), (7, .int (sr_dg qq 1)), (6, .int (sr_dg pp 1)), (5, .int (nI (0 + 1))), (4, .int (sr_dg qq 0 * sr_dg qq 0)), (0, .ref y), (1, .int (nI j))]) hx hb dX1_limit_87 rfl hl (by decide) rfl (fun ls hl => ?_)
              refine lv_iload hx hb dX1_limit_88 (lv_at hl 5 rfl) ?_
              refine lv_iload hx hb dX1_limit_90 (lv_at hl 2 rfl) ?_
              refine lv_iload hx hb dX1_limit_92 (lv_at hl 2 rfl) ?_
              refine lv_imul hx hb dX1_limit_94 ?_
              refine lv_iadd hx hb dX1_limit_95 ?_
              refine lv_istore (lv' := [(4, .int ((sr_dg qq 0 * sr_dg qq 0) + ((sr_dg qq 1) * (sr_dg qq 1)))), (3, .int ((sr_dg pp 0 * sr_dg pp 0) + ((sr_dg pp 1) * (sr_dg pp 1)))), (2, .int ((sr_dg pp 0 * sr_dg qq 0) + ((sr_dg pp 1) * (sr_dg qq 1)))), (7, .int (sr_dg qq 1)), (6, .int (sr_dg pp 1)), (5, .int (nI (0 + 1))), (0, .ref y), (1, .int (nI j))]) hx hb dX1_limit_96 hl (by decide) rfl (fun ls hl => ?_)
              refine lv_iinc (v := nI ((0 + 1) + 1)) (lv' := [(5, .int (nI ((0 + 1) + 1))), (4, .int ((sr_dg qq 0 * sr_dg qq 0) + ((sr_dg qq 1) * (sr_dg qq 1)))), (3, .int ((sr_dg pp 0 * sr_dg pp 0) + ((sr_dg pp 1) * (sr_dg pp 1)))), (2, .int ((sr_dg pp 0 * sr_dg qq 0) + ((sr_dg pp 1) * (sr_dg qq 1)))), (7, .int (sr_dg qq 1)), (6, .int (sr_dg pp 1)), (0, .ref y), (1, .int (nI j))]) hx hb dX1_limit_98 hl (k := 5) rfl (nI_1 _) (by decide) rfl (fun ls hl => ?_)
              refine lv_goto (tgt := 38) hx hb dX1_limit_101 (by decide) ?_
              refine lv_iload hx hb dX1_limit_38 (lv_at hl 0 rfl) ?_
              refine lv_iconst (v := nI 3) hx hb dX1_limit_40 (by decide) ?_
              refine lv_icmp_ge (tgt := 104) hx hb dX1_limit_41 (by decide) (fun k2 => ?_) (fun k2 => ?_)
              · exact absurd k2 (by decide)
              · refine lv_aload_n hx hb dX1_limit_44 rfl (lv_at hl 6 rfl) ?_
                refine va_get (D := (dC, dI)) (ci := 1) (v := .ref b4) (C := RX1) (T := TX1) (N := 10) hx hb hts hin1 hown hK hP 0 rfl rfl 3 (by decide) (hts (.fieldLink RX1 20 "SpeedRowsModel" "lasts" "[B") (by decide +kernel)) (fun _ h9 => h9) rfl dX1_limit_45 ?_
                refine lv_iconst (v := nI 3) hx hb dX1_limit_48 (by decide) ?_
                refine lv_iload_n hx hb dX1_limit_49 rfl (lv_at hl 7 rfl) ?_
                refine lv_iconst (v := nI 1) hx hb dX1_limit_50 (by decide) ?_
                refine lv_isub hx hb dX1_limit_51 ?_
                refine sr_ti (y := nI (j - 1)) (pk_sub (by omega)) ?_
                refine lv_imul hx hb dX1_limit_52 ?_
                refine sr_ti (y := nI (3 * (j - 1))) (pk_mul _ _) ?_
                refine lv_iload hx hb dX1_limit_53 (lv_at hl 0 rfl) ?_
                refine lv_iadd hx hb dX1_limit_55 ?_
                refine sr_ti (y := nI ((3 * (j - 1)) + ((0 + 1) + 1))) (nI_add _ _) ?_
                refine sr_bald (v := sr_dg pp 2) hx hb hK hP 4 3 rfl rfl (by omega) (by decide) ((m3 2 (by decide)).2) dX1_limit_56 ?_
                refine lv_istore (lv' := [(6, .int (sr_dg pp 2)), (5, .int (nI ((0 + 1) + 1))), (4, .int ((sr_dg qq 0 * sr_dg qq 0) + ((sr_dg qq 1) * (sr_dg qq 1)))), (3, .int ((sr_dg pp 0 * sr_dg pp 0) + ((sr_dg pp 1) * (sr_dg pp 1)))), (2, .int ((sr_dg pp 0 * sr_dg qq 0) + ((sr_dg pp 1) * (sr_dg qq 1)))), (7, .int (sr_dg qq 1)), (0, .ref y), (1, .int (nI j))]) hx hb dX1_limit_57 hl (by decide) rfl (fun ls hl => ?_)
                refine lv_aload_n hx hb dX1_limit_59 rfl (lv_at hl 6 rfl) ?_
                refine va_get (D := (dC, dI)) (ci := 1) (v := .ref b3) (C := RX1) (T := TX1) (N := 10) hx hb hts hin1 hown hK hP 0 rfl rfl 2 (by decide) (hts (.fieldLink RX1 16 "SpeedRowsModel" "firsts" "[B") (by decide +kernel)) (fun _ h9 => h9) rfl dX1_limit_60 ?_
                refine lv_iconst (v := nI 3) hx hb dX1_limit_63 (by decide) ?_
                refine lv_iload_n hx hb dX1_limit_64 rfl (lv_at hl 7 rfl) ?_
                refine lv_imul hx hb dX1_limit_65 ?_
                refine sr_ti (y := nI (3 * j)) (pk_mul _ _) ?_
                refine lv_iload hx hb dX1_limit_66 (lv_at hl 1 rfl) ?_
                refine lv_iadd hx hb dX1_limit_68 ?_
                refine sr_ti (y := nI ((3 * j) + ((0 + 1) + 1))) (nI_add _ _) ?_
                refine sr_bald (v := sr_dg qq 2) hx hb hK hP 3 2 rfl rfl (by omega) (by decide) ((m6 2 (by decide)).1) dX1_limit_69 ?_
                refine lv_istore (lv' := [(7, .int (sr_dg qq 2)), (6, .int (sr_dg pp 2)), (5, .int (nI ((0 + 1) + 1))), (4, .int ((sr_dg qq 0 * sr_dg qq 0) + ((sr_dg qq 1) * (sr_dg qq 1)))), (3, .int ((sr_dg pp 0 * sr_dg pp 0) + ((sr_dg pp 1) * (sr_dg pp 1)))), (2, .int ((sr_dg pp 0 * sr_dg qq 0) + ((sr_dg pp 1) * (sr_dg qq 1)))), (0, .ref y), (1, .int (nI j))]) hx hb dX1_limit_70 hl (by decide) rfl (fun ls hl => ?_)
                refine lv_iload_n hx hb dX1_limit_72 rfl (lv_at hl 5 rfl) ?_
                refine lv_iload hx hb dX1_limit_73 (lv_at hl 1 rfl) ?_
                refine lv_iload hx hb dX1_limit_75 (lv_at hl 0 rfl) ?_
                refine lv_imul hx hb dX1_limit_77 ?_
                refine lv_iadd hx hb dX1_limit_78 ?_
                refine lv_istore_n (lv' := [(2, .int (((sr_dg pp 0 * sr_dg qq 0) + ((sr_dg pp 1) * (sr_dg qq 1))) + ((sr_dg pp 2) * (sr_dg qq 2)))), (7, .int (sr_dg qq 2)), (6, .int (sr_dg pp 2)), (5, .int (nI ((0 + 1) + 1))), (4, .int ((sr_dg qq 0 * sr_dg qq 0) + ((sr_dg qq 1) * (sr_dg qq 1)))), (3, .int ((sr_dg pp 0 * sr_dg pp 0) + ((sr_dg pp 1) * (sr_dg pp 1)))), (0, .ref y), (1, .int (nI j))]) hx hb dX1_limit_79 rfl hl (by decide) rfl (fun ls hl => ?_)
                refine lv_iload_n hx hb dX1_limit_80 rfl (lv_at hl 5 rfl) ?_
                refine lv_iload hx hb dX1_limit_81 (lv_at hl 2 rfl) ?_
                refine lv_iload hx hb dX1_limit_83 (lv_at hl 2 rfl) ?_
                refine lv_imul hx hb dX1_limit_85 ?_
                refine lv_iadd hx hb dX1_limit_86 ?_
                refine sr_ti (y := nI (sr_pd pp pp)) (sr_m_sq pp hp4.1) ?_
                refine lv_istore_n (lv' := [(3, .int (nI (sr_pd pp pp))), (2, .int (((sr_dg pp 0 * sr_dg qq 0) + ((sr_dg pp 1) * (sr_dg qq 1))) + ((sr_dg pp 2) * (sr_dg qq 2)))), (7, .int (sr_dg qq 2)), (6, .int (sr_dg pp 2)), (5, .int (nI ((0 + 1) + 1))), (4, .int ((sr_dg qq 0 * sr_dg qq 0) + ((sr_dg qq 1) * (sr_dg qq 1)))), (0, .ref y), (1, .int (nI j))]) hx hb dX1_limit_87 rfl hl (by decide) rfl (fun ls hl => ?_)
                refine lv_iload hx hb dX1_limit_88 (lv_at hl 5 rfl) ?_
                refine lv_iload hx hb dX1_limit_90 (lv_at hl 2 rfl) ?_
                refine lv_iload hx hb dX1_limit_92 (lv_at hl 2 rfl) ?_
                refine lv_imul hx hb dX1_limit_94 ?_
                refine lv_iadd hx hb dX1_limit_95 ?_
                refine sr_ti (y := nI (sr_pd qq qq)) (sr_m_sq qq hq3.1) ?_
                refine lv_istore (lv' := [(4, .int (nI (sr_pd qq qq))), (3, .int (nI (sr_pd pp pp))), (2, .int (((sr_dg pp 0 * sr_dg qq 0) + ((sr_dg pp 1) * (sr_dg qq 1))) + ((sr_dg pp 2) * (sr_dg qq 2)))), (7, .int (sr_dg qq 2)), (6, .int (sr_dg pp 2)), (5, .int (nI ((0 + 1) + 1))), (0, .ref y), (1, .int (nI j))]) hx hb dX1_limit_96 hl (by decide) rfl (fun ls hl => ?_)
                refine lv_iinc (v := nI (((0 + 1) + 1) + 1)) (lv' := [(5, .int (nI (((0 + 1) + 1) + 1))), (4, .int (nI (sr_pd qq qq))), (3, .int (nI (sr_pd pp pp))), (2, .int (((sr_dg pp 0 * sr_dg qq 0) + ((sr_dg pp 1) * (sr_dg qq 1))) + ((sr_dg pp 2) * (sr_dg qq 2)))), (7, .int (sr_dg qq 2)), (6, .int (sr_dg pp 2)), (0, .ref y), (1, .int (nI j))]) hx hb dX1_limit_98 hl (k := 5) rfl (nI_1 _) (by decide) rfl (fun ls hl => ?_)
                refine lv_goto (tgt := 38) hx hb dX1_limit_101 (by decide) ?_
                refine lv_iload hx hb dX1_limit_38 (lv_at hl 0 rfl) ?_
                refine lv_iconst (v := nI 3) hx hb dX1_limit_40 (by decide) ?_
                refine lv_icmp_ge (tgt := 104) hx hb dX1_limit_41 (by decide) (fun k3 => ?_) (fun k3 => ?_)
                · refine lv_aload_n hx hb dX1_limit_104 rfl (lv_at hl 6 rfl) ?_
                  refine va_get (D := (dC, dI)) (ci := 1) (v := .ref b2) (C := RX1) (T := TX1) (N := 10) hx hb hts hin1 hown hK hP 0 rfl rfl 1 (by decide) (hts (.fieldLink RX1 13 "SpeedRowsModel" "feeds" "[I") (by decide +kernel)) (fun _ h9 => h9) rfl dX1_limit_105 ?_
                  refine lv_iload_n hx hb dX1_limit_108 rfl (lv_at hl 7 rfl) ?_
                  refine lv_iconst (v := nI 1) hx hb dX1_limit_109 (by decide) ?_
                  refine lv_isub hx hb dX1_limit_110 ?_
                  refine sr_ti (y := nI (j - 1)) (pk_sub (by omega)) ?_
                  refine sr_iald (v := nI (fd (j - 1))) hx hb hK hP 2 1 rfl rfl (by omega) (by decide) (m2) dX1_limit_111 ?_
                  refine lv_aload_n hx hb dX1_limit_112 rfl (lv_at hl 6 rfl) ?_
                  refine va_get (D := (dC, dI)) (ci := 1) (v := .ref b2) (C := RX1) (T := TX1) (N := 10) hx hb hts hin1 hown hK hP 0 rfl rfl 1 (by decide) (hts (.fieldLink RX1 13 "SpeedRowsModel" "feeds" "[I") (by decide +kernel)) (fun _ h9 => h9) rfl dX1_limit_113 ?_
                  refine lv_iload_n hx hb dX1_limit_116 rfl (lv_at hl 7 rfl) ?_
                  refine sr_iald (v := nI (fd j)) hx hb hK hP 2 1 rfl rfl (by omega) (by decide) (m5) dX1_limit_117 ?_
                  refine va_mmin hx hb (by rw [hml]; exact hl.1.symm) hown (hts (.methodLink RX1 53 Lib.Math.min.name) (by decide +kernel)) (hts (.static Lib.Math.min.name) (by decide +kernel)) (hts (.initialized "java/lang/Math") (by decide +kernel)) (hts (.code Lib.Math.min.name Lib.Math.min.code 2 (some .int)) (by decide +kernel)) (Nat.le_of_ble_eq_true rfl) (Nat.le_of_ble_eq_true rfl) (Nat.zero_le _) (Nat.zero_le _) dX1_limit_118 ?_
                  refine sr_ti (y := nI (min (fd (j - 1)) (fd j))) (sr_minN (by omega) (by omega)) ?_
                  refine lv_iload_n hx hb dX1_limit_121 rfl (lv_at hl 3 rfl) ?_
                  refine lv_iconst (v := 0) hx hb dX1_limit_122 (by decide) ?_
                  refine va_mmax hx hb (by rw [hml]; exact hl.1.symm) hown (hts (.methodLink RX1 59 Lib.Math.max.name) (by decide +kernel)) (hts (.static Lib.Math.max.name) (by decide +kernel)) (hts (.initialized "java/lang/Math") (by decide +kernel)) (hts (.code Lib.Math.max.name Lib.Math.max.code 2 (some .int)) (by decide +kernel)) (Nat.le_of_ble_eq_true rfl) (Nat.le_of_ble_eq_true rfl) (Nat.zero_le _) (Nat.zero_le _) dX1_limit_123 ?_
                  refine sr_ti (y := nI (sr_pd pp qq)) (sr_m_all pp hp4.1 qq hq3.1) ?_
                  refine lv_imul hx hb dX1_limit_126 ?_
                  refine sr_ti (y := nI ((min (fd (j - 1)) (fd j)) * (sr_pd pp qq))) (pk_mul _ _) ?_
                  refine lv_iload_n hx hb dX1_limit_127 rfl (lv_at hl 2 rfl) ?_
                  refine lv_iload hx hb dX1_limit_128 (lv_at hl 1 rfl) ?_
                  refine va_mmax hx hb (by rw [hml]; exact hl.1.symm) hown (hts (.methodLink RX1 59 Lib.Math.max.name) (by decide +kernel)) (hts (.static Lib.Math.max.name) (by decide +kernel)) (hts (.initialized "java/lang/Math") (by decide +kernel)) (hts (.code Lib.Math.max.name Lib.Math.max.code 2 (some .int)) (by decide +kernel)) (Nat.le_of_ble_eq_true rfl) (Nat.le_of_ble_eq_true rfl) (Nat.zero_le _) (Nat.zero_le _) dX1_limit_130 ?_
                  refine sr_ti (y := nI (sr_mx pp qq)) (sr_maxN (by omega) (by omega)) ?_
                  refine lv_idiv hx hb dX1_limit_133 (nI_ne0 (by omega) (by omega)) ?_
                  refine sr_ti (y := nI (min (fd (j - 1)) (fd j) * sr_pd pp qq / sr_mx pp qq)) (pk_div (by omega) (by omega) (by omega)) ?_
                  exact W.iret (v := nI (min (fd (j - 1)) (fd j) * sr_pd pp qq / sr_mx pp qq)) hx hb hr (fun t ht hW => ⟨⟨nI (min (fd (j - 1)) (fd j) * sr_pd pp qq / sr_mx pp qq), _, rfl, ⟨rfl, by rw [ean, sr_lim_in hj0 hjm, sr_tm, if_neg hj0, epp, eqq]⟩, by rw [ht]; exact hP, va_K.moved hW.alike hK, hD⟩, hS.F ht⟩) hS.2.2 dX1_limit_134
                · exact absurd (by decide) k3
        · have hjm : j = mo := (nI_eq (by omega) (by omega)).mp c4
          refine lv_iconst (v := nI 0) hx hb dX1_limit_26 (by decide) ?_
          exact W.iret (v := nI 0) hx hb hr (fun t ht hW => ⟨⟨nI 0, _, rfl, ⟨rfl, by rw [ean, sr_lim_top (by omega)]⟩, by rw [ht]; exact hP, va_K.moved hW.alike hK, hD⟩, hS.F ht⟩) hS.2.2 dX1_limit_27
    · refine lv_iconst (v := (-1)) hx hb dX1_limit_12 (by decide) ?_
      exact W.iret (v := (-1)) hx hb hr (fun t ht hW => ⟨⟨(-1), _, rfl, ⟨rfl, by rw [sr_an, if_neg (fun q => c2 q.2)]⟩, by rw [ht]; exact hP, va_K.moved hW.alike hK, hD⟩, hS.F ht⟩) hS.2.2 dX1_limit_13
