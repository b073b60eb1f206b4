/-! THE REFERENCE: isStep, told, first, last, root, reach, lowered. -/
set_option maxHeartbeats 4000000 in
set_option maxRecDepth 100000 in
theorem c_X1_isStep (l : Launch) (x y z : Int32) : Met l yX1_isStep wsX1_isStep ({ frames := 0, cells := 0, slots := 0, locals := 0 }) (va_Pc [.int x, .int y, .int z] (fun _ => True)) (vp_Si (fun r => (r = 1 ∧ sr_isS x y z) ∨ (r = 0 ∧ ¬ sr_isS x y z))) 0 0 (fun _ => False) := by
  refine Met.ofW (cc := cX1_isStep) (maxL := 3) (ret := (some .boolean)) (by decide) rfl ?_
  intro p e s m args below meth c s₁ B hml hv
  obtain ⟨rfl, -⟩ := hv
  have hx := B.exec
  have hb := B.bytes
  have hr := B.returns
  have hts := atoms_spec (ws := wsX1_isStep) B.pre
  have hown : s.vm.findClass RX1 = some m.cls := findClass_of_methodNamed B.named
  have hlocks := B.notSynchronized
  have hl := lv_entry ([.int x, .int y, .int z]) (n := 3) (Nat.le_of_ble_eq_true rfl)
  rw [lg_entry_eq]
  generalize (lg_sl ([.int x, .int y, .int z]) ++ List.replicate (3 - (lg_sl ([.int x, .int y, .int z])).length) Slot.unset).toArray = ls at hl ⊢
  have hl : lv_has ls 3 [(0, .int x), (1, .int y), (2, .int z)] := hl
  refine lv_iload_n hx hb dX1_isStep_0 rfl (lv_at hl 0 rfl) ?_
  refine lv_iconst (v := (-1)) hx hb dX1_isStep_1 (by decide) ?_
  refine lv_icmp_lt (tgt := 46) hx hb dX1_isStep_2 (by decide) (fun k0 => ?_) (fun k0 => ?_)
  · refine lv_iconst (v := 0) hx hb dX1_isStep_46 (by decide) ?_
    exact W.zret (v := 0) hx hb hr rfl (fun t ht hW => ⟨0, rfl, Or.inr ⟨rfl, fun h => absurd h.1.1.1.1.1.1 (Int32.not_le.mpr k0)⟩, ht⟩) (fun q h => absurd h List.not_mem_nil) dX1_isStep_47
  · refine lv_iload_n hx hb dX1_isStep_5 rfl (lv_at hl 0 rfl) ?_
    refine lv_iconst (v := 1) hx hb dX1_isStep_6 (by decide) ?_
    refine lv_icmp_gt (tgt := 46) hx hb dX1_isStep_7 (by decide) (fun k1 => ?_) (fun k1 => ?_)
    · refine lv_iconst (v := 0) hx hb dX1_isStep_46 (by decide) ?_
      exact W.zret (v := 0) hx hb hr rfl (fun t ht hW => ⟨0, rfl, Or.inr ⟨rfl, fun h => absurd h.1.1.1.1.1.2 (Int32.not_le.mpr k1)⟩, ht⟩) (fun q h => absurd h List.not_mem_nil) dX1_isStep_47
    · refine lv_iload_n hx hb dX1_isStep_10 rfl (lv_at hl 1 rfl) ?_
      refine lv_iconst (v := (-1)) hx hb dX1_isStep_11 (by decide) ?_
      refine lv_icmp_lt (tgt := 46) hx hb dX1_isStep_12 (by decide) (fun k2 => ?_) (fun k2 => ?_)
      · refine lv_iconst (v := 0) hx hb dX1_isStep_46 (by decide) ?_
        exact W.zret (v := 0) hx hb hr rfl (fun t ht hW => ⟨0, rfl, Or.inr ⟨rfl, fun h => absurd h.1.1.1.1.2 (Int32.not_le.mpr k2)⟩, ht⟩) (fun q h => absurd h List.not_mem_nil) dX1_isStep_47
      · refine lv_iload_n hx hb dX1_isStep_15 rfl (lv_at hl 1 rfl) ?_
        refine lv_iconst (v := 1) hx hb dX1_isStep_16 (by decide) ?_
        refine lv_icmp_gt (tgt := 46) hx hb dX1_isStep_17 (by decide) (fun k3 => ?_) (fun k3 => ?_)
        · refine lv_iconst (v := 0) hx hb dX1_isStep_46 (by decide) ?_
          exact W.zret (v := 0) hx hb hr rfl (fun t ht hW => ⟨0, rfl, Or.inr ⟨rfl, fun h => absurd h.1.1.1.2 (Int32.not_le.mpr k3)⟩, ht⟩) (fun q h => absurd h List.not_mem_nil) dX1_isStep_47
        · refine lv_iload_n hx hb dX1_isStep_20 rfl (lv_at hl 2 rfl) ?_
          refine lv_iconst (v := (-1)) hx hb dX1_isStep_21 (by decide) ?_
          refine lv_icmp_lt (tgt := 46) hx hb dX1_isStep_22 (by decide) (fun k4 => ?_) (fun k4 => ?_)
          · refine lv_iconst (v := 0) hx hb dX1_isStep_46 (by decide) ?_
            exact W.zret (v := 0) hx hb hr rfl (fun t ht hW => ⟨0, rfl, Or.inr ⟨rfl, fun h => absurd h.1.1.2 (Int32.not_le.mpr k4)⟩, ht⟩) (fun q h => absurd h List.not_mem_nil) dX1_isStep_47
          · refine lv_iload_n hx hb dX1_isStep_25 rfl (lv_at hl 2 rfl) ?_
            refine lv_iconst (v := 1) hx hb dX1_isStep_26 (by decide) ?_
            refine lv_icmp_gt (tgt := 46) hx hb dX1_isStep_27 (by decide) (fun k5 => ?_) (fun k5 => ?_)
            · refine lv_iconst (v := 0) hx hb dX1_isStep_46 (by decide) ?_
              exact W.zret (v := 0) hx hb hr rfl (fun t ht hW => ⟨0, rfl, Or.inr ⟨rfl, fun h => absurd h.1.2 (Int32.not_le.mpr k5)⟩, ht⟩) (fun q h => absurd h List.not_mem_nil) dX1_isStep_47
            · refine lv_iload_n hx hb dX1_isStep_30 rfl (lv_at hl 0 rfl) ?_
              refine lv_if_ne (tgt := 42) hx hb dX1_isStep_31 (by decide) (fun n1 => ?_) (fun n1 => ?_)
              · refine lv_iconst (v := 1) hx hb dX1_isStep_42 (by decide) ?_
                refine lv_goto (tgt := 47) hx hb dX1_isStep_43 (by decide) ?_
                exact W.zret (v := 1) hx hb hr rfl (fun t ht hW => ⟨1, rfl, Or.inl ⟨rfl, ⟨⟨⟨⟨⟨⟨Int32.not_lt.mp k0, Int32.not_lt.mp k1⟩, Int32.not_lt.mp k2⟩, Int32.not_lt.mp k3⟩, Int32.not_lt.mp k4⟩, Int32.not_lt.mp k5⟩, Or.inl n1⟩⟩, ht⟩) (fun q h => absurd h List.not_mem_nil) dX1_isStep_47
              · refine lv_iload_n hx hb dX1_isStep_34 rfl (lv_at hl 1 rfl) ?_
                refine lv_if_ne (tgt := 42) hx hb dX1_isStep_35 (by decide) (fun n2 => ?_) (fun n2 => ?_)
                · refine lv_iconst (v := 1) hx hb dX1_isStep_42 (by decide) ?_
                  refine lv_goto (tgt := 47) hx hb dX1_isStep_43 (by decide) ?_
                  exact W.zret (v := 1) hx hb hr rfl (fun t ht hW => ⟨1, rfl, Or.inl ⟨rfl, ⟨⟨⟨⟨⟨⟨Int32.not_lt.mp k0, Int32.not_lt.mp k1⟩, Int32.not_lt.mp k2⟩, Int32.not_lt.mp k3⟩, Int32.not_lt.mp k4⟩, Int32.not_lt.mp k5⟩, Or.inr (Or.inl n2)⟩⟩, ht⟩) (fun q h => absurd h List.not_mem_nil) dX1_isStep_47
                · refine lv_iload_n hx hb dX1_isStep_38 rfl (lv_at hl 2 rfl) ?_
                  refine lv_if_eq (tgt := 46) hx hb dX1_isStep_39 (by decide) (fun n3 => ?_) (fun n3 => ?_)
                  · refine lv_iconst (v := 0) hx hb dX1_isStep_46 (by decide) ?_
                    exact W.zret (v := 0) hx hb hr rfl (fun t ht hW => ⟨0, rfl, Or.inr ⟨rfl, fun h => h.2.elim (fun q => q n1) (fun q => q.elim (fun q => q n2) (fun q => q n3))⟩, ht⟩) (fun q h => absurd h List.not_mem_nil) dX1_isStep_47
                  · refine lv_iconst (v := 1) hx hb dX1_isStep_42 (by decide) ?_
                    refine lv_goto (tgt := 47) hx hb dX1_isStep_43 (by decide) ?_
                    exact W.zret (v := 1) hx hb hr rfl (fun t ht hW => ⟨1, rfl, Or.inl ⟨rfl, ⟨⟨⟨⟨⟨⟨Int32.not_lt.mp k0, Int32.not_lt.mp k1⟩, Int32.not_lt.mp k2⟩, Int32.not_lt.mp k3⟩, Int32.not_lt.mp k4⟩, Int32.not_lt.mp k5⟩, Or.inr (Or.inr n3)⟩⟩, ht⟩) (fun q h => absurd h List.not_mem_nil) dX1_isStep_47
set_option maxHeartbeats 4000000 in
set_option maxRecDepth 100000 in
theorem c_X1_told (l : Launch) (dC : Nat → ClassId) (dI : Nat → Nat → Nat) (b : Nat) (tb : ClassId) (sz : Nat) (U : Nat → Int32) (px py pz : Int32) : Met l yX1_told wsX1_told ({ frames := 1, cells := 0, slots := 0, locals := 22 }) (sr_pre dC dI ([(tb, .byte)]) ([(b, .inl (tb, 3, .inl U))]) sz [.ref b, .int px, .int py, .int pz]) (va_Qi (fun (r : Int32) (u : va_W) => ∃ U' : Nat → Int32, u = [(b, .inl (tb, 3, .inl U'))] ∧ ((sr_isS px py pz ∧ r = 1 ∧ U' 0 = px ∧ U' 1 = py ∧ U' 2 = pz) ∨ (¬ sr_isS px py pz ∧ r = 0 ∧ U' = U))) (sr_at dC dI ([(tb, .byte)]) (va_A ([(b, .inl (tb, 3, .inl U))]) sz)) (va_A ([(b, .inl (tb, 3, .inl U))]) sz)) 0 0 (va_A ([(b, .inl (tb, 3, .inl U))]) sz) := by
  refine Met.ofW (cc := cX1_told) (maxL := 4) (ret := (some .boolean)) (by decide) rfl ?_
  intro p e s m args below meth c s₁ B hml hv
  obtain ⟨rfl, hsz, hP, hK, hD0⟩ := hv
  have hx := B.exec
  have hb := B.bytes
  have hr := B.returns
  have hts := atoms_spec (ws := wsX1_told) B.pre
  have hown : s.vm.findClass RX1 = some m.cls := findClass_of_methodNamed B.named
  have hlocks := B.notSynchronized
  subst hsz
  have hD := hD0.self (sz := s.heap.size)
  generalize hAe : va_A ([(b, .inl (tb, 3, .inl U))]) s.heap.size = A at hD ⊢
  have hA : ∀ q : Nat, s.heap.size ≤ q → A q := fun q h => by rw [← hAe]; exact Or.inr h
  have hS : va_S A s.heap s.heap [] := va_S.rf
  have hP : va_P (dC, dI) vwCl [(b, .inl (tb, 3, .inl U))] s.heap := hP
  have hD : va_D A [(b, .inl (tb, 3, .inl U))] := hD
  have hK : va_K (dC, dI) vwCl [(tb, .byte)] s := hK
  have hl := lv_entry ([.ref b, .int px, .int py, .int pz]) (n := 4) (Nat.le_of_ble_eq_true rfl)
  rw [lg_entry_eq]
  generalize (lg_sl ([.ref b, .int px, .int py, .int pz]) ++ List.replicate (4 - (lg_sl ([.ref b, .int px, .int py, .int pz])).length) Slot.unset).toArray = ls at hl ⊢
  have hl : lv_has ls 4 [(0, .ref b), (1, .int px), (2, .int py), (3, .int pz)] := hl
  refine lv_iload_n hx hb dX1_told_0 rfl (lv_at hl 1 rfl) ?_
  refine lv_iload_n hx hb dX1_told_1 rfl (lv_at hl 2 rfl) ?_
  refine lv_iload_n hx hb dX1_told_2 rfl (lv_at hl 3 rfl) ?_
  refine vp_callSi (W.runS (As := [.int px, .int py, .int pz]) (rest := []) ⟨hx, hb, hml, hown, hts⟩ (c_X1_isStep l px py pz) (va_cwS 3 hts gX1_told_X1_isStep rfl rfl rfl (by decide +kernel) ⟨Nat.le_of_ble_eq_true rfl, Nat.le_of_ble_eq_true rfl⟩) ⟨sr_blindT, sr_mkT⟩ rfl rfl hl.1 rfl (lv_room (Nat.le_of_ble_eq_true rfl)) dX1_told_3 ⟨Nat.zero_le _, Nat.zero_le _⟩) (fun r er => ?_)
  refine lv_if_ne (tgt := 11) hx hb dX1_told_6 (by decide) (fun c1 => ?_) (fun c1 => ?_)
  · have hc : sr_isS px py pz := by
      rcases er with ⟨_, q⟩ | ⟨q, _⟩
      · exact q
      · exact absurd q c1
    obtain ⟨q, hq, e1, e2, e3⟩ := sr_step hc
    refine lv_aload_n hx hb dX1_told_11 rfl (lv_at hl 0 rfl) ?_
    refine lv_iconst (v := nI 0) hx hb dX1_told_12 (by decide) ?_
    refine lv_iload_n hx hb dX1_told_13 rfl (lv_at hl 1 rfl) ?_
    refine lv_i2b (v := px) hx hb dX1_told_14 (by rw [e1]; exact sr_dg_i2b q hq.1 0 (by decide)) ?_
    refine sr_bast (v := px) hx hb hK hP hD hS 0 0 rfl rfl (by decide) (by decide) (by rw [e1]; exact sr_dg_nar q hq.1 0 (by decide)) dX1_told_15 (fun H locs hP hD hS => ?_)
    have hP : va_P (dC, dI) vwCl [(b, .inl (tb, 3, .inl (upd U 0 px)))] H := hP
    have hD : va_D A [(b, .inl (tb, 3, .inl (upd U 0 px)))] := hD
    refine lv_aload_n hx hb dX1_told_16 rfl (lv_at hl 0 rfl) ?_
    refine lv_iconst (v := nI 1) hx hb dX1_told_17 (by decide) ?_
    refine lv_iload_n hx hb dX1_told_18 rfl (lv_at hl 2 rfl) ?_
    refine lv_i2b (v := py) hx hb dX1_told_19 (by rw [e2]; exact sr_dg_i2b q hq.1 1 (by decide)) ?_
    refine sr_bast (v := py) hx hb hK hP hD hS 0 0 rfl rfl (by decide) (by decide) (by rw [e2]; exact sr_dg_nar q hq.1 1 (by decide)) dX1_told_20 (fun H locs hP hD hS => ?_)
    have hP : va_P (dC, dI) vwCl [(b, .inl (tb, 3, .inl (upd (upd U 0 px) 1 py)))] H := hP
    have hD : va_D A [(b, .inl (tb, 3, .inl (upd (upd U 0 px) 1 py)))] := hD
    refine lv_aload_n hx hb dX1_told_21 rfl (lv_at hl 0 rfl) ?_
    refine lv_iconst (v := nI 2) hx hb dX1_told_22 (by decide) ?_
    refine lv_iload_n hx hb dX1_told_23 rfl (lv_at hl 3 rfl) ?_
    refine lv_i2b (v := pz) hx hb dX1_told_24 (by rw [e3]; exact sr_dg_i2b q hq.1 2 (by decide)) ?_
    refine sr_bast (v := pz) hx hb hK hP hD hS 0 0 rfl rfl (by decide) (by decide) (by rw [e3]; exact sr_dg_nar q hq.1 2 (by decide)) dX1_told_25 (fun H locs hP hD hS => ?_)
    have hP : va_P (dC, dI) vwCl [(b, .inl (tb, 3, .inl (upd (upd (upd U 0 px) 1 py) 2 pz)))] H := hP
    have hD : va_D A [(b, .inl (tb, 3, .inl (upd (upd (upd U 0 px) 1 py) 2 pz)))] := hD
    refine lv_iconst (v := 1) hx hb dX1_told_26 (by decide) ?_
    exact W.zret (v := 1) hx hb hr rfl (fun t ht hW => ⟨⟨1, _, rfl, ⟨_, rfl, Or.inl ⟨hc, rfl, by rw [pk_un (by decide), pk_un (by decide), pk_us], by rw [pk_un (by decide), pk_us], by rw [pk_us]⟩⟩, by rw [ht]; exact hP, va_K.moved hW.alike hK, hD⟩, hS.F ht⟩) hS.2.2 dX1_told_27
  · have hc : ¬ (sr_isS px py pz) := by
      rcases er with ⟨q, _⟩ | ⟨_, q⟩
      · exact absurd (q.symm.trans c1) (by decide)
      · exact q
    refine lv_iconst (v := 0) hx hb dX1_told_9 (by decide) ?_
    exact W.zret (v := 0) hx hb hr rfl (fun t ht hW => ⟨⟨0, _, rfl, ⟨U, rfl, Or.inr ⟨hc, rfl, rfl⟩⟩, by rw [ht]; exact hP, va_K.moved hW.alike hK, hD⟩, hS.F ht⟩) hS.2.2 dX1_told_10
set_option maxHeartbeats 4000000 in
set_option maxRecDepth 100000 in
theorem c_X1_first (l : Launch) (dC : Nat → ClassId) (dI : Nat → Nat → Nat) (y b1 b2 b3 b4 b5 b6 b7 : Nat) (t1 t2 t3 t4 t5 t6 t7 : ClassId) (sz : Nat) (mo ac : Nat) (kn : Int32) (T F I J U V S : Nat → Int32) (px py pz : Int32) : Met l yX1_first wsX1_first ({ frames := 2, cells := 0, slots := 0, locals := 45 }) (sr_pre dC dI (sr_tM t1 t2 t3 t4 t5 t6 t7) (sr_wM y b1 b2 b3 b4 b5 b6 b7 t1 t2 t3 t4 t5 t6 t7 mo ac kn T F I J U V S) sz [.ref y, .int px, .int py, .int pz]) (va_Qi (fun (r : Int32) (u : va_W) => ∃ U' : Nat → Int32, u = sr_wM y b1 b2 b3 b4 b5 b6 b7 t1 t2 t3 t4 t5 t6 t7 mo ac kn T F I J U' V S ∧ ((sr_isS px py pz ∧ r = 1 ∧ U' 0 = px ∧ U' 1 = py ∧ U' 2 = pz) ∨ (¬ sr_isS px py pz ∧ r = 0 ∧ U' = U))) (sr_at dC dI (sr_tM t1 t2 t3 t4 t5 t6 t7) (va_A (sr_wM y b1 b2 b3 b4 b5 b6 b7 t1 t2 t3 t4 t5 t6 t7 mo ac kn T F I J U V S) sz)) (va_A (sr_wM y b1 b2 b3 b4 b5 b6 b7 t1 t2 t3 t4 t5 t6 t7 mo ac kn T F I J U V S) sz)) 0 0 (va_A (sr_wM y b1 b2 b3 b4 b5 b6 b7 t1 t2 t3 t4 t5 t6 t7 mo ac kn T F I J U V S) sz) := by
  refine Met.ofW (cc := cX1_first) (maxL := 4) (ret := (some .boolean)) (by decide) rfl ?_
  intro p e s m args below meth c s₁ B hml hv
  obtain ⟨rfl, hsz, hP, hK, hD0⟩ := hv
  have hx := B.exec
  have hb := B.bytes
  have hr := B.returns
  have hts := atoms_spec (ws := wsX1_first) B.pre
  have hown : s.vm.findClass RX1 = some m.cls := findClass_of_methodNamed B.named
  have hlocks := B.notSynchronized
  subst hsz
  have hD := hD0.self (sz := s.heap.size)
  generalize hAe : va_A (sr_wM y b1 b2 b3 b4 b5 b6 b7 t1 t2 t3 t4 t5 t6 t7 mo ac kn T F I J U V S) s.heap.size = A at hD ⊢
  have hA : ∀ q : Nat, s.heap.size ≤ q → A q := fun q h => by rw [← hAe]; exact Or.inr h
  have hS : va_S A s.heap s.heap [] := va_S.rf
  have hP : va_P (dC, dI) vwCl [(y, .inr (1, [.ref b1, .ref b2, .ref b3, .ref b4, .ref b5, .ref b6, .int (nI mo), .int (nI ac), .ref b7, .int kn])), (b1, .inl (t1, 2000, .inl T)), (b2, .inl (t2, 2000, .inl F)), (b3, .inl (t3, 6000, .inl I)), (b4, .inl (t4, 6000, .inl J)), (b5, .inl (t5, 3, .inl U)), (b6, .inl (t6, 3, .inl V)), (b7, .inl (t7, 2001, .inl S))] s.heap := hP
  have hD : va_D A [(y, .inr (1, [.ref b1, .ref b2, .ref b3, .ref b4, .ref b5, .ref b6, .int (nI mo), .int (nI ac), .ref b7, .int kn])), (b1, .inl (t1, 2000, .inl T)), (b2, .inl (t2, 2000, .inl F)), (b3, .inl (t3, 6000, .inl I)), (b4, .inl (t4, 6000, .inl J)), (b5, .inl (t5, 3, .inl U)), (b6, .inl (t6, 3, .inl V)), (b7, .inl (t7, 2001, .inl S))] := hD
  have hK : va_K (dC, dI) vwCl [(t1, .int), (t2, .int), (t3, .byte), (t4, .byte), (t5, .byte), (t6, .byte), (t7, .int)] s := hK
  have hin1 : ∀ w ∈ u_ws RX1 TX1 10, w ∈ wsX1_first := by decide +kernel
  have hl := lv_entry ([.ref y, .int px, .int py, .int pz]) (n := 4) (Nat.le_of_ble_eq_true rfl)
  rw [lg_entry_eq]
  generalize (lg_sl ([.ref y, .int px, .int py, .int pz]) ++ List.replicate (4 - (lg_sl ([.ref y, .int px, .int py, .int pz])).length) Slot.unset).toArray = ls at hl ⊢
  have hl : lv_has ls 4 [(0, .ref y), (1, .int px), (2, .int py), (3, .int pz)] := hl
  refine lv_aload_n hx hb dX1_first_0 rfl (lv_at hl 0 rfl) ?_
  refine va_get (D := (dC, dI)) (ci := 1) (v := .ref b5) (C := RX1) (T := TX1) (N := 10) hx hb hts hin1 hown hK hP 0 rfl rfl 4 (by decide) (hts (.fieldLink RX1 23 "SpeedRowsModel" "first" "[B") (by decide +kernel)) (fun _ h9 => h9) rfl dX1_first_1 ?_
  refine lv_iload_n hx hb dX1_first_4 rfl (lv_at hl 1 rfl) ?_
  refine lv_iload_n hx hb dX1_first_5 rfl (lv_at hl 2 rfl) ?_
  refine lv_iload_n hx hb dX1_first_6 rfl (lv_at hl 3 rfl) ?_
  have hPc := hP.sub (ws' := [(b5, .inl (t5, 3, .inl U))]) [5] rfl
  have hDc := hD.sub (ws' := [(b5, .inl (t5, 3, .inl U))]) [5] (by decide) rfl
  have hKc := hK.sub (tys' := [(t5, .byte)]) [4] rfl
  have hFc := va_free (wc := [(b5, .inl (t5, 3, .inl U))]) hD hS hA [5] rfl
  refine va_calli (va_runS (As := [.ref b5, .int px, .int py, .int pz]) (rest := []) ⟨hx, hb, hml, hown, hts⟩ (c_X1_told l dC dI b5 t5 s.heap.size U px py pz) (va_cwS 4 hts gX1_first_X1_told rfl rfl rfl (by decide +kernel) ⟨Nat.le_of_ble_eq_true rfl, Nat.le_of_ble_eq_true rfl⟩) ⟨sr_blind, sr_mk hPc hKc hDc⟩ rfl rfl hl.1 rfl (lv_room (Nat.le_of_ble_eq_true rfl)) dX1_first_7 ⟨Nat.zero_le _, Nat.zero_le _⟩) hS (fun q _ h => hFc q h) hFc (fun r u t H1 locs ht hvm hw hB hz1 hk1 hS => ?_)
  obtain ⟨hP1, hK1, hD1⟩ := hB
  rw [ht] at hP1
  obtain ⟨U2, rfl, hw⟩ := hw
  obtain ⟨hP, hD⟩ := va_join (wr := [(y, .inr (1, [.ref b1, .ref b2, .ref b3, .ref b4, .ref b5, .ref b6, .int (nI mo), .int (nI ac), .ref b7, .int kn])), (b1, .inl (t1, 2000, .inl T)), (b2, .inl (t2, 2000, .inl F)), (b3, .inl (t3, 6000, .inl I)), (b4, .inl (t4, 6000, .inl J)), (b6, .inl (t6, 3, .inl V)), (b7, .inl (t7, 2001, .inl S))]) (w1 := [(b5, .inl (t5, 3, .inl U2))]) hP hD [5] [0, 1, 2, 3, 4, 6, 7] rfl rfl (by decide) (by decide) hk1 hFc hP1 hD1
  generalize H1 = H at hP hS ⊢
  have hP : va_P (dC, dI) vwCl [(y, .inr (1, [.ref b1, .ref b2, .ref b3, .ref b4, .ref b5, .ref b6, .int (nI mo), .int (nI ac), .ref b7, .int kn])), (b1, .inl (t1, 2000, .inl T)), (b2, .inl (t2, 2000, .inl F)), (b3, .inl (t3, 6000, .inl I)), (b4, .inl (t4, 6000, .inl J)), (b6, .inl (t6, 3, .inl V)), (b7, .inl (t7, 2001, .inl S)), (b5, .inl (t5, 3, .inl U2))] H := hP
  have hD : va_D A [(y, .inr (1, [.ref b1, .ref b2, .ref b3, .ref b4, .ref b5, .ref b6, .int (nI mo), .int (nI ac), .ref b7, .int kn])), (b1, .inl (t1, 2000, .inl T)), (b2, .inl (t2, 2000, .inl F)), (b3, .inl (t3, 6000, .inl I)), (b4, .inl (t4, 6000, .inl J)), (b6, .inl (t6, 3, .inl V)), (b7, .inl (t7, 2001, .inl S)), (b5, .inl (t5, 3, .inl U2))] := hD
  have hP := hP.sub (ws' := [(y, .inr (1, [.ref b1, .ref b2, .ref b3, .ref b4, .ref b5, .ref b6, .int (nI mo), .int (nI ac), .ref b7, .int kn])), (b1, .inl (t1, 2000, .inl T)), (b2, .inl (t2, 2000, .inl F)), (b3, .inl (t3, 6000, .inl I)), (b4, .inl (t4, 6000, .inl J)), (b5, .inl (t5, 3, .inl U2)), (b6, .inl (t6, 3, .inl V)), (b7, .inl (t7, 2001, .inl S))]) [0, 1, 2, 3, 4, 7, 5, 6] rfl
  have hD := hD.sub (ws' := [(y, .inr (1, [.ref b1, .ref b2, .ref b3, .ref b4, .ref b5, .ref b6, .int (nI mo), .int (nI ac), .ref b7, .int kn])), (b1, .inl (t1, 2000, .inl T)), (b2, .inl (t2, 2000, .inl F)), (b3, .inl (t3, 6000, .inl I)), (b4, .inl (t4, 6000, .inl J)), (b5, .inl (t5, 3, .inl U2)), (b6, .inl (t6, 3, .inl V)), (b7, .inl (t7, 2001, .inl S))]) [0, 1, 2, 3, 4, 7, 5, 6] (by decide) rfl
  rcases hw with ⟨hc, rfl, f0, f1, f2⟩ | ⟨hc, rfl, hU⟩
  · exact W.zret (v := 1) hx hb hr rfl (fun t ht hW => ⟨⟨1, _, rfl, ⟨U2, rfl, Or.inl ⟨hc, rfl, f0, f1, f2⟩⟩, by rw [ht]; exact hP, va_K.moved hW.alike hK, hD⟩, hS.F ht⟩) hS.2.2 dX1_first_10
  · exact W.zret (v := 0) hx hb hr rfl (fun t ht hW => ⟨⟨0, _, rfl, ⟨U2, rfl, Or.inr ⟨hc, rfl, hU⟩⟩, by rw [ht]; exact hP, va_K.moved hW.alike hK, hD⟩, hS.F ht⟩) hS.2.2 dX1_first_10
set_option maxHeartbeats 4000000 in
set_option maxRecDepth 100000 in
theorem c_X1_last (l : Launch) (dC : Nat → ClassId) (dI : Nat → Nat → Nat) (y b1 b2 b3 b4 b5 b6 b7 : Nat) (t1 t2 t3 t4 t5 t6 t7 : ClassId) (sz : Nat) (mo ac : Nat) (kn : Int32) (T F I J U V S : Nat → Int32) (px py pz : Int32) : Met l yX1_last wsX1_last ({ frames := 2, cells := 0, slots := 0, locals := 45 }) (sr_pre dC dI (sr_tM t1 t2 t3 t4 t5 t6 t7) (sr_wM y b1 b2 b3 b4 b5 b6 b7 t1 t2 t3 t4 t5 t6 t7 mo ac kn T F I J U V S) sz [.ref y, .int px, .int py, .int pz]) (va_Qi (fun (r : Int32) (u : va_W) => ∃ V' : Nat → Int32, u = sr_wM y b1 b2 b3 b4 b5 b6 b7 t1 t2 t3 t4 t5 t6 t7 mo ac kn T F I J U V' S ∧ ((sr_isS px py pz ∧ r = 1 ∧ V' 0 = px ∧ V' 1 = py ∧ V' 2 = pz) ∨ (¬ sr_isS px py pz ∧ r = 0 ∧ V' = V))) (sr_at dC dI (sr_tM t1 t2 t3 t4 t5 t6 t7) (va_A (sr_wM y b1 b2 b3 b4 b5 b6 b7 t1 t2 t3 t4 t5 t6 t7 mo ac kn T F I J U V S) sz)) (va_A (sr_wM y b1 b2 b3 b4 b5 b6 b7 t1 t2 t3 t4 t5 t6 t7 mo ac kn T F I J U V S) sz)) 0 0 (va_A (sr_wM y b1 b2 b3 b4 b5 b6 b7 t1 t2 t3 t4 t5 t6 t7 mo ac kn T F I J U V S) sz) := by
  refine Met.ofW (cc := cX1_last) (maxL := 4) (ret := (some .boolean)) (by decide) rfl ?_
  intro p e s m args below meth c s₁ B hml hv
  obtain ⟨rfl, hsz, hP, hK, hD0⟩ := hv
  have hx := B.exec
  have hb := B.bytes
  have hr := B.returns
  have hts := atoms_spec (ws := wsX1_last) B.pre
  have hown : s.vm.findClass RX1 = some m.cls := findClass_of_methodNamed B.named
  have hlocks := B.notSynchronized
  subst hsz
  have hD := hD0.self (sz := s.heap.size)
  generalize hAe : va_A (sr_wM y b1 b2 b3 b4 b5 b6 b7 t1 t2 t3 t4 t5 t6 t7 mo ac kn T F I J U V S) s.heap.size = A at hD ⊢
  have hA : ∀ q : Nat, s.heap.size ≤ q → A q := fun q h => by rw [← hAe]; exact Or.inr h
  have hS : va_S A s.heap s.heap [] := va_S.rf
  have hP : va_P (dC, dI) vwCl [(y, .inr (1, [.ref b1, .ref b2, .ref b3, .ref b4, .ref b5, .ref b6, .int (nI mo), .int (nI ac), .ref b7, .int kn])), (b1, .inl (t1, 2000, .inl T)), (b2, .inl (t2, 2000, .inl F)), (b3, .inl (t3, 6000, .inl I)), (b4, .inl (t4, 6000, .inl J)), (b5, .inl (t5, 3, .inl U)), (b6, .inl (t6, 3, .inl V)), (b7, .inl (t7, 2001, .inl S))] s.heap := hP
  have hD : va_D A [(y, .inr (1, [.ref b1, .ref b2, .ref b3, .ref b4, .ref b5, .ref b6, .int (nI mo), .int (nI ac), .ref b7, .int kn])), (b1, .inl (t1, 2000, .inl T)), (b2, .inl (t2, 2000, .inl F)), (b3, .inl (t3, 6000, .inl I)), (b4, .inl (t4, 6000, .inl J)), (b5, .inl (t5, 3, .inl U)), (b6, .inl (t6, 3, .inl V)), (b7, .inl (t7, 2001, .inl S))] := hD
  have hK : va_K (dC, dI) vwCl [(t1, .int), (t2, .int), (t3, .byte), (t4, .byte), (t5, .byte), (t6, .byte), (t7, .int)] s := hK
  have hin1 : ∀ w ∈ u_ws RX1 TX1 10, w ∈ wsX1_last := by decide +kernel
  have hl := lv_entry ([.ref y, .int px, .int py, .int pz]) (n := 4) (Nat.le_of_ble_eq_true rfl)
  rw [lg_entry_eq]
  generalize (lg_sl ([.ref y, .int px, .int py, .int pz]) ++ List.replicate (4 - (lg_sl ([.ref y, .int px, .int py, .int pz])).length) Slot.unset).toArray = ls at hl ⊢
  have hl : lv_has ls 4 [(0, .ref y), (1, .int px), (2, .int py), (3, .int pz)] := hl
  refine lv_aload_n hx hb dX1_last_0 rfl (lv_at hl 0 rfl) ?_
  refine va_get (D := (dC, dI)) (ci := 1) (v := .ref b6) (C := RX1) (T := TX1) (N := 10) hx hb hts hin1 hown hK hP 0 rfl rfl 5 (by decide) (hts (.fieldLink RX1 26 "SpeedRowsModel" "last" "[B") (by decide +kernel)) (fun _ h9 => h9) rfl dX1_last_1 ?_
  refine lv_iload_n hx hb dX1_last_4 rfl (lv_at hl 1 rfl) ?_
  refine lv_iload_n hx hb dX1_last_5 rfl (lv_at hl 2 rfl) ?_
  refine lv_iload_n hx hb dX1_last_6 rfl (lv_at hl 3 rfl) ?_
  have hPc := hP.sub (ws' := [(b6, .inl (t6, 3, .inl V))]) [6] rfl
  have hDc := hD.sub (ws' := [(b6, .inl (t6, 3, .inl V))]) [6] (by decide) rfl
  have hKc := hK.sub (tys' := [(t6, .byte)]) [5] rfl
  have hFc := va_free (wc := [(b6, .inl (t6, 3, .inl V))]) hD hS hA [6] rfl
  refine va_calli (va_runS (As := [.ref b6, .int px, .int py, .int pz]) (rest := []) ⟨hx, hb, hml, hown, hts⟩ (c_X1_told l dC dI b6 t6 s.heap.size V px py pz) (va_cwS 4 hts gX1_last_X1_told rfl rfl rfl (by decide +kernel) ⟨Nat.le_of_ble_eq_true rfl, Nat.le_of_ble_eq_true rfl⟩) ⟨sr_blind, sr_mk hPc hKc hDc⟩ rfl rfl hl.1 rfl (lv_room (Nat.le_of_ble_eq_true rfl)) dX1_last_7 ⟨Nat.zero_le _, Nat.zero_le _⟩) hS (fun q _ h => hFc q h) hFc (fun r u t H1 locs ht hvm hw hB hz1 hk1 hS => ?_)
  obtain ⟨hP1, hK1, hD1⟩ := hB
  rw [ht] at hP1
  obtain ⟨U2, rfl, hw⟩ := hw
  obtain ⟨hP, hD⟩ := va_join (wr := [(y, .inr (1, [.ref b1, .ref b2, .ref b3, .ref b4, .ref b5, .ref b6, .int (nI mo), .int (nI ac), .ref b7, .int kn])), (b1, .inl (t1, 2000, .inl T)), (b2, .inl (t2, 2000, .inl F)), (b3, .inl (t3, 6000, .inl I)), (b4, .inl (t4, 6000, .inl J)), (b5, .inl (t5, 3, .inl U)), (b7, .inl (t7, 2001, .inl S))]) (w1 := [(b6, .inl (t6, 3, .inl U2))]) hP hD [6] [0, 1, 2, 3, 4, 5, 7] rfl rfl (by decide) (by decide) hk1 hFc hP1 hD1
  generalize H1 = H at hP hS ⊢
  have hP : va_P (dC, dI) vwCl [(y, .inr (1, [.ref b1, .ref b2, .ref b3, .ref b4, .ref b5, .ref b6, .int (nI mo), .int (nI ac), .ref b7, .int kn])), (b1, .inl (t1, 2000, .inl T)), (b2, .inl (t2, 2000, .inl F)), (b3, .inl (t3, 6000, .inl I)), (b4, .inl (t4, 6000, .inl J)), (b5, .inl (t5, 3, .inl U)), (b7, .inl (t7, 2001, .inl S)), (b6, .inl (t6, 3, .inl U2))] H := hP
  have hD : va_D A [(y, .inr (1, [.ref b1, .ref b2, .ref b3, .ref b4, .ref b5, .ref b6, .int (nI mo), .int (nI ac), .ref b7, .int kn])), (b1, .inl (t1, 2000, .inl T)), (b2, .inl (t2, 2000, .inl F)), (b3, .inl (t3, 6000, .inl I)), (b4, .inl (t4, 6000, .inl J)), (b5, .inl (t5, 3, .inl U)), (b7, .inl (t7, 2001, .inl S)), (b6, .inl (t6, 3, .inl U2))] := hD
  have hP := hP.sub (ws' := [(y, .inr (1, [.ref b1, .ref b2, .ref b3, .ref b4, .ref b5, .ref b6, .int (nI mo), .int (nI ac), .ref b7, .int kn])), (b1, .inl (t1, 2000, .inl T)), (b2, .inl (t2, 2000, .inl F)), (b3, .inl (t3, 6000, .inl I)), (b4, .inl (t4, 6000, .inl J)), (b5, .inl (t5, 3, .inl U)), (b6, .inl (t6, 3, .inl U2)), (b7, .inl (t7, 2001, .inl S))]) [0, 1, 2, 3, 4, 5, 7, 6] rfl
  have hD := hD.sub (ws' := [(y, .inr (1, [.ref b1, .ref b2, .ref b3, .ref b4, .ref b5, .ref b6, .int (nI mo), .int (nI ac), .ref b7, .int kn])), (b1, .inl (t1, 2000, .inl T)), (b2, .inl (t2, 2000, .inl F)), (b3, .inl (t3, 6000, .inl I)), (b4, .inl (t4, 6000, .inl J)), (b5, .inl (t5, 3, .inl U)), (b6, .inl (t6, 3, .inl U2)), (b7, .inl (t7, 2001, .inl S))]) [0, 1, 2, 3, 4, 5, 7, 6] (by decide) rfl
  rcases hw with ⟨hc, rfl, f0, f1, f2⟩ | ⟨hc, rfl, hU⟩
  · exact W.zret (v := 1) hx hb hr rfl (fun t ht hW => ⟨⟨1, _, rfl, ⟨U2, rfl, Or.inl ⟨hc, rfl, f0, f1, f2⟩⟩, by rw [ht]; exact hP, va_K.moved hW.alike hK, hD⟩, hS.F ht⟩) hS.2.2 dX1_last_10
  · exact W.zret (v := 0) hx hb hr rfl (fun t ht hW => ⟨⟨0, _, rfl, ⟨U2, rfl, Or.inr ⟨hc, rfl, hU⟩⟩, by rw [ht]; exact hP, va_K.moved hW.alike hK, hD⟩, hS.F ht⟩) hS.2.2 dX1_last_10
set_option maxHeartbeats 4000000 in
set_option maxRecDepth 100000 in
theorem lp_X1_root {p : Program} {l : Launch} {e : Env} {R : Room} {s : State} {m : MethodId} {args : Array Value} {below : List Frame} {meth : Method} {c : Code} {Q : State → Prop} (C0 : CallFix p m c cX1_root 8 s args wsX1_root RX1) {H : Heap} {locs : List Loc} {nn : Nat} (hnn : nn < 2 ^ 62) (hk : ∀ (r : Nat) (ls : Array Slot), r * r ≤ nn → nn < (r + 1) * (r + 1) → lv_has ls 8 [(2, .long (lN r))] → W p l e R s m args below meth c H locs 0 0 Q (F0 m 51 ls [])) :
    ∀ (n lo hi : Nat) (ls : Array Slot), hi < lo + n → lo ≤ hi → hi ≤ 2000000000 → lo * lo ≤ nn → nn < (hi + 1) * (hi + 1) → lv_has ls 8 [(0, .long (lN nn)), (2, .long (lN lo)), (4, .long (lN hi))] → W p l e R s m args below meth c H locs 0 0 Q (F0 m 7 ls []) := by
  obtain ⟨hx, hb, hml, hown, hts⟩ := C0
  intro n
  induction n with
  | zero =>
    intro lo hi ls h1 h2
    exact absurd h1 (by omega)
  | succ n ih =>
    intro lo hi ls h1 h2 h3 h4 h5 hl
    refine lv_lload_n hx hb dX1_root_7 rfl (lv_at hl 1 rfl) ?_
    refine lv_lload hx hb dX1_root_8 (lv_at hl 2 rfl) ?_
    refine W.lcmp hx hb dX1_root_10 ?_
    refine lv_if_ge (tgt := 51) hx hb dX1_root_11 (by decide) (fun c1 => ?_) (fun c1 => ?_)
    · have e1 : hi ≤ lo := (pk_lLE (by omega) (by omega)).mp ((lg_cmp_ge _ _).mp c1)
      obtain rfl : lo = hi := by omega
      exact hk lo ls h4 h5 (lv_sub hl [1] rfl)
    · have e1 : lo < hi := Nat.lt_of_not_le (fun q => c1 ((lg_cmp_ge _ _).mpr ((pk_lLE (by omega) (by omega)).mpr q)))
      obtain ⟨md, emd⟩ : ∃ z, z = (lo + hi + 1) / 2 := ⟨_, rfl⟩
      have g1 : lo < md := by omega
      have g2 : md ≤ hi := by omega
      have g3 : md * md ≤ 2000000000 * 2000000000 := Nat.mul_le_mul (by omega) (by omega)
      refine lv_lload_n hx hb dX1_root_14 rfl (lv_at hl 1 rfl) ?_
      refine lv_lload hx hb dX1_root_15 (lv_at hl 2 rfl) ?_
      refine lv_ladd hx hb dX1_root_17 ?_
      refine sr_tl (y := lN (lo + hi)) (lN_add _ _) ?_
      refine lv_lconst (v := lN 1) hx hb dX1_root_18 (by decide) ?_
      refine lv_ladd hx hb dX1_root_19 ?_
      refine sr_tl (y := lN ((lo + hi) + 1)) (lN_add _ _) ?_
      refine lv_ldc2 (v := lN 2) hx hb hown (hts (.constantLong RX1 64 2) (by decide +kernel)) dX1_root_20 ?_
      refine lv_ldiv hx hb dX1_root_23 (by decide) ?_
      refine sr_tl (y := lN md) (by rw [emd]; exact pk_lDiv (by omega) (by omega) (by omega)) ?_
      refine lv_lstore (lv' := [(6, .long (lN md)), (0, .long (lN nn)), (2, .long (lN lo)), (4, .long (lN hi))]) hx hb dX1_root_24 hl (by decide) rfl (fun ls hl => ?_)
      refine lv_lload hx hb dX1_root_26 (lv_at hl 0 rfl) ?_
      refine lv_lload hx hb dX1_root_28 (lv_at hl 0 rfl) ?_
      refine lv_lmul hx hb dX1_root_30 ?_
      refine sr_tl (y := lN (md * md)) (lN_mul _ _) ?_
      refine lv_lload_n hx hb dX1_root_31 rfl (lv_at hl 1 rfl) ?_
      refine W.lcmp hx hb dX1_root_32 ?_
      refine lv_if_gt (tgt := 42) hx hb dX1_root_33 (by decide) (fun c2 => ?_) (fun c2 => ?_)
      · have g4 : nn < md * md := (pk_lLT (by omega) (by omega)).mp ((lg_cmp_gt _ _).mp c2)
        refine lv_lload hx hb dX1_root_42 (lv_at hl 0 rfl) ?_
        refine lv_lconst (v := lN 1) hx hb dX1_root_44 (by decide) ?_
        refine lv_lsub hx hb dX1_root_45 ?_
        refine sr_tl (y := lN (md - 1)) (lN_sub (by omega)) ?_
        refine lv_lstore (lv' := [(4, .long (lN (md - 1))), (6, .long (lN md)), (0, .long (lN nn)), (2, .long (lN lo))]) hx hb dX1_root_46 hl (by decide) rfl (fun ls hl => ?_)
        refine lv_goto (tgt := 7) hx hb dX1_root_48 (by decide) ?_
        exact ih lo (md - 1) ls (by omega) (by omega) (by omega) h4 (by rw [show md - 1 + 1 = md by omega]; exact g4) (lv_sub hl [2, 3, 0] rfl)
      · have g4 : md * md ≤ nn := Nat.le_of_not_lt (fun q => c2 ((lg_cmp_gt _ _).mpr ((pk_lLT (by omega) (by omega)).mpr q)))
        refine lv_lload hx hb dX1_root_36 (lv_at hl 0 rfl) ?_
        refine lv_lstore_n (lv' := [(2, .long (lN md)), (6, .long (lN md)), (0, .long (lN nn)), (4, .long (lN hi))]) hx hb dX1_root_38 rfl hl (by decide) rfl (fun ls hl => ?_)
        refine lv_goto (tgt := 48) hx hb dX1_root_39 (by decide) ?_
        refine lv_goto (tgt := 7) hx hb dX1_root_48 (by decide) ?_
        exact ih md hi ls (by omega) g2 h3 g4 h5 (lv_sub hl [2, 0, 3] rfl)
set_option maxHeartbeats 4000000 in
set_option maxRecDepth 100000 in
theorem c_X1_root (l : Launch) (nn : Nat) (hnn : nn < 2 ^ 60) : Met l yX1_root wsX1_root ({ frames := 0, cells := 0, slots := 0, locals := 0 }) (va_Pc [.long (lN nn)] (fun _ => True)) (vp_Sl (fun r => r = lN (sr_q nn))) 0 0 (fun _ => False) := by
  refine Met.ofW (cc := cX1_root) (maxL := 8) (ret := (some .long)) (by decide) rfl ?_
  intro p e s m args below meth c s₁ B hml hv
  obtain ⟨rfl, -⟩ := hv
  have hx := B.exec
  have hb := B.bytes
  have hr := B.returns
  have hts := atoms_spec (ws := wsX1_root) B.pre
  have hown : s.vm.findClass RX1 = some m.cls := findClass_of_methodNamed B.named
  have hlocks := B.notSynchronized
  have hl := lv_entry ([.long (lN nn)]) (n := 8) (Nat.le_of_ble_eq_true rfl)
  rw [lg_entry_eq]
  generalize (lg_sl ([.long (lN nn)]) ++ List.replicate (8 - (lg_sl ([.long (lN nn)])).length) Slot.unset).toArray = ls at hl ⊢
  have hl : lv_has ls 8 [(0, .long (lN nn))] := hl
  refine lv_lconst (v := lN 0) hx hb dX1_root_0 (by decide) ?_
  refine lv_lstore_n (lv' := [(2, .long (lN 0)), (0, .long (lN nn))]) hx hb dX1_root_1 rfl hl (by decide) rfl (fun ls hl => ?_)
  refine lv_ldc2 (v := lN 2000000000) hx hb hown (hts (.constantLong RX1 62 2000000000) (by decide +kernel)) dX1_root_2 ?_
  refine lv_lstore (lv' := [(4, .long (lN 2000000000)), (2, .long (lN 0)), (0, .long (lN nn))]) hx hb dX1_root_5 hl (by decide) rfl (fun ls hl => ?_)
  refine lp_X1_root ⟨hx, hb, hml, hown, hts⟩ (nn := nn) (by omega) (fun r ls q1 q2 hl => ?_) 2000000001 0 2000000000 ls (by omega) (by omega) (by omega) (by omega) (by omega) (lv_sub hl [2, 1, 0] rfl)
  refine lv_lload_n hx hb dX1_root_51 rfl (lv_at hl 0 rfl) ?_
  exact W.lret (v := lN r) hx hb hr (fun t ht hW => ⟨lN r, rfl, by rw [sr_q_uniq q1 q2], ht⟩) (fun q h => absurd h List.not_mem_nil) dX1_root_52
set_option maxHeartbeats 4000000 in
set_option maxRecDepth 100000 in
theorem c_X1_reach (l : Launch) (dC : Nat → ClassId) (dI : Nat → Nat → Nat) (y b1 b2 b3 b4 b5 b6 b7 : Nat) (t1 t2 t3 t4 t5 t6 t7 : ClassId) (sz : Nat) (mo ac : Nat) (kn : Int32) (T F I J U V S : Nat → Int32) (a j tt : Nat) (ha : a ≤ 99999) (hj : j < 2000) (hT : T j = nI tt) (htt : tt ≤ 100000) (hac : ac ≤ 10000) : Met l yX1_reach wsX1_reach ({ frames := 1, cells := 0, slots := 0, locals := 27 }) (sr_pre dC dI (sr_tM t1 t2 t3 t4 t5 t6 t7) (sr_wM y b1 b2 b3 b4 b5 b6 b7 t1 t2 t3 t4 t5 t6 t7 mo ac kn T F I J U V S) sz [.ref y, .int (nI a), .int (nI j)]) (va_Qi (fun (r : Int32) (u : va_W) => u = sr_wM y b1 b2 b3 b4 b5 b6 b7 t1 t2 t3 t4 t5 t6 t7 mo ac kn T F I J U V S ∧ r = nI (sr_r ac tt a)) (sr_at dC dI (sr_tM t1 t2 t3 t4 t5 t6 t7) (va_A (sr_wM y b1 b2 b3 b4 b5 b6 b7 t1 t2 t3 t4 t5 t6 t7 mo ac kn T F I J U V S) sz)) (va_A (sr_wM y b1 b2 b3 b4 b5 b6 b7 t1 t2 t3 t4 t5 t6 t7 mo ac kn T F I J U V S) sz)) 0 0 (va_A (sr_wM y b1 b2 b3 b4 b5 b6 b7 t1 t2 t3 t4 t5 t6 t7 mo ac kn T F I J U V S) sz) := by
  refine Met.ofW (cc := cX1_reach) (maxL := 3) (ret := (some .int)) (by decide) rfl ?_
  intro p e s m args below meth c s₁ B hml hv
  obtain ⟨rfl, hsz, hP, hK, hD0⟩ := hv
  have hx := B.exec
  have hb := B.bytes
  have hr := B.returns
  have hts := atoms_spec (ws := wsX1_reach) B.pre
  have hown : s.vm.findClass RX1 = some m.cls := findClass_of_methodNamed B.named
  have hlocks := B.notSynchronized
  subst hsz
  have hD := hD0.self (sz := s.heap.size)
  generalize hAe : va_A (sr_wM y b1 b2 b3 b4 b5 b6 b7 t1 t2 t3 t4 t5 t6 t7 mo ac kn T F I J U V S) s.heap.size = A at hD ⊢
  have hA : ∀ q : Nat, s.heap.size ≤ q → A q := fun q h => by rw [← hAe]; exact Or.inr h
  have hS : va_S A s.heap s.heap [] := va_S.rf
  have hP : va_P (dC, dI) vwCl [(y, .inr (1, [.ref b1, .ref b2, .ref b3, .ref b4, .ref b5, .ref b6, .int (nI mo), .int (nI ac), .ref b7, .int kn])), (b1, .inl (t1, 2000, .inl T)), (b2, .inl (t2, 2000, .inl F)), (b3, .inl (t3, 6000, .inl I)), (b4, .inl (t4, 6000, .inl J)), (b5, .inl (t5, 3, .inl U)), (b6, .inl (t6, 3, .inl V)), (b7, .inl (t7, 2001, .inl S))] s.heap := hP
  have hD : va_D A [(y, .inr (1, [.ref b1, .ref b2, .ref b3, .ref b4, .ref b5, .ref b6, .int (nI mo), .int (nI ac), .ref b7, .int kn])), (b1, .inl (t1, 2000, .inl T)), (b2, .inl (t2, 2000, .inl F)), (b3, .inl (t3, 6000, .inl I)), (b4, .inl (t4, 6000, .inl J)), (b5, .inl (t5, 3, .inl U)), (b6, .inl (t6, 3, .inl V)), (b7, .inl (t7, 2001, .inl S))] := hD
  have hK : va_K (dC, dI) vwCl [(t1, .int), (t2, .int), (t3, .byte), (t4, .byte), (t5, .byte), (t6, .byte), (t7, .int)] s := hK
  have hin1 : ∀ w ∈ u_ws RX1 TX1 10, w ∈ wsX1_reach := by decide +kernel
  have hl := lv_entry ([.ref y, .int (nI a), .int (nI j)]) (n := 3) (Nat.le_of_ble_eq_true rfl)
  rw [lg_entry_eq]
  generalize (lg_sl ([.ref y, .int (nI a), .int (nI j)]) ++ List.replicate (3 - (lg_sl ([.ref y, .int (nI a), .int (nI j)])).length) Slot.unset).toArray = ls at hl ⊢
  have hl : lv_has ls 3 [(0, .ref y), (1, .int (nI a)), (2, .int (nI j))] := hl
  have e1 : a * a ≤ 99999 * 99999 := Nat.mul_le_mul ha ha
  have e2 : 2 * ac * tt ≤ 20000 * 100000 := Nat.mul_le_mul (by omega) htt
  refine lv_iload_n hx hb dX1_reach_0 rfl (lv_at hl 1 rfl) ?_
  refine lv_i2l (v := lN a) hx hb dX1_reach_1 (nI_l (by omega)) ?_
  refine lv_iload_n hx hb dX1_reach_2 rfl (lv_at hl 1 rfl) ?_
  refine lv_i2l (v := lN a) hx hb dX1_reach_3 (nI_l (by omega)) ?_
  refine lv_lmul hx hb dX1_reach_4 ?_
  refine sr_tl (y := lN (a * a)) (lN_mul _ _) ?_
  refine lv_ldc2 (v := lN 2) hx hb hown (hts (.constantLong RX1 64 2) (by decide +kernel)) dX1_reach_5 ?_
  refine lv_aload_n hx hb dX1_reach_8 rfl (lv_at hl 0 rfl) ?_
  refine va_get (D := (dC, dI)) (ci := 1) (v := .int (nI ac)) (C := RX1) (T := TX1) (N := 10) hx hb hts hin1 hown hK hP 0 rfl rfl 7 (by decide) (hts (.fieldLink RX1 29 "SpeedRowsModel" "most" "I") (by decide +kernel)) (fun _ h9 => h9) rfl dX1_reach_9 ?_
  refine lv_i2l (v := lN ac) hx hb dX1_reach_12 (nI_l (by omega)) ?_
  refine lv_lmul hx hb dX1_reach_13 ?_
  refine sr_tl (y := lN (2 * ac)) (lN_mul _ _) ?_
  refine lv_aload_n hx hb dX1_reach_14 rfl (lv_at hl 0 rfl) ?_
  refine va_get (D := (dC, dI)) (ci := 1) (v := .ref b1) (C := RX1) (T := TX1) (N := 10) hx hb hts hin1 hown hK hP 0 rfl rfl 0 (by decide) (hts (.fieldLink RX1 9 "SpeedRowsModel" "ticks" "[I") (by decide +kernel)) (fun _ h9 => h9) rfl dX1_reach_15 ?_
  refine lv_iload_n hx hb dX1_reach_18 rfl (lv_at hl 2 rfl) ?_
  refine sr_iald (v := nI tt) hx hb hK hP 1 0 rfl rfl (by omega) (by decide) (hT) dX1_reach_19 ?_
  refine lv_i2l (v := lN tt) hx hb dX1_reach_20 (nI_l (by omega)) ?_
  refine lv_lmul hx hb dX1_reach_21 ?_
  refine sr_tl (y := lN ((2 * ac) * tt)) (lN_mul _ _) ?_
  refine lv_ladd hx hb dX1_reach_22 ?_
  refine sr_tl (y := lN ((a * a) + ((2 * ac) * tt))) (lN_add _ _) ?_
  refine vp_callSl (W.runS (As := [.long (lN ((a * a) + ((2 * ac) * tt)))]) (rest := []) ⟨hx, hb, hml, hown, hts⟩ (c_X1_root l (a * a + 2 * ac * tt) (by omega)) (va_cwS 1 hts gX1_reach_X1_root rfl rfl rfl (by decide +kernel) ⟨Nat.le_of_ble_eq_true rfl, Nat.le_of_ble_eq_true rfl⟩) ⟨sr_blindT, sr_mkT⟩ rfl rfl hl.1 rfl (lv_room (Nat.le_of_ble_eq_true rfl)) dX1_reach_23 ⟨Nat.zero_le _, Nat.zero_le _⟩) (fun r1 er => ?_)
  refine sr_tl (y := lN (sr_r ac tt a)) (by rw [er]; rfl) ?_
  refine lv_l2i (v := nI (sr_r ac tt a)) hx hb dX1_reach_26 (lN_i _) ?_
  exact W.iret (v := nI (sr_r ac tt a)) hx hb hr (fun t ht hW => ⟨⟨nI (sr_r ac tt a), _, rfl, ⟨rfl, rfl⟩, by rw [ht]; exact hP, va_K.moved hW.alike hK, hD⟩, hS.F ht⟩) hS.2.2 dX1_reach_27
set_option maxHeartbeats 4000000 in
set_option maxRecDepth 100000 in
theorem c_X1_lowered (l : Launch) (dC : Nat → ClassId) (dI : Nat → Nat → Nat) (y b1 b2 b3 b4 b5 b6 b7 : Nat) (t1 t2 t3 t4 t5 t6 t7 : ClassId) (sz : Nat) (mo ac : Nat) (kn : Int32) (T F I J U V S : Nat → Int32) (k a b : Nat) (hk : k < 2001) (ha : a < 2 ^ 31) (hbb : b < 2 ^ 31) (hSk : S k = nI a) : Met l yX1_lowered wsX1_lowered ({ frames := 0, cells := 0, slots := 0, locals := 0 }) (sr_pre dC dI (sr_tM t1 t2 t3 t4 t5 t6 t7) (sr_wM y b1 b2 b3 b4 b5 b6 b7 t1 t2 t3 t4 t5 t6 t7 mo ac kn T F I J U V S) sz [.ref y, .int (nI k), .int (nI b)]) (va_Qi (fun (r : Int32) (u : va_W) => ∃ S' : Nat → Int32, u = sr_wM y b1 b2 b3 b4 b5 b6 b7 t1 t2 t3 t4 t5 t6 t7 mo ac kn T F I J U V S' ∧ (∀ i, i ≠ k → S' i = S i) ∧ S' k = nI (min a b) ∧ (r = 0 ∨ r = 1) ∧ (a ≤ b → r = 0)) (sr_at dC dI (sr_tM t1 t2 t3 t4 t5 t6 t7) (va_A (sr_wM y b1 b2 b3 b4 b5 b6 b7 t1 t2 t3 t4 t5 t6 t7 mo ac kn T F I J U V S) sz)) (va_A (sr_wM y b1 b2 b3 b4 b5 b6 b7 t1 t2 t3 t4 t5 t6 t7 mo ac kn T F I J U V S) sz)) 0 0 (va_A (sr_wM y b1 b2 b3 b4 b5 b6 b7 t1 t2 t3 t4 t5 t6 t7 mo ac kn T F I J U V S) sz) := by
  refine Met.ofW (cc := cX1_lowered) (maxL := 3) (ret := (some .boolean)) (by decide) rfl ?_
  intro p e s m args below meth c s₁ B hml hv
  obtain ⟨rfl, hsz, hP, hK, hD0⟩ := hv
  have hx := B.exec
  have hb := B.bytes
  have hr := B.returns
  have hts := atoms_spec (ws := wsX1_lowered) B.pre
  have hown : s.vm.findClass RX1 = some m.cls := findClass_of_methodNamed B.named
  have hlocks := B.notSynchronized
  subst hsz
  have hD := hD0.self (sz := s.heap.size)
  generalize hAe : va_A (sr_wM y b1 b2 b3 b4 b5 b6 b7 t1 t2 t3 t4 t5 t6 t7 mo ac kn T F I J U V S) s.heap.size = A at hD ⊢
  have hA : ∀ q : Nat, s.heap.size ≤ q → A q := fun q h => by rw [← hAe]; exact Or.inr h
  have hS : va_S A s.heap s.heap [] := va_S.rf
  have hP : va_P (dC, dI) vwCl [(y, .inr (1, [.ref b1, .ref b2, .ref b3, .ref b4, .ref b5, .ref b6, .int (nI mo), .int (nI ac), .ref b7, .int kn])), (b1, .inl (t1, 2000, .inl T)), (b2, .inl (t2, 2000, .inl F)), (b3, .inl (t3, 6000, .inl I)), (b4, .inl (t4, 6000, .inl J)), (b5, .inl (t5, 3, .inl U)), (b6, .inl (t6, 3, .inl V)), (b7, .inl (t7, 2001, .inl S))] s.heap := hP
  have hD : va_D A [(y, .inr (1, [.ref b1, .ref b2, .ref b3, .ref b4, .ref b5, .ref b6, .int (nI mo), .int (nI ac), .ref b7, .int kn])), (b1, .inl (t1, 2000, .inl T)), (b2, .inl (t2, 2000, .inl F)), (b3, .inl (t3, 6000, .inl I)), (b4, .inl (t4, 6000, .inl J)), (b5, .inl (t5, 3, .inl U)), (b6, .inl (t6, 3, .inl V)), (b7, .inl (t7, 2001, .inl S))] := hD
  have hK : va_K (dC, dI) vwCl [(t1, .int), (t2, .int), (t3, .byte), (t4, .byte), (t5, .byte), (t6, .byte), (t7, .int)] s := hK
  have hin1 : ∀ w ∈ u_ws RX1 TX1 10, w ∈ wsX1_lowered := by decide +kernel
  have hl := lv_entry ([.ref y, .int (nI k), .int (nI b)]) (n := 3) (Nat.le_of_ble_eq_true rfl)
  rw [lg_entry_eq]
  generalize (lg_sl ([.ref y, .int (nI k), .int (nI b)]) ++ List.replicate (3 - (lg_sl ([.ref y, .int (nI k), .int (nI b)])).length) Slot.unset).toArray = ls at hl ⊢
  have hl : lv_has ls 3 [(0, .ref y), (1, .int (nI k)), (2, .int (nI b))] := hl
  refine lv_aload_n hx hb dX1_lowered_0 rfl (lv_at hl 0 rfl) ?_
  refine va_get (D := (dC, dI)) (ci := 1) (v := .ref b7) (C := RX1) (T := TX1) (N := 10) hx hb hts hin1 hown hK hP 0 rfl rfl 8 (by decide) (hts (.fieldLink RX1 33 "SpeedRowsModel" "speeds" "[I") (by decide +kernel)) (fun _ h9 => h9) rfl dX1_lowered_1 ?_
  refine lv_iload_n hx hb dX1_lowered_4 rfl (lv_at hl 1 rfl) ?_
  refine sr_iald (v := nI a) hx hb hK hP 7 6 rfl rfl (by omega) (by decide) (hSk) dX1_lowered_5 ?_
  refine lv_iload_n hx hb dX1_lowered_6 rfl (lv_at hl 2 rfl) ?_
  refine lv_icmp_gt (tgt := 12) hx hb dX1_lowered_7 (by decide) (fun c1 => ?_) (fun c1 => ?_)
  · have e1 : b < a := (nI_ltI hbb ha).mp c1
    refine lv_aload_n hx hb dX1_lowered_12 rfl (lv_at hl 0 rfl) ?_
    refine va_get (D := (dC, dI)) (ci := 1) (v := .ref b7) (C := RX1) (T := TX1) (N := 10) hx hb hts hin1 hown hK hP 0 rfl rfl 8 (by decide) (hts (.fieldLink RX1 33 "SpeedRowsModel" "speeds" "[I") (by decide +kernel)) (fun _ h9 => h9) rfl dX1_lowered_13 ?_
    refine lv_iload_n hx hb dX1_lowered_16 rfl (lv_at hl 1 rfl) ?_
    refine lv_iload_n hx hb dX1_lowered_17 rfl (lv_at hl 2 rfl) ?_
    refine sr_iast hx hb hK hP hD hS 7 6 rfl rfl (by omega) (by decide) dX1_lowered_18 (fun H locs hP hD hS => ?_)
    have hP : va_P (dC, dI) vwCl [(y, .inr (1, [.ref b1, .ref b2, .ref b3, .ref b4, .ref b5, .ref b6, .int (nI mo), .int (nI ac), .ref b7, .int kn])), (b1, .inl (t1, 2000, .inl T)), (b2, .inl (t2, 2000, .inl F)), (b3, .inl (t3, 6000, .inl I)), (b4, .inl (t4, 6000, .inl J)), (b5, .inl (t5, 3, .inl U)), (b6, .inl (t6, 3, .inl V)), (b7, .inl (t7, 2001, .inl (upd S k (nI b))))] H := hP
    have hD : va_D A [(y, .inr (1, [.ref b1, .ref b2, .ref b3, .ref b4, .ref b5, .ref b6, .int (nI mo), .int (nI ac), .ref b7, .int kn])), (b1, .inl (t1, 2000, .inl T)), (b2, .inl (t2, 2000, .inl F)), (b3, .inl (t3, 6000, .inl I)), (b4, .inl (t4, 6000, .inl J)), (b5, .inl (t5, 3, .inl U)), (b6, .inl (t6, 3, .inl V)), (b7, .inl (t7, 2001, .inl (upd S k (nI b))))] := hD
    refine lv_iconst (v := 1) hx hb dX1_lowered_19 (by decide) ?_
    exact W.zret (v := 1) hx hb hr rfl (fun t ht hW => ⟨⟨1, _, rfl, ⟨_, rfl, fun i q => pk_un q, by rw [pk_us, Nat.min_eq_right (Nat.le_of_lt e1)], Or.inr rfl, fun q => absurd q (by omega)⟩, by rw [ht]; exact hP, va_K.moved hW.alike hK, hD⟩, hS.F ht⟩) hS.2.2 dX1_lowered_20
  · have e1 : a ≤ b := Nat.le_of_not_lt (fun q => c1 ((nI_ltI hbb ha).mpr q))
    refine lv_iconst (v := 0) hx hb dX1_lowered_10 (by decide) ?_
    exact W.zret (v := 0) hx hb hr rfl (fun t ht hW => ⟨⟨0, _, rfl, ⟨S, rfl, fun i q => rfl, by rw [hSk, Nat.min_eq_left e1], Or.inl rfl, fun q => rfl⟩, by rw [ht]; exact hP, va_K.moved hW.alike hK, hD⟩, hS.F ht⟩) hS.2.2 dX1_lowered_11
