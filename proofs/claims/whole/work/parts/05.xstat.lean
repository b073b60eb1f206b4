/-! THE CLASS: its static methods. -/
set_option maxHeartbeats 4000000 in
set_option maxRecDepth 100000 in
theorem c_X0_isWithin (l : Launch) (v lo hi : Int32) : Met l yX0_isWithin wsX0_isWithin ({ frames := 0, cells := 0, slots := 0, locals := 0 }) (va_Pc [.int v, .int lo, .int hi] (fun _ => True)) (vp_Si (fun r => (r = 1 ∧ lo ≤ v ∧ v ≤ hi) ∨ (r = 0 ∧ ¬ (lo ≤ v ∧ v ≤ hi)))) 0 0 (fun _ => False) := by
  refine Met.ofW (cc := cX0_isWithin) (maxL := 3) (ret := (some .boolean)) (by decide) rfl ?_
  intro p e s m args below meth c s₁ B hml hv
  obtain ⟨rfl, -⟩ := hv
  have hx := B.exec
  have hb := B.bytes
  have hr := B.returns
  have hts := atoms_spec (ws := wsX0_isWithin) B.pre
  have hown : s.vm.findClass RX0 = some m.cls := findClass_of_methodNamed B.named
  have hlocks := B.notSynchronized
  have hl := lv_entry ([.int v, .int lo, .int hi]) (n := 3) (Nat.le_of_ble_eq_true rfl)
  rw [lg_entry_eq]
  generalize (lg_sl ([.int v, .int lo, .int hi]) ++ List.replicate (3 - (lg_sl ([.int v, .int lo, .int hi])).length) Slot.unset).toArray = ls at hl ⊢
  have hl : lv_has ls 3 [(0, .int v), (1, .int lo), (2, .int hi)] := hl
  refine lv_iload_n hx hb dX0_isWithin_0 rfl (lv_at hl 1 rfl) ?_
  refine lv_iload_n hx hb dX0_isWithin_1 rfl (lv_at hl 0 rfl) ?_
  refine lv_icmp_gt (tgt := 14) hx hb dX0_isWithin_2 (by decide) (fun c1 => ?_) (fun c1 => ?_)
  · refine lv_iconst (v := 0) hx hb dX0_isWithin_14 (by decide) ?_
    exact W.zret (v := 0) hx hb hr rfl (fun t ht hW => ⟨0, rfl, Or.inr ⟨rfl, fun h => absurd h.1 (Int32.not_le.mpr c1)⟩, ht⟩) (fun q h => absurd h List.not_mem_nil) dX0_isWithin_15
  · refine lv_iload_n hx hb dX0_isWithin_5 rfl (lv_at hl 0 rfl) ?_
    refine lv_iload_n hx hb dX0_isWithin_6 rfl (lv_at hl 2 rfl) ?_
    refine lv_icmp_gt (tgt := 14) hx hb dX0_isWithin_7 (by decide) (fun c2 => ?_) (fun c2 => ?_)
    · refine lv_iconst (v := 0) hx hb dX0_isWithin_14 (by decide) ?_
      exact W.zret (v := 0) hx hb hr rfl (fun t ht hW => ⟨0, rfl, Or.inr ⟨rfl, fun h => absurd h.2 (Int32.not_le.mpr c2)⟩, ht⟩) (fun q h => absurd h List.not_mem_nil) dX0_isWithin_15
    · refine lv_iconst (v := 1) hx hb dX0_isWithin_10 (by decide) ?_
      refine lv_goto (tgt := 15) hx hb dX0_isWithin_11 (by decide) ?_
      exact W.zret (v := 1) hx hb hr rfl (fun t ht hW => ⟨1, rfl, Or.inl ⟨rfl, Int32.not_lt.mp c1, Int32.not_lt.mp c2⟩, ht⟩) (fun q h => absurd h List.not_mem_nil) dX0_isWithin_15
set_option maxHeartbeats 4000000 in
set_option maxRecDepth 100000 in
theorem c_X0_isStep (l : Launch) (x y z : Int32) : Met l yX0_isStep wsX0_isStep ({ frames := 1, cells := 0, slots := 0, locals := 22 }) (va_Pc [.int x, .int y, .int z] (fun _ => True)) (vp_Si (fun r => (r = 1 ∧ sr_isS x y z) ∨ (r = 0 ∧ ¬ sr_isS x y z))) 0 0 (fun _ => False) := by
  refine Met.ofW (cc := cX0_isStep) (maxL := 3) (ret := (some .boolean)) (by decide) rfl ?_
  intro p e s m args below meth c s₁ B hml hv
  obtain ⟨rfl, -⟩ := hv
  have hx := B.exec
  have hb := B.bytes
  have hr := B.returns
  have hts := atoms_spec (ws := wsX0_isStep) B.pre
  have hown : s.vm.findClass RX0 = some m.cls := findClass_of_methodNamed B.named
  have hlocks := B.notSynchronized
  have hl := lv_entry ([.int x, .int y, .int z]) (n := 3) (Nat.le_of_ble_eq_true rfl)
  rw [lg_entry_eq]
  generalize (lg_sl ([.int x, .int y, .int z]) ++ List.replicate (3 - (lg_sl ([.int x, .int y, .int z])).length) Slot.unset).toArray = ls at hl ⊢
  have hl : lv_has ls 3 [(0, .int x), (1, .int y), (2, .int z)] := hl
  refine lv_iload_n hx hb dX0_isStep_0 rfl (lv_at hl 0 rfl) ?_
  refine lv_iconst (v := (-1)) hx hb dX0_isStep_1 (by decide) ?_
  refine lv_iconst (v := 1) hx hb dX0_isStep_2 (by decide) ?_
  refine vp_callSi (W.runS (As := [.int x, .int ((-1)), .int 1]) (rest := []) ⟨hx, hb, hml, hown, hts⟩ (c_X0_isWithin l x (-1) 1) (va_cwS 3 hts gX0_isStep_X0_isWithin rfl rfl rfl (by decide +kernel) ⟨Nat.le_of_ble_eq_true rfl, Nat.le_of_ble_eq_true rfl⟩) ⟨sr_blindT, sr_mkT⟩ rfl rfl hl.1 rfl (lv_room (Nat.le_of_ble_eq_true rfl)) dX0_isStep_3 ⟨Nat.zero_le _, Nat.zero_le _⟩) (fun rx ex => ?_)
  refine lv_if_eq (tgt := 43) hx hb dX0_isStep_6 (by decide) (fun kx => ?_) (fun kx => ?_)
  · have gx : ¬ (-1 ≤ x ∧ x ≤ 1) := by
      rcases ex with ⟨q, _⟩ | ⟨_, q⟩
      · exact absurd (q.symm.trans kx) (by decide)
      · exact q
    refine lv_iconst (v := 0) hx hb dX0_isStep_43 (by decide) ?_
    exact W.zret (v := 0) hx hb hr rfl (fun t ht hW => ⟨0, rfl, Or.inr ⟨rfl, fun h => gx ⟨h.1.1.1.1.1.1, h.1.1.1.1.1.2⟩⟩, ht⟩) (fun q h => absurd h List.not_mem_nil) dX0_isStep_44
  · have gx : -1 ≤ x ∧ x ≤ 1 := by
      rcases ex with ⟨_, q⟩ | ⟨q, _⟩
      · exact q
      · exact absurd q kx
    refine lv_iload_n hx hb dX0_isStep_9 rfl (lv_at hl 1 rfl) ?_
    refine lv_iconst (v := (-1)) hx hb dX0_isStep_10 (by decide) ?_
    refine lv_iconst (v := 1) hx hb dX0_isStep_11 (by decide) ?_
    refine vp_callSi (W.runS (As := [.int y, .int ((-1)), .int 1]) (rest := []) ⟨hx, hb, hml, hown, hts⟩ (c_X0_isWithin l y (-1) 1) (va_cwS 3 hts gX0_isStep_X0_isWithin rfl rfl rfl (by decide +kernel) ⟨Nat.le_of_ble_eq_true rfl, Nat.le_of_ble_eq_true rfl⟩) ⟨sr_blindT, sr_mkT⟩ rfl rfl hl.1 rfl (lv_room (Nat.le_of_ble_eq_true rfl)) dX0_isStep_12 ⟨Nat.zero_le _, Nat.zero_le _⟩) (fun ry ey => ?_)
    refine lv_if_eq (tgt := 43) hx hb dX0_isStep_15 (by decide) (fun ky => ?_) (fun ky => ?_)
    · have gy : ¬ (-1 ≤ y ∧ y ≤ 1) := by
        rcases ey with ⟨q, _⟩ | ⟨_, q⟩
        · exact absurd (q.symm.trans ky) (by decide)
        · exact q
      refine lv_iconst (v := 0) hx hb dX0_isStep_43 (by decide) ?_
      exact W.zret (v := 0) hx hb hr rfl (fun t ht hW => ⟨0, rfl, Or.inr ⟨rfl, fun h => gy ⟨h.1.1.1.1.2, h.1.1.1.2⟩⟩, ht⟩) (fun q h => absurd h List.not_mem_nil) dX0_isStep_44
    · have gy : -1 ≤ y ∧ y ≤ 1 := by
        rcases ey with ⟨_, q⟩ | ⟨q, _⟩
        · exact q
        · exact absurd q ky
      refine lv_iload_n hx hb dX0_isStep_18 rfl (lv_at hl 2 rfl) ?_
      refine lv_iconst (v := (-1)) hx hb dX0_isStep_19 (by decide) ?_
      refine lv_iconst (v := 1) hx hb dX0_isStep_20 (by decide) ?_
      refine vp_callSi (W.runS (As := [.int z, .int ((-1)), .int 1]) (rest := []) ⟨hx, hb, hml, hown, hts⟩ (c_X0_isWithin l z (-1) 1) (va_cwS 3 hts gX0_isStep_X0_isWithin rfl rfl rfl (by decide +kernel) ⟨Nat.le_of_ble_eq_true rfl, Nat.le_of_ble_eq_true rfl⟩) ⟨sr_blindT, sr_mkT⟩ rfl rfl hl.1 rfl (lv_room (Nat.le_of_ble_eq_true rfl)) dX0_isStep_21 ⟨Nat.zero_le _, Nat.zero_le _⟩) (fun rz ez => ?_)
      refine lv_if_eq (tgt := 43) hx hb dX0_isStep_24 (by decide) (fun kz => ?_) (fun kz => ?_)
      · have gz : ¬ (-1 ≤ z ∧ z ≤ 1) := by
          rcases ez with ⟨q, _⟩ | ⟨_, q⟩
          · exact absurd (q.symm.trans kz) (by decide)
          · exact q
        refine lv_iconst (v := 0) hx hb dX0_isStep_43 (by decide) ?_
        exact W.zret (v := 0) hx hb hr rfl (fun t ht hW => ⟨0, rfl, Or.inr ⟨rfl, fun h => gz ⟨h.1.1.2, h.1.2⟩⟩, ht⟩) (fun q h => absurd h List.not_mem_nil) dX0_isStep_44
      · have gz : -1 ≤ z ∧ z ≤ 1 := by
          rcases ez with ⟨_, q⟩ | ⟨q, _⟩
          · exact q
          · exact absurd q kz
        refine lv_iload_n hx hb dX0_isStep_27 rfl (lv_at hl 0 rfl) ?_
        refine lv_if_ne (tgt := 39) hx hb dX0_isStep_28 (by decide) (fun n1 => ?_) (fun n1 => ?_)
        · refine lv_iconst (v := 1) hx hb dX0_isStep_39 (by decide) ?_
          refine lv_goto (tgt := 44) hx hb dX0_isStep_40 (by decide) ?_
          exact W.zret (v := 1) hx hb hr rfl (fun t ht hW => ⟨1, rfl, Or.inl ⟨rfl, ⟨⟨⟨⟨⟨⟨gx.1, gx.2⟩, gy.1⟩, gy.2⟩, gz.1⟩, gz.2⟩, Or.inl n1⟩⟩, ht⟩) (fun q h => absurd h List.not_mem_nil) dX0_isStep_44
        · refine lv_iload_n hx hb dX0_isStep_31 rfl (lv_at hl 1 rfl) ?_
          refine lv_if_ne (tgt := 39) hx hb dX0_isStep_32 (by decide) (fun n2 => ?_) (fun n2 => ?_)
          · refine lv_iconst (v := 1) hx hb dX0_isStep_39 (by decide) ?_
            refine lv_goto (tgt := 44) hx hb dX0_isStep_40 (by decide) ?_
            exact W.zret (v := 1) hx hb hr rfl (fun t ht hW => ⟨1, rfl, Or.inl ⟨rfl, ⟨⟨⟨⟨⟨⟨gx.1, gx.2⟩, gy.1⟩, gy.2⟩, gz.1⟩, gz.2⟩, Or.inr (Or.inl n2)⟩⟩, ht⟩) (fun q h => absurd h List.not_mem_nil) dX0_isStep_44
          · refine lv_iload_n hx hb dX0_isStep_35 rfl (lv_at hl 2 rfl) ?_
            refine lv_if_eq (tgt := 43) hx hb dX0_isStep_36 (by decide) (fun n3 => ?_) (fun n3 => ?_)
            · refine lv_iconst (v := 0) hx hb dX0_isStep_43 (by decide) ?_
              exact W.zret (v := 0) hx hb hr rfl (fun t ht hW => ⟨0, rfl, Or.inr ⟨rfl, fun h => h.2.elim (fun q => q n1) (fun q => q.elim (fun q => q n2) (fun q => q n3))⟩, ht⟩) (fun q h => absurd h List.not_mem_nil) dX0_isStep_44
            · refine lv_iconst (v := 1) hx hb dX0_isStep_39 (by decide) ?_
              refine lv_goto (tgt := 44) hx hb dX0_isStep_40 (by decide) ?_
              exact W.zret (v := 1) hx hb hr rfl (fun t ht hW => ⟨1, rfl, Or.inl ⟨rfl, ⟨⟨⟨⟨⟨⟨gx.1, gx.2⟩, gy.1⟩, gy.2⟩, gz.1⟩, gz.2⟩, Or.inr (Or.inr n3)⟩⟩, ht⟩) (fun q h => absurd h List.not_mem_nil) dX0_isStep_44
set_option maxHeartbeats 4000000 in
set_option maxRecDepth 100000 in
theorem c_X0_packed (l : Launch) (x y z : Int32) : Met l yX0_packed wsX0_packed ({ frames := 0, cells := 0, slots := 0, locals := 0 }) (va_Pc [.int x, .int y, .int z] (fun _ => True)) (vp_Si (fun r => r = (x + 1) * 9 + (y + 1) * 3 + (z + 1))) 0 0 (fun _ => False) := by
  refine Met.ofW (cc := cX0_packed) (maxL := 3) (ret := (some .int)) (by decide) rfl ?_
  intro p e s m args below meth c s₁ B hml hv
  obtain ⟨rfl, -⟩ := hv
  have hx := B.exec
  have hb := B.bytes
  have hr := B.returns
  have hts := atoms_spec (ws := wsX0_packed) B.pre
  have hown : s.vm.findClass RX0 = some m.cls := findClass_of_methodNamed B.named
  have hlocks := B.notSynchronized
  have hl := lv_entry ([.int x, .int y, .int z]) (n := 3) (Nat.le_of_ble_eq_true rfl)
  rw [lg_entry_eq]
  generalize (lg_sl ([.int x, .int y, .int z]) ++ List.replicate (3 - (lg_sl ([.int x, .int y, .int z])).length) Slot.unset).toArray = ls at hl ⊢
  have hl : lv_has ls 3 [(0, .int x), (1, .int y), (2, .int z)] := hl
  refine lv_iload_n hx hb dX0_packed_0 rfl (lv_at hl 0 rfl) ?_
  refine lv_iconst (v := 1) hx hb dX0_packed_1 (by decide) ?_
  refine lv_iadd hx hb dX0_packed_2 ?_
  refine lv_bipush (v := 9) hx hb dX0_packed_3 (by decide) ?_
  refine lv_imul hx hb dX0_packed_5 ?_
  refine lv_iload_n hx hb dX0_packed_6 rfl (lv_at hl 1 rfl) ?_
  refine lv_iconst (v := 1) hx hb dX0_packed_7 (by decide) ?_
  refine lv_iadd hx hb dX0_packed_8 ?_
  refine lv_iconst (v := 3) hx hb dX0_packed_9 (by decide) ?_
  refine lv_imul hx hb dX0_packed_10 ?_
  refine lv_iadd hx hb dX0_packed_11 ?_
  refine lv_iload_n hx hb dX0_packed_12 rfl (lv_at hl 2 rfl) ?_
  refine lv_iconst (v := 1) hx hb dX0_packed_13 (by decide) ?_
  refine lv_iadd hx hb dX0_packed_14 ?_
  refine lv_iadd hx hb dX0_packed_15 ?_
  exact W.iret (v := (((x + 1) * 9) + ((y + 1) * 3)) + (z + 1)) hx hb hr (fun t ht hW => ⟨(((x + 1) * 9) + ((y + 1) * 3)) + (z + 1), rfl, rfl, ht⟩) (fun q h => absurd h List.not_mem_nil) dX0_packed_16
set_option maxHeartbeats 4000000 in
set_option maxRecDepth 100000 in
theorem c_X0_sumOfProducts (l : Launch) (a b : Int32) : Met l yX0_sumOfProducts wsX0_sumOfProducts ({ frames := 0, cells := 0, slots := 0, locals := 0 }) (va_Pc [.int a, .int b] (fun _ => True)) (vp_Si (fun r => r = sr_sop a b)) 0 0 (fun _ => False) := by
  refine Met.ofW (cc := cX0_sumOfProducts) (maxL := 5) (ret := (some .int)) (by decide) rfl ?_
  intro p e s m args below meth c s₁ B hml hv
  obtain ⟨rfl, -⟩ := hv
  have hx := B.exec
  have hb := B.bytes
  have hr := B.returns
  have hts := atoms_spec (ws := wsX0_sumOfProducts) B.pre
  have hown : s.vm.findClass RX0 = some m.cls := findClass_of_methodNamed B.named
  have hlocks := B.notSynchronized
  have hl := lv_entry ([.int a, .int b]) (n := 5) (Nat.le_of_ble_eq_true rfl)
  rw [lg_entry_eq]
  generalize (lg_sl ([.int a, .int b]) ++ List.replicate (5 - (lg_sl ([.int a, .int b])).length) Slot.unset).toArray = ls at hl ⊢
  have hl : lv_has ls 5 [(0, .int a), (1, .int b)] := hl
  refine lv_iload_n hx hb dX0_sumOfProducts_0 rfl (lv_at hl 0 rfl) ?_
  refine lv_bipush (v := 9) hx hb dX0_sumOfProducts_1 (by decide) ?_
  refine lv_idiv hx hb dX0_sumOfProducts_3 (by decide) ?_
  refine lv_iconst (v := 1) hx hb dX0_sumOfProducts_4 (by decide) ?_
  refine lv_isub hx hb dX0_sumOfProducts_5 ?_
  refine lv_iload_n hx hb dX0_sumOfProducts_6 rfl (lv_at hl 1 rfl) ?_
  refine lv_bipush (v := 9) hx hb dX0_sumOfProducts_7 (by decide) ?_
  refine lv_idiv hx hb dX0_sumOfProducts_9 (by decide) ?_
  refine lv_iconst (v := 1) hx hb dX0_sumOfProducts_10 (by decide) ?_
  refine lv_isub hx hb dX0_sumOfProducts_11 ?_
  refine lv_imul hx hb dX0_sumOfProducts_12 ?_
  refine lv_istore_n (lv' := [(2, .int (((a / 9) - 1) * ((b / 9) - 1))), (0, .int a), (1, .int b)]) hx hb dX0_sumOfProducts_13 rfl hl (by decide) rfl (fun ls hl => ?_)
  refine lv_iload_n hx hb dX0_sumOfProducts_14 rfl (lv_at hl 1 rfl) ?_
  refine lv_iconst (v := 3) hx hb dX0_sumOfProducts_15 (by decide) ?_
  refine lv_idiv hx hb dX0_sumOfProducts_16 (by decide) ?_
  refine lv_iconst (v := 3) hx hb dX0_sumOfProducts_17 (by decide) ?_
  refine lv_irem hx hb dX0_sumOfProducts_18 (by decide) ?_
  refine lv_iconst (v := 1) hx hb dX0_sumOfProducts_19 (by decide) ?_
  refine lv_isub hx hb dX0_sumOfProducts_20 ?_
  refine lv_iload_n hx hb dX0_sumOfProducts_21 rfl (lv_at hl 2 rfl) ?_
  refine lv_iconst (v := 3) hx hb dX0_sumOfProducts_22 (by decide) ?_
  refine lv_idiv hx hb dX0_sumOfProducts_23 (by decide) ?_
  refine lv_iconst (v := 3) hx hb dX0_sumOfProducts_24 (by decide) ?_
  refine lv_irem hx hb dX0_sumOfProducts_25 (by decide) ?_
  refine lv_iconst (v := 1) hx hb dX0_sumOfProducts_26 (by decide) ?_
  refine lv_isub hx hb dX0_sumOfProducts_27 ?_
  refine lv_imul hx hb dX0_sumOfProducts_28 ?_
  refine lv_istore_n (lv' := [(3, .int ((((a / 3) - (a / 3) / 3 * 3) - 1) * (((b / 3) - (b / 3) / 3 * 3) - 1))), (2, .int (((a / 9) - 1) * ((b / 9) - 1))), (0, .int a), (1, .int b)]) hx hb dX0_sumOfProducts_29 rfl hl (by decide) rfl (fun ls hl => ?_)
  refine lv_iload_n hx hb dX0_sumOfProducts_30 rfl (lv_at hl 2 rfl) ?_
  refine lv_iconst (v := 3) hx hb dX0_sumOfProducts_31 (by decide) ?_
  refine lv_irem hx hb dX0_sumOfProducts_32 (by decide) ?_
  refine lv_iconst (v := 1) hx hb dX0_sumOfProducts_33 (by decide) ?_
  refine lv_isub hx hb dX0_sumOfProducts_34 ?_
  refine lv_iload_n hx hb dX0_sumOfProducts_35 rfl (lv_at hl 3 rfl) ?_
  refine lv_iconst (v := 3) hx hb dX0_sumOfProducts_36 (by decide) ?_
  refine lv_irem hx hb dX0_sumOfProducts_37 (by decide) ?_
  refine lv_iconst (v := 1) hx hb dX0_sumOfProducts_38 (by decide) ?_
  refine lv_isub hx hb dX0_sumOfProducts_39 ?_
  refine lv_imul hx hb dX0_sumOfProducts_40 ?_
  refine lv_istore (lv' := [(4, .int (((a - a / 3 * 3) - 1) * ((b - b / 3 * 3) - 1))), (3, .int ((((a / 3) - (a / 3) / 3 * 3) - 1) * (((b / 3) - (b / 3) / 3 * 3) - 1))), (2, .int (((a / 9) - 1) * ((b / 9) - 1))), (0, .int a), (1, .int b)]) hx hb dX0_sumOfProducts_41 hl (by decide) rfl (fun ls hl => ?_)
  refine lv_iload_n hx hb dX0_sumOfProducts_43 rfl (lv_at hl 2 rfl) ?_
  refine lv_iload_n hx hb dX0_sumOfProducts_44 rfl (lv_at hl 1 rfl) ?_
  refine lv_iadd hx hb dX0_sumOfProducts_45 ?_
  refine lv_iload hx hb dX0_sumOfProducts_46 (lv_at hl 0 rfl) ?_
  refine lv_iadd hx hb dX0_sumOfProducts_48 ?_
  exact W.iret (v := ((((a / 9) - 1) * ((b / 9) - 1)) + ((((a / 3) - (a / 3) / 3 * 3) - 1) * (((b / 3) - (b / 3) / 3 * 3) - 1))) + (((a - a / 3 * 3) - 1) * ((b - b / 3 * 3) - 1))) hx hb hr (fun t ht hW => ⟨((((a / 9) - 1) * ((b / 9) - 1)) + ((((a / 3) - (a / 3) / 3 * 3) - 1) * (((b / 3) - (b / 3) / 3 * 3) - 1))) + (((a - a / 3 * 3) - 1) * ((b - b / 3 * 3) - 1)), rfl, rfl, ht⟩) (fun q h => absurd h List.not_mem_nil) dX0_sumOfProducts_49
set_option maxHeartbeats 4000000 in
set_option maxRecDepth 100000 in
theorem c_X0_sumOfSquares (l : Launch) (a : Int32) : Met l yX0_sumOfSquares wsX0_sumOfSquares ({ frames := 1, cells := 0, slots := 0, locals := 24 }) (va_Pc [.int a] (fun _ => True)) (vp_Si (fun r => r = sr_sop a a)) 0 0 (fun _ => False) := by
  refine Met.ofW (cc := cX0_sumOfSquares) (maxL := 1) (ret := (some .int)) (by decide) rfl ?_
  intro p e s m args below meth c s₁ B hml hv
  obtain ⟨rfl, -⟩ := hv
  have hx := B.exec
  have hb := B.bytes
  have hr := B.returns
  have hts := atoms_spec (ws := wsX0_sumOfSquares) B.pre
  have hown : s.vm.findClass RX0 = some m.cls := findClass_of_methodNamed B.named
  have hlocks := B.notSynchronized
  have hl := lv_entry ([.int a]) (n := 1) (Nat.le_of_ble_eq_true rfl)
  rw [lg_entry_eq]
  generalize (lg_sl ([.int a]) ++ List.replicate (1 - (lg_sl ([.int a])).length) Slot.unset).toArray = ls at hl ⊢
  have hl : lv_has ls 1 [(0, .int a)] := hl
  refine lv_iload_n hx hb dX0_sumOfSquares_0 rfl (lv_at hl 0 rfl) ?_
  refine lv_iload_n hx hb dX0_sumOfSquares_1 rfl (lv_at hl 0 rfl) ?_
  refine vp_callSi (W.runS (As := [.int a, .int a]) (rest := []) ⟨hx, hb, hml, hown, hts⟩ (c_X0_sumOfProducts l a a) (va_cwS 2 hts gX0_sumOfSquares_X0_sumOfProducts rfl rfl rfl (by decide +kernel) ⟨Nat.le_of_ble_eq_true rfl, Nat.le_of_ble_eq_true rfl⟩) ⟨sr_blindT, sr_mkT⟩ rfl rfl hl.1 rfl (lv_room (Nat.le_of_ble_eq_true rfl)) dX0_sumOfSquares_2 ⟨Nat.zero_le _, Nat.zero_le _⟩) (fun r er => ?_)
  exact W.iret (v := r) hx hb hr (fun t ht hW => ⟨r, rfl, er, ht⟩) (fun q h => absurd h List.not_mem_nil) dX0_sumOfSquares_5
