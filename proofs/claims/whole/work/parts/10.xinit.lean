/-! THE CLASS: the constructor. -/
theorem sr_ca_i (n : Nat) : ∀ cA : ClassId, vp_cell cA (n, .inl (fun _ => (0 : Int32))) = arrV cA n (fun _ => defaultValue .int) := fun _ => rfl
theorem sr_ca_b (n : Nat) : ∀ cA : ClassId, vp_cell cA (n, .inl (fun _ => (0 : Int32))) = arrV cA n (fun _ => defaultValue .byte) := fun _ => rfl
set_option maxHeartbeats 400000 in
set_option maxRecDepth 100000 in
theorem c_X0_init (l : Launch) (dC : Nat → ClassId) (dI : Nat → Nat → Nat) (x sz : Nat) : Met l yX0_init wsX0_init ({ frames := 1, cells := 5, slots := 10001, locals := 22 }) (sr_pre dC dI [] [(x, .inr (0, [.null, .null, .null, .null, .null, .int 0, .int 0, .int 0, .int 0, .int 0]))] sz [.ref x]) (va_Qv (fun (u : va_W × List (ClassId × FieldType)) => ∃ (a1 a2 a3 a4 a5 : Nat) (z1 z2 z3 z4 z5 : ClassId), u = (sr_wX x a1 a2 a3 a4 a5 z1 z2 z3 z4 z5 0 22 22 100 0 (fun _ => 0) (fun _ => 0) (fun _ => 0) (fun _ => 0) (fun _ => 0), sr_tX z1 z2 z3 z4 z5)) (fun u t => va_P (dC, dI) vwCl u.1 t.heap ∧ va_K (dC, dI) vwCl u.2 t ∧ va_D (va_A [(x, .inr (0, [.null, .null, .null, .null, .null, .int 0, .int 0, .int 0, .int 0, .int 0]))] sz) u.1) (va_A [(x, .inr (0, [.null, .null, .null, .null, .null, .int 0, .int 0, .int 0, .int 0, .int 0]))] sz)) 5 10001 (va_A [(x, .inr (0, [.null, .null, .null, .null, .null, .int 0, .int 0, .int 0, .int 0, .int 0]))] sz) := by
  refine Met.ofW (cc := cX0_init) (maxL := 1) (ret := none) (by decide) rfl ?_
  intro p e s m args below meth c s₁ B hml hv
  obtain ⟨rfl, hsz, hP, hK, hD0⟩ := hv
  have hx := B.exec
  have hb := B.bytes
  have hr := B.returns
  have hts := atoms_spec (ws := wsX0_init) B.pre
  have hown : s.vm.findClass RX0 = some m.cls := findClass_of_methodNamed B.named
  have hlocks := B.notSynchronized
  have hin : meth.name = "<init>" := (name_of_methodNamed B.named B.method).1
  subst hsz
  have hD := hD0.self (sz := s.heap.size)
  generalize hAe : va_A [(x, .inr (0, [.null, .null, .null, .null, .null, .int 0, .int 0, .int 0, .int 0, .int 0]))] s.heap.size = A at hD ⊢
  have hA : ∀ q : Nat, s.heap.size ≤ q → A q := fun q h => by rw [← hAe]; exact Or.inr h
  have hS : va_S A s.heap s.heap [] := va_S.rf
  have hP : va_P (dC, dI) vwCl [(x, .inr (0, [.null, .null, .null, .null, .null, .int 0, .int 0, .int 0, .int 0, .int 0]))] s.heap := hP
  have hD : va_D A [(x, .inr (0, [.null, .null, .null, .null, .null, .int 0, .int 0, .int 0, .int 0, .int 0]))] := hD
  have hK : va_K (dC, dI) vwCl [] s := hK
  have hin0 : ∀ w ∈ u_ws RX0 TX0 10, w ∈ wsX0_init := by decide +kernel
  have hl := lv_entry ([.ref x]) (n := 1) (Nat.le_of_ble_eq_true rfl)
  rw [lg_entry_eq]
  generalize (lg_sl ([.ref x]) ++ List.replicate (1 - (lg_sl ([.ref x])).length) Slot.unset).toArray = ls at hl ⊢
  have hl : lv_has ls 1 [(0, .ref x)] := hl
  refine lv_aload_n hx hb dX0_init_0 rfl (lv_at hl 0 rfl) ?_
  refine W.objInit hx hb hown (hts (.methodLink RX0 1 objectInit) (by decide +kernel)) (hts (.instanceMethod objectInit) (by decide +kernel)) (hts _ (List.mem_cons_of_mem _ (List.mem_append_left _ (List.mem_of_getElem? (i := 2) rfl)))) rfl (by rw [hml]; exact hl.1) rfl dX0_init_1 (Nat.le_of_ble_eq_true rfl) (Nat.le_of_ble_eq_true rfl) ?_
  refine W.eq (g2 := F0 m 4 ls []) rfl ?_
  refine lv_aload_n hx hb dX0_init_4 rfl (lv_at hl 0 rfl) ?_
  refine lv_sipush (v := nI 2000) hx hb dX0_init_5 (by decide) ?_
  refine va_newa (atype := .int) (ty := .int) (N' := 2000) (a0 := (2000, .inl (fun _ => 0))) hx hb (hts (.arrayClass .int) (by decide +kernel)) rfl hK hP hD hS hA (sr_ca_i 2000) (nI_pos (by omega)) (nI_clamp (by omega)) (by show 2000 * 4 ≤ 536870912; omega) (by show _ ≤ 5; omega) (by show _ ≤ 10001; omega) dX0_init_8 (fun a1 z1 H hK hP hD hS => ?_)
  have hK : va_K (dC, dI) vwCl [(z1, .int)] s := hK
  have hP : va_P (dC, dI) vwCl [(x, .inr (0, [.null, .null, .null, .null, .null, .int 0, .int 0, .int 0, .int 0, .int 0])), (a1, .inl (z1, 2000, .inl (fun _ => 0)))] H := hP
  have hD : va_D A [(x, .inr (0, [.null, .null, .null, .null, .null, .int 0, .int 0, .int 0, .int 0, .int 0])), (a1, .inl (z1, 2000, .inl (fun _ => 0)))] := hD
  refine va_putF (D := (dC, dI)) (ci := 0) (v := .ref a1) (ty := (.array .int)) (C := RX0) (T := TX0) (N := 10) hx hb hts hin0 tyX0 tyX0_ok nmX0 hown hK hP hD hS 0 rfl rfl 0 (by decide) (hts (.fieldLink RX0 9 "SpeedRows" "ticks" "[I") (by decide +kernel)) (fun _ h9 => h9) rfl hin rfl (by decide +kernel) rfl rfl (Nat.le_of_ble_eq_true rfl) dX0_init_10 (fun H locs hP hD hS => ?_)
  have hP : va_P (dC, dI) vwCl [(x, .inr (0, [.ref a1, .null, .null, .null, .null, .int 0, .int 0, .int 0, .int 0, .int 0])), (a1, .inl (z1, 2000, .inl (fun _ => 0)))] H := hP
  have hD : va_D A [(x, .inr (0, [.ref a1, .null, .null, .null, .null, .int 0, .int 0, .int 0, .int 0, .int 0])), (a1, .inl (z1, 2000, .inl (fun _ => 0)))] := hD
  refine lv_aload_n hx hb dX0_init_13 rfl (lv_at hl 0 rfl) ?_
  refine lv_sipush (v := nI 2000) hx hb dX0_init_14 (by decide) ?_
  refine va_newa (atype := .int) (ty := .int) (N' := 2000) (a0 := (2000, .inl (fun _ => 0))) hx hb (hts (.arrayClass .int) (by decide +kernel)) rfl hK hP hD hS hA (sr_ca_i 2000) (nI_pos (by omega)) (nI_clamp (by omega)) (by show 2000 * 4 ≤ 536870912; omega) (by show _ ≤ 5; omega) (by show _ ≤ 10001; omega) dX0_init_17 (fun a2 z2 H hK hP hD hS => ?_)
  have hK : va_K (dC, dI) vwCl [(z1, .int), (z2, .int)] s := hK
  have hP : va_P (dC, dI) vwCl [(x, .inr (0, [.ref a1, .null, .null, .null, .null, .int 0, .int 0, .int 0, .int 0, .int 0])), (a1, .inl (z1, 2000, .inl (fun _ => 0))), (a2, .inl (z2, 2000, .inl (fun _ => 0)))] H := hP
  have hD : va_D A [(x, .inr (0, [.ref a1, .null, .null, .null, .null, .int 0, .int 0, .int 0, .int 0, .int 0])), (a1, .inl (z1, 2000, .inl (fun _ => 0))), (a2, .inl (z2, 2000, .inl (fun _ => 0)))] := hD
  refine va_putF (D := (dC, dI)) (ci := 0) (v := .ref a2) (ty := (.array .int)) (C := RX0) (T := TX0) (N := 10) hx hb hts hin0 tyX0 tyX0_ok nmX0 hown hK hP hD hS 0 rfl rfl 1 (by decide) (hts (.fieldLink RX0 13 "SpeedRows" "feeds" "[I") (by decide +kernel)) (fun _ h9 => h9) rfl hin rfl (by decide +kernel) rfl rfl (Nat.le_of_ble_eq_true rfl) dX0_init_19 (fun H locs hP hD hS => ?_)
  have hP : va_P (dC, dI) vwCl [(x, .inr (0, [.ref a1, .ref a2, .null, .null, .null, .int 0, .int 0, .int 0, .int 0, .int 0])), (a1, .inl (z1, 2000, .inl (fun _ => 0))), (a2, .inl (z2, 2000, .inl (fun _ => 0)))] H := hP
  have hD : va_D A [(x, .inr (0, [.ref a1, .ref a2, .null, .null, .null, .int 0, .int 0, .int 0, .int 0, .int 0])), (a1, .inl (z1, 2000, .inl (fun _ => 0))), (a2, .inl (z2, 2000, .inl (fun _ => 0)))] := hD
  refine lv_aload_n hx hb dX0_init_22 rfl (lv_at hl 0 rfl) ?_
  refine lv_sipush (v := nI 2000) hx hb dX0_init_23 (by decide) ?_
  refine va_newa (atype := .int) (ty := .int) (N' := 2000) (a0 := (2000, .inl (fun _ => 0))) hx hb (hts (.arrayClass .int) (by decide +kernel)) rfl hK hP hD hS hA (sr_ca_i 2000) (nI_pos (by omega)) (nI_clamp (by omega)) (by show 2000 * 4 ≤ 536870912; omega) (by show _ ≤ 5; omega) (by show _ ≤ 10001; omega) dX0_init_26 (fun a3 z3 H hK hP hD hS => ?_)
  have hK : va_K (dC, dI) vwCl [(z1, .int), (z2, .int), (z3, .int)] s := hK
  have hP : va_P (dC, dI) vwCl [(x, .inr (0, [.ref a1, .ref a2, .null, .null, .null, .int 0, .int 0, .int 0, .int 0, .int 0])), (a1, .inl (z1, 2000, .inl (fun _ => 0))), (a2, .inl (z2, 2000, .inl (fun _ => 0))), (a3, .inl (z3, 2000, .inl (fun _ => 0)))] H := hP
  have hD : va_D A [(x, .inr (0, [.ref a1, .ref a2, .null, .null, .null, .int 0, .int 0, .int 0, .int 0, .int 0])), (a1, .inl (z1, 2000, .inl (fun _ => 0))), (a2, .inl (z2, 2000, .inl (fun _ => 0))), (a3, .inl (z3, 2000, .inl (fun _ => 0)))] := hD
  refine va_putF (D := (dC, dI)) (ci := 0) (v := .ref a3) (ty := (.array .int)) (C := RX0) (T := TX0) (N := 10) hx hb hts hin0 tyX0 tyX0_ok nmX0 hown hK hP hD hS 0 rfl rfl 2 (by decide) (hts (.fieldLink RX0 16 "SpeedRows" "lastSteps" "[I") (by decide +kernel)) (fun _ h9 => h9) rfl hin rfl (by decide +kernel) rfl rfl (Nat.le_of_ble_eq_true rfl) dX0_init_28 (fun H locs hP hD hS => ?_)
  have hP : va_P (dC, dI) vwCl [(x, .inr (0, [.ref a1, .ref a2, .ref a3, .null, .null, .int 0, .int 0, .int 0, .int 0, .int 0])), (a1, .inl (z1, 2000, .inl (fun _ => 0))), (a2, .inl (z2, 2000, .inl (fun _ => 0))), (a3, .inl (z3, 2000, .inl (fun _ => 0)))] H := hP
  have hD : va_D A [(x, .inr (0, [.ref a1, .ref a2, .ref a3, .null, .null, .int 0, .int 0, .int 0, .int 0, .int 0])), (a1, .inl (z1, 2000, .inl (fun _ => 0))), (a2, .inl (z2, 2000, .inl (fun _ => 0))), (a3, .inl (z3, 2000, .inl (fun _ => 0)))] := hD
  refine lv_aload_n hx hb dX0_init_31 rfl (lv_at hl 0 rfl) ?_
  refine lv_sipush (v := nI 2000) hx hb dX0_init_32 (by decide) ?_
  refine va_newa (atype := .int) (ty := .int) (N' := 2000) (a0 := (2000, .inl (fun _ => 0))) hx hb (hts (.arrayClass .int) (by decide +kernel)) rfl hK hP hD hS hA (sr_ca_i 2000) (nI_pos (by omega)) (nI_clamp (by omega)) (by show 2000 * 4 ≤ 536870912; omega) (by show _ ≤ 5; omega) (by show _ ≤ 10001; omega) dX0_init_35 (fun a4 z4 H hK hP hD hS => ?_)
  have hK : va_K (dC, dI) vwCl [(z1, .int), (z2, .int), (z3, .int), (z4, .int)] s := hK
  have hP : va_P (dC, dI) vwCl [(x, .inr (0, [.ref a1, .ref a2, .ref a3, .null, .null, .int 0, .int 0, .int 0, .int 0, .int 0])), (a1, .inl (z1, 2000, .inl (fun _ => 0))), (a2, .inl (z2, 2000, .inl (fun _ => 0))), (a3, .inl (z3, 2000, .inl (fun _ => 0))), (a4, .inl (z4, 2000, .inl (fun _ => 0)))] H := hP
  have hD : va_D A [(x, .inr (0, [.ref a1, .ref a2, .ref a3, .null, .null, .int 0, .int 0, .int 0, .int 0, .int 0])), (a1, .inl (z1, 2000, .inl (fun _ => 0))), (a2, .inl (z2, 2000, .inl (fun _ => 0))), (a3, .inl (z3, 2000, .inl (fun _ => 0))), (a4, .inl (z4, 2000, .inl (fun _ => 0)))] := hD
  refine va_putF (D := (dC, dI)) (ci := 0) (v := .ref a4) (ty := (.array .int)) (C := RX0) (T := TX0) (N := 10) hx hb hts hin0 tyX0 tyX0_ok nmX0 hown hK hP hD hS 0 rfl rfl 3 (by decide) (hts (.fieldLink RX0 19 "SpeedRows" "turnLimits" "[I") (by decide +kernel)) (fun _ h9 => h9) rfl hin rfl (by decide +kernel) rfl rfl (Nat.le_of_ble_eq_true rfl) dX0_init_37 (fun H locs hP hD hS => ?_)
  have hP : va_P (dC, dI) vwCl [(x, .inr (0, [.ref a1, .ref a2, .ref a3, .ref a4, .null, .int 0, .int 0, .int 0, .int 0, .int 0])), (a1, .inl (z1, 2000, .inl (fun _ => 0))), (a2, .inl (z2, 2000, .inl (fun _ => 0))), (a3, .inl (z3, 2000, .inl (fun _ => 0))), (a4, .inl (z4, 2000, .inl (fun _ => 0)))] H := hP
  have hD : va_D A [(x, .inr (0, [.ref a1, .ref a2, .ref a3, .ref a4, .null, .int 0, .int 0, .int 0, .int 0, .int 0])), (a1, .inl (z1, 2000, .inl (fun _ => 0))), (a2, .inl (z2, 2000, .inl (fun _ => 0))), (a3, .inl (z3, 2000, .inl (fun _ => 0))), (a4, .inl (z4, 2000, .inl (fun _ => 0)))] := hD
  refine lv_aload_n hx hb dX0_init_40 rfl (lv_at hl 0 rfl) ?_
  refine lv_sipush (v := nI 2001) hx hb dX0_init_41 (by decide) ?_
  refine va_newa (atype := .int) (ty := .int) (N' := 2001) (a0 := (2001, .inl (fun _ => 0))) hx hb (hts (.arrayClass .int) (by decide +kernel)) rfl hK hP hD hS hA (sr_ca_i 2001) (nI_pos (by omega)) (nI_clamp (by omega)) (by show 2001 * 4 ≤ 536870912; omega) (by show _ ≤ 5; omega) (by show _ ≤ 10001; omega) dX0_init_44 (fun a5 z5 H hK hP hD hS => ?_)
  have hK : va_K (dC, dI) vwCl [(z1, .int), (z2, .int), (z3, .int), (z4, .int), (z5, .int)] s := hK
  have hP : va_P (dC, dI) vwCl [(x, .inr (0, [.ref a1, .ref a2, .ref a3, .ref a4, .null, .int 0, .int 0, .int 0, .int 0, .int 0])), (a1, .inl (z1, 2000, .inl (fun _ => 0))), (a2, .inl (z2, 2000, .inl (fun _ => 0))), (a3, .inl (z3, 2000, .inl (fun _ => 0))), (a4, .inl (z4, 2000, .inl (fun _ => 0))), (a5, .inl (z5, 2001, .inl (fun _ => 0)))] H := hP
  have hD : va_D A [(x, .inr (0, [.ref a1, .ref a2, .ref a3, .ref a4, .null, .int 0, .int 0, .int 0, .int 0, .int 0])), (a1, .inl (z1, 2000, .inl (fun _ => 0))), (a2, .inl (z2, 2000, .inl (fun _ => 0))), (a3, .inl (z3, 2000, .inl (fun _ => 0))), (a4, .inl (z4, 2000, .inl (fun _ => 0))), (a5, .inl (z5, 2001, .inl (fun _ => 0)))] := hD
  refine va_putF (D := (dC, dI)) (ci := 0) (v := .ref a5) (ty := (.array .int)) (C := RX0) (T := TX0) (N := 10) hx hb hts hin0 tyX0 tyX0_ok nmX0 hown hK hP hD hS 0 rfl rfl 4 (by decide) (hts (.fieldLink RX0 22 "SpeedRows" "speeds" "[I") (by decide +kernel)) (fun _ h9 => h9) rfl hin rfl (by decide +kernel) rfl rfl (Nat.le_of_ble_eq_true rfl) dX0_init_46 (fun H locs hP hD hS => ?_)
  have hP : va_P (dC, dI) vwCl [(x, .inr (0, [.ref a1, .ref a2, .ref a3, .ref a4, .ref a5, .int 0, .int 0, .int 0, .int 0, .int 0])), (a1, .inl (z1, 2000, .inl (fun _ => 0))), (a2, .inl (z2, 2000, .inl (fun _ => 0))), (a3, .inl (z3, 2000, .inl (fun _ => 0))), (a4, .inl (z4, 2000, .inl (fun _ => 0))), (a5, .inl (z5, 2001, .inl (fun _ => 0)))] H := hP
  have hD : va_D A [(x, .inr (0, [.ref a1, .ref a2, .ref a3, .ref a4, .ref a5, .int 0, .int 0, .int 0, .int 0, .int 0])), (a1, .inl (z1, 2000, .inl (fun _ => 0))), (a2, .inl (z2, 2000, .inl (fun _ => 0))), (a3, .inl (z3, 2000, .inl (fun _ => 0))), (a4, .inl (z4, 2000, .inl (fun _ => 0))), (a5, .inl (z5, 2001, .inl (fun _ => 0)))] := hD
  refine W.widen (k := 5) (n := 10001) (by omega) (by omega) ?_
  refine lv_aload_n hx hb dX0_init_49 rfl (lv_at hl 0 rfl) ?_
  refine lv_iconst (v := nI 0) hx hb dX0_init_50 (by decide) ?_
  refine va_put (D := (dC, dI)) (ci := 0) (v := .int (nI 0)) (ty := .int) (C := RX0) (T := TX0) (N := 10) hx hb hts hin0 tyX0 tyX0_ok nmX0 hown hK hP hD hS 0 rfl rfl 5 (by decide) (hts (.fieldLink RX0 25 "SpeedRows" "moves" "I") (by decide +kernel)) (fun _ h9 => h9) rfl (by decide +kernel) rfl rfl (Nat.le_of_ble_eq_true rfl) dX0_init_51 (fun H locs hP hD hS => ?_)
  have hP : va_P (dC, dI) vwCl [(x, .inr (0, [.ref a1, .ref a2, .ref a3, .ref a4, .ref a5, .int (nI 0), .int 0, .int 0, .int 0, .int 0])), (a1, .inl (z1, 2000, .inl (fun _ => 0))), (a2, .inl (z2, 2000, .inl (fun _ => 0))), (a3, .inl (z3, 2000, .inl (fun _ => 0))), (a4, .inl (z4, 2000, .inl (fun _ => 0))), (a5, .inl (z5, 2001, .inl (fun _ => 0)))] H := hP
  have hD : va_D A [(x, .inr (0, [.ref a1, .ref a2, .ref a3, .ref a4, .ref a5, .int (nI 0), .int 0, .int 0, .int 0, .int 0])), (a1, .inl (z1, 2000, .inl (fun _ => 0))), (a2, .inl (z2, 2000, .inl (fun _ => 0))), (a3, .inl (z3, 2000, .inl (fun _ => 0))), (a4, .inl (z4, 2000, .inl (fun _ => 0))), (a5, .inl (z5, 2001, .inl (fun _ => 0)))] := hD
  refine lv_aload_n hx hb dX0_init_54 rfl (lv_at hl 0 rfl) ?_
  refine lv_iconst (v := 1) hx hb dX0_init_55 (by decide) ?_
  refine lv_iconst (v := 0) hx hb dX0_init_56 (by decide) ?_
  refine lv_iconst (v := 0) hx hb dX0_init_57 (by decide) ?_
  refine vp_callSi (W.runS (As := [.int 1, .int 0, .int 0]) (rest := [.ref x]) ⟨hx, hb, hml, hown, hts⟩ (c_X0_packed l 1 0 0) (va_cwS 3 hts gX0_init_X0_packed rfl rfl rfl (by decide +kernel) ⟨Nat.le_of_ble_eq_true rfl, Nat.le_of_ble_eq_true rfl⟩) ⟨sr_blindT, sr_mkT⟩ rfl rfl hl.1 rfl (lv_room (Nat.le_of_ble_eq_true rfl)) dX0_init_58 ⟨by show _ ≤ 5; omega, by show _ ≤ 10001; omega⟩) (fun r1 e1 => ?_)
  refine sr_ti (y := nI 22) (by rw [e1]; decide) ?_
  refine va_put (D := (dC, dI)) (ci := 0) (v := .int (nI 22)) (ty := .int) (C := RX0) (T := TX0) (N := 10) hx hb hts hin0 tyX0 tyX0_ok nmX0 hown hK hP hD hS 0 rfl rfl 6 (by decide) (hts (.fieldLink RX0 33 "SpeedRows" "nextFirst" "I") (by decide +kernel)) (fun _ h9 => h9) rfl (by decide +kernel) rfl rfl (Nat.le_of_ble_eq_true rfl) dX0_init_61 (fun H locs hP hD hS => ?_)
  have hP : va_P (dC, dI) vwCl [(x, .inr (0, [.ref a1, .ref a2, .ref a3, .ref a4, .ref a5, .int (nI 0), .int (nI 22), .int 0, .int 0, .int 0])), (a1, .inl (z1, 2000, .inl (fun _ => 0))), (a2, .inl (z2, 2000, .inl (fun _ => 0))), (a3, .inl (z3, 2000, .inl (fun _ => 0))), (a4, .inl (z4, 2000, .inl (fun _ => 0))), (a5, .inl (z5, 2001, .inl (fun _ => 0)))] H := hP
  have hD : va_D A [(x, .inr (0, [.ref a1, .ref a2, .ref a3, .ref a4, .ref a5, .int (nI 0), .int (nI 22), .int 0, .int 0, .int 0])), (a1, .inl (z1, 2000, .inl (fun _ => 0))), (a2, .inl (z2, 2000, .inl (fun _ => 0))), (a3, .inl (z3, 2000, .inl (fun _ => 0))), (a4, .inl (z4, 2000, .inl (fun _ => 0))), (a5, .inl (z5, 2001, .inl (fun _ => 0)))] := hD
  refine lv_aload_n hx hb dX0_init_64 rfl (lv_at hl 0 rfl) ?_
  refine lv_iconst (v := 1) hx hb dX0_init_65 (by decide) ?_
  refine lv_iconst (v := 0) hx hb dX0_init_66 (by decide) ?_
  refine lv_iconst (v := 0) hx hb dX0_init_67 (by decide) ?_
  refine vp_callSi (W.runS (As := [.int 1, .int 0, .int 0]) (rest := [.ref x]) ⟨hx, hb, hml, hown, hts⟩ (c_X0_packed l 1 0 0) (va_cwS 3 hts gX0_init_X0_packed rfl rfl rfl (by decide +kernel) ⟨Nat.le_of_ble_eq_true rfl, Nat.le_of_ble_eq_true rfl⟩) ⟨sr_blindT, sr_mkT⟩ rfl rfl hl.1 rfl (lv_room (Nat.le_of_ble_eq_true rfl)) dX0_init_68 ⟨by show _ ≤ 5; omega, by show _ ≤ 10001; omega⟩) (fun r2 e2 => ?_)
  refine sr_ti (y := nI 22) (by rw [e2]; decide) ?_
  refine va_put (D := (dC, dI)) (ci := 0) (v := .int (nI 22)) (ty := .int) (C := RX0) (T := TX0) (N := 10) hx hb hts hin0 tyX0 tyX0_ok nmX0 hown hK hP hD hS 0 rfl rfl 7 (by decide) (hts (.fieldLink RX0 36 "SpeedRows" "nextLast" "I") (by decide +kernel)) (fun _ h9 => h9) rfl (by decide +kernel) rfl rfl (Nat.le_of_ble_eq_true rfl) dX0_init_71 (fun H locs hP hD hS => ?_)
  have hP : va_P (dC, dI) vwCl [(x, .inr (0, [.ref a1, .ref a2, .ref a3, .ref a4, .ref a5, .int (nI 0), .int (nI 22), .int (nI 22), .int 0, .int 0])), (a1, .inl (z1, 2000, .inl (fun _ => 0))), (a2, .inl (z2, 2000, .inl (fun _ => 0))), (a3, .inl (z3, 2000, .inl (fun _ => 0))), (a4, .inl (z4, 2000, .inl (fun _ => 0))), (a5, .inl (z5, 2001, .inl (fun _ => 0)))] H := hP
  have hD : va_D A [(x, .inr (0, [.ref a1, .ref a2, .ref a3, .ref a4, .ref a5, .int (nI 0), .int (nI 22), .int (nI 22), .int 0, .int 0])), (a1, .inl (z1, 2000, .inl (fun _ => 0))), (a2, .inl (z2, 2000, .inl (fun _ => 0))), (a3, .inl (z3, 2000, .inl (fun _ => 0))), (a4, .inl (z4, 2000, .inl (fun _ => 0))), (a5, .inl (z5, 2001, .inl (fun _ => 0)))] := hD
  refine lv_aload_n hx hb dX0_init_74 rfl (lv_at hl 0 rfl) ?_
  refine lv_bipush (v := nI 100) hx hb dX0_init_75 (by decide) ?_
  refine va_put (D := (dC, dI)) (ci := 0) (v := .int (nI 100)) (ty := .int) (C := RX0) (T := TX0) (N := 10) hx hb hts hin0 tyX0 tyX0_ok nmX0 hown hK hP hD hS 0 rfl rfl 8 (by decide) (hts (.fieldLink RX0 39 "SpeedRows" "rate" "I") (by decide +kernel)) (fun _ h9 => h9) rfl (by decide +kernel) rfl rfl (Nat.le_of_ble_eq_true rfl) dX0_init_77 (fun H locs hP hD hS => ?_)
  have hP : va_P (dC, dI) vwCl [(x, .inr (0, [.ref a1, .ref a2, .ref a3, .ref a4, .ref a5, .int (nI 0), .int (nI 22), .int (nI 22), .int (nI 100), .int 0])), (a1, .inl (z1, 2000, .inl (fun _ => 0))), (a2, .inl (z2, 2000, .inl (fun _ => 0))), (a3, .inl (z3, 2000, .inl (fun _ => 0))), (a4, .inl (z4, 2000, .inl (fun _ => 0))), (a5, .inl (z5, 2001, .inl (fun _ => 0)))] H := hP
  have hD : va_D A [(x, .inr (0, [.ref a1, .ref a2, .ref a3, .ref a4, .ref a5, .int (nI 0), .int (nI 22), .int (nI 22), .int (nI 100), .int 0])), (a1, .inl (z1, 2000, .inl (fun _ => 0))), (a2, .inl (z2, 2000, .inl (fun _ => 0))), (a3, .inl (z3, 2000, .inl (fun _ => 0))), (a4, .inl (z4, 2000, .inl (fun _ => 0))), (a5, .inl (z5, 2001, .inl (fun _ => 0)))] := hD
  refine lv_aload_n hx hb dX0_init_80 rfl (lv_at hl 0 rfl) ?_
  refine lv_iconst (v := 0) hx hb dX0_init_81 (by decide) ?_
  refine va_put (D := (dC, dI)) (ci := 0) (v := .int 0) (ty := .boolean) (C := RX0) (T := TX0) (N := 10) hx hb hts hin0 tyX0 tyX0_ok nmX0 hown hK hP hD hS 0 rfl rfl 9 (by decide) (hts (.fieldLink RX0 42 "SpeedRows" "speedsStand" "Z") (by decide +kernel)) (fun _ h9 => h9) rfl (by decide +kernel) rfl rfl (Nat.le_of_ble_eq_true rfl) dX0_init_82 (fun H locs hP hD hS => ?_)
  have hP : va_P (dC, dI) vwCl [(x, .inr (0, [.ref a1, .ref a2, .ref a3, .ref a4, .ref a5, .int (nI 0), .int (nI 22), .int (nI 22), .int (nI 100), .int 0])), (a1, .inl (z1, 2000, .inl (fun _ => 0))), (a2, .inl (z2, 2000, .inl (fun _ => 0))), (a3, .inl (z3, 2000, .inl (fun _ => 0))), (a4, .inl (z4, 2000, .inl (fun _ => 0))), (a5, .inl (z5, 2001, .inl (fun _ => 0)))] H := hP
  have hD : va_D A [(x, .inr (0, [.ref a1, .ref a2, .ref a3, .ref a4, .ref a5, .int (nI 0), .int (nI 22), .int (nI 22), .int (nI 100), .int 0])), (a1, .inl (z1, 2000, .inl (fun _ => 0))), (a2, .inl (z2, 2000, .inl (fun _ => 0))), (a3, .inl (z3, 2000, .inl (fun _ => 0))), (a4, .inl (z4, 2000, .inl (fun _ => 0))), (a5, .inl (z5, 2001, .inl (fun _ => 0)))] := hD
  exact W.vret hx hb hr (fun t ht hW => ⟨⟨(_, _), rfl, ⟨a1, a2, a3, a4, a5, z1, z2, z3, z4, z5, rfl⟩, by rw [ht]; exact hP, va_K.moved hW.alike hK, hD⟩, hS.F ht⟩) hS.2.2 dX0_init_85
