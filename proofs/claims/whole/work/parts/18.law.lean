/-! THE LAW: its loop, its entry, the claim. -/
set_option maxHeartbeats 4000000 in
set_option maxRecDepth 100000 in
/-- THE LAW'S LOOP -/
theorem law_loop {p : Program} {l : Launch} {e : Env} {s : State} {m : MethodId} {below : List Frame} {meth : Method} {c : Code} {b L : Nat} {xs : Nat → Int32} (hL : L ≤ 2048) (C0 : lw_At p s m meth c b L xs) {dC : Nat → ClassId} {dI : Nat → Nat → Nat} {x a1 a2 a3 a4 a5 : Nat} {z1 z2 z3 z4 z5 : ClassId} {y b1 b2 b3 b4 b5 b6 b7 : Nat} {t1 t2 t3 t4 t5 t6 t7 : ClassId} (hK : va_K (dC, dI) vwCl (sr_tX z1 z2 z3 z4 z5 ++ sr_tM t1 t2 t3 t4 t5 t6 t7) s) :
    ∀ (n i : Nat) (H : Heap) (locs : List Loc) (ls : Array Slot), i ≤ L → L < i + n → lw_I dC dI x a1 a2 a3 a4 a5 z1 z2 z3 z4 z5 y b1 b2 b3 b4 b5 b6 b7 t1 t2 t3 t4 t5 t6 t7 (fun q : Nat => s.heap.size ≤ q) s.heap H locs → lv_has ls 4 [(0, .ref b), (1, .ref x), (2, .ref y), (3, .int (nI i))] → W p l e room_1 s m #[Value.ref b] below meth c H locs 14 28028 (lw_Z below #[Value.ref b] s) (F0 m 18 ls []) := by
  have C1 := C0
  obtain ⟨hx, hb, hr, hml, hown, hts, hX, hbl, hlocks, hgv⟩ := C0
  have hown : s.vm.findClass RL = some m.cls := hown
  have hts := fun w h => hts w (wsL_law_in w h)
  have hA : ∀ q : Nat, s.heap.size ≤ q → (fun q : Nat => s.heap.size ≤ q) q := fun _ h => h
  have hbA : ¬ (fun q : Nat => s.heap.size ≤ q) b := Nat.not_le.mpr hbl
  intro n
  induction n with
  | zero =>
    intro i H locs ls h1 h2
    exact absurd h2 (by omega)
  | succ n ih =>
    intro i H locs ls h1 h2 hJ hl
    have hs0 : va_S (fun q : Nat => s.heap.size ≤ q) s.heap H locs := by obtain ⟨_, _, _, _, _, _, _, _, _, _, _, _, _, _, _, _, _, _, _, _, _, _, _, _, _, hS⟩ := hJ; exact hS
    have hS := hs0
    refine lv_iload_n hx hb dL_law_18 rfl (lv_at hl 3 rfl) ?_
    refine lv_aload_n hx hb dL_law_19 rfl (lv_at hl 0 rfl) ?_
    refine va_slen hx hb hX hbl hbA hS dL_law_20 ?_
    refine sr_ti (y := nI L) (rfl) ?_
    refine lv_iconst (v := nI 4) hx hb dL_law_21 (by decide) ?_
    refine lv_isub hx hb dL_law_22 ?_
    refine lv_icmp_gt (tgt := 328) hx hb dL_law_23 (by decide) (fun c1 => ?_) (fun c1 => ?_)
    · refine lv_iconst (v := 1) hx hb dL_law_328 (by decide) ?_
      refine va_forget (fun q hq => hS.2.2 q hq) ?_
      refine W.widen (k := 14) (n := 28028) (Nat.le_refl 14) (Nat.le_refl 28028) ?_
      exact lw_ret hx hb hr hlocks dL_law_329
    · have hi4 : i + 4 ≤ L := Nat.le_of_not_lt (fun q => c1 ((sr_head (by omega) (by omega)).mpr q))
      refine lv_aload_n hx hb dL_law_26 rfl (lv_at hl 0 rfl) ?_
      refine lv_iload_n hx hb dL_law_27 rfl (lv_at hl 3 rfl) ?_
      refine sr_sld hx hb hX hbl hbA hS (by omega) (by omega) dL_law_28 ?_
      refine lv_bipush (v := 15) hx hb dL_law_29 (by decide) ?_
      refine lv_iand hx hb dL_law_31 ?_
      obtain ⟨j, hj, ej⟩ := pk_andE (xs i) (m := 15) 4 (by decide)
      refine sr_ti (y := nI j) (ej) ?_
      have back : ∀ (H : Heap) (locs : List Loc) (ls : Array Slot), lw_I dC dI x a1 a2 a3 a4 a5 z1 z2 z3 z4 z5 y b1 b2 b3 b4 b5 b6 b7 t1 t2 t3 t4 t5 t6 t7 (fun q : Nat => s.heap.size ≤ q) s.heap H locs → lv_has ls 4 [(0, .ref b), (1, .ref x), (2, .ref y), (3, .int (nI i))] → W p l e room_1 s m #[Value.ref b] below meth c H locs 14 28028 (lw_Z below #[Value.ref b] s) (F0 m 322 ls []) := by
        intro H locs ls hJ hl
        refine lv_iinc (v := nI (i + 4)) (lv' := [(3, .int (nI (i + 4))), (0, .ref b), (1, .ref x), (2, .ref y)]) hx hb dL_law_322 hl (k := 3) rfl (nI_add _ 4) (by decide) rfl (fun ls hl => ?_)
        refine lv_goto (tgt := 18) hx hb dL_law_325 (by decide) ?_
        exact ih (i + 4) H locs ls hi4 (by omega) hJ (lv_sub hl [1, 2, 3, 0] rfl)
      rcases (show j = 0 ∨ j = 1 ∨ j = 2 ∨ j = 3 ∨ j = 4 ∨ j = 5 ∨ j = 6 ∨ j = 7 ∨ j = 8 ∨ 8 < j by omega) with rfl | rfl | rfl | rfl | rfl | rfl | rfl | rfl | rfl | h9
      · refine lv_tableIn (off := 52) (tgt := 84) hx hb dL_law_32 (by decide) (by decide) (by decide +kernel) (by decide) ?_
        exact lw_c0 hL C1 hK hi4 back H locs ls hJ hl
      · refine lv_tableIn (off := 95) (tgt := 127) hx hb dL_law_32 (by decide) (by decide) (by decide +kernel) (by decide) ?_
        exact lw_c1 hL C1 hK hi4 back H locs ls hJ hl
      · refine lv_tableIn (off := 138) (tgt := 170) hx hb dL_law_32 (by decide) (by decide) (by decide +kernel) (by decide) ?_
        exact lw_c2 hL C1 hK hi4 back H locs ls hJ hl
      · refine lv_tableIn (off := 171) (tgt := 203) hx hb dL_law_32 (by decide) (by decide) (by decide +kernel) (by decide) ?_
        exact lw_c3 hL C1 hK hi4 back H locs ls hJ hl
      · refine lv_tableIn (off := 194) (tgt := 226) hx hb dL_law_32 (by decide) (by decide) (by decide +kernel) (by decide) ?_
        exact lw_c4 hL C1 hK hi4 back H locs ls hJ hl
      · refine lv_tableIn (off := 217) (tgt := 249) hx hb dL_law_32 (by decide) (by decide) (by decide +kernel) (by decide) ?_
        exact lw_c5 hL C1 hK hi4 back H locs ls hJ hl
      · refine lv_tableIn (off := 240) (tgt := 272) hx hb dL_law_32 (by decide) (by decide) (by decide +kernel) (by decide) ?_
        exact lw_c6 hL C1 hK hi4 back H locs ls hJ hl
      · refine lv_tableIn (off := 263) (tgt := 295) hx hb dL_law_32 (by decide) (by decide) (by decide +kernel) (by decide) ?_
        exact lw_c7 hL C1 hK hi4 back H locs ls hJ hl
      · refine lv_tableIn (off := 277) (tgt := 309) hx hb dL_law_32 (by decide) (by decide) (by decide +kernel) (by decide) ?_
        exact lw_c8 hL C1 hK hi4 back H locs ls hJ hl
      · refine lv_tableOut (tgt := 322) hx hb dL_law_32 (Or.inr (by rw [nI_toInt (by omega)]; omega)) (by decide) ?_
        exact back H locs ls hJ hl
set_option maxHeartbeats 4000000 in
set_option maxRecDepth 100000 in
theorem whole_start {p : Program} {e : Env} {s : State} {m : MethodId} {below : List Frame} {meth : Method} {c : Code} (l : Launch) {b L : Nat} {xs : Nat → Int32} (hL : L ≤ 2048) (C0 : lw_At p s m meth c b L xs) : W p l e room_1 s m #[Value.ref b] below meth c s.heap [] 0 0 (lw_Z below #[Value.ref b] s) (entryFrame m ([Value.ref b] : List Value).toArray 4) := by
  have C1 := C0
  obtain ⟨hx, hb, hr, hml, hown, hts, hX, hbl, hlocks, hgv⟩ := C0
  have hown : s.vm.findClass RL = some m.cls := hown
  have hts := fun w h => hts w (wsL_law_in w h)
  have hA : ∀ q : Nat, s.heap.size ≤ q → (fun q : Nat => s.heap.size ≤ q) q := fun _ h => h
  have hbA : ¬ (fun q : Nat => s.heap.size ≤ q) b := Nat.not_le.mpr hbl
  obtain ⟨k0, iS0, hKn0⟩ := u_known (C := RX0) (T := TX0) (N := 10) (n := 10) hts inlX0 (hts (.instantiable RX0 10) (by decide +kernel))
  obtain ⟨k1, iS1, hKn1⟩ := u_known (C := RX1) (T := TX1) (N := 10) (n := 10) hts inlX1 (hts (.instantiable RX1 10) (by decide +kernel))
  obtain ⟨dC, dI, hKc⟩ : ∃ (dC : Nat → ClassId) (dI : Nat → Nat → Nat), ∀ (k : Nat) (q : vw_C), vwCl[k]? = some q → u_Kn s q.1 q.2.1 q.2.2 (dC k) (dI k) := by
    refine ⟨fun k => if k = 0 then k0 else k1, fun k => if k = 0 then iS0 else iS1, ?_⟩
    intro k q hq
    match k, hq with
    | 0, hq => cases hq; exact hKn0
    | 1, hq => cases hq; exact hKn1
    | k + 2, hq => simp [vwCl] at hq
  have hS : va_S (fun q : Nat => s.heap.size ≤ q) s.heap s.heap [] := va_S.rf
  have hK : va_K (dC, dI) vwCl [] s := ⟨hKc, fun k q h => by simp at h⟩
  have hP : va_P (dC, dI) vwCl [] s.heap := fun k q h => by simp at h
  have hD : va_D (fun q : Nat => s.heap.size ≤ q) [] := ⟨fun i j p q h => by simp at h, fun k q h => by simp at h⟩
  have hl := lv_entry ([.ref b]) (n := 4) (Nat.le_of_ble_eq_true rfl)
  rw [lg_entry_eq]
  generalize (lg_sl ([.ref b]) ++ List.replicate (4 - (lg_sl ([.ref b])).length) Slot.unset).toArray = ls at hl ⊢
  have hl : lv_has ls 4 [(0, .ref b)] := hl
  refine va_new (ci := 0) (fs := [.null, .null, .null, .null, .null, .int 0, .int 0, .int 0, .int 0, .int 0]) (C := RX0) (T := TX0) (N := 10) hx hb hts inlX0 tyX0 tyX0_ok hown (hts (.classLink RL 7 RX0) (by decide +kernel)) (hts (.instantiable RX0 10) (by decide +kernel)) (hts (.initialized RX0) (by decide +kernel)) hK hP hD hS hA rfl (fun j hj => by rcases (show j = 0 ∨ j = 1 ∨ j = 2 ∨ j = 3 ∨ j = 4 ∨ j = 5 ∨ j = 6 ∨ j = 7 ∨ j = 8 ∨ j = 9 by omega) with rfl | rfl | rfl | rfl | rfl | rfl | rfl | rfl | rfl | rfl <;> rfl) (by show _ ≤ 14; omega) (by show _ ≤ 28028; omega) dL_law_0 (fun x H hP hD hS => ?_)
  have hP : va_P (dC, dI) vwCl [(x, .inr (0, [.null, .null, .null, .null, .null, .int 0, .int 0, .int 0, .int 0, .int 0]))] H := hP
  have hD : va_D (fun q : Nat => s.heap.size ≤ q) [(x, .inr (0, [.null, .null, .null, .null, .null, .int 0, .int 0, .int 0, .int 0, .int 0]))] := hD
  refine lv_dup hx hb dL_law_3 rfl ?_
  have hPc := hP.sub (ws' := [(x, .inr (0, [.null, .null, .null, .null, .null, .int 0, .int 0, .int 0, .int 0, .int 0]))]) [0] rfl
  have hDc := hD.sub (ws' := [(x, .inr (0, [.null, .null, .null, .null, .null, .int 0, .int 0, .int 0, .int 0, .int 0]))]) [0] (by decide) rfl
  have hKc := hK.sub (tys' := []) [] rfl
  have hFc := va_free (wc := [(x, .inr (0, [.null, .null, .null, .null, .null, .int 0, .int 0, .int 0, .int 0, .int 0]))]) hD hS hA [0] rfl
  refine va_callv (va_runI (As := []) (rest := [.ref x]) ⟨hx, hb, hml, hown, hts⟩ (c_X0_init l dC dI x H.size) (cwI 0 hts gL_law_X0_init rfl rfl rfl (hts (.initialized RX0) (by decide +kernel)) (hts (.methodLink RL 9 yX0_init) (by decide +kernel)) (hts (.instanceMethod yX0_init) (by decide +kernel)) rfl (by decide +kernel) ⟨Nat.le_of_ble_eq_true rfl, Nat.le_of_ble_eq_true rfl⟩) ⟨sr_blind, sr_mk hPc hKc hDc⟩ rfl rfl hl.1 rfl (lv_room (Nat.le_of_ble_eq_true rfl)) dL_law_4 ⟨by show _ ≤ 14; omega, by show _ ≤ 28028; omega⟩) hS (fun q _ h => hFc q h) hFc (fun u t H1 locs ht hvm hw hB hz1 hk1 hS => ?_)
  obtain ⟨a1, a2, a3, a4, a5, z1, z2, z3, z4, z5, rfl⟩ := hw
  obtain ⟨hP1, hK1, hD1⟩ := hB
  rw [ht] at hP1
  have hK1 := va_K.moved hvm.symm hK1
  obtain ⟨hP, hD⟩ := va_join (wr := []) (w1 := [(x, .inr (0, [.ref a1, .ref a2, .ref a3, .ref a4, .ref a5, .int (nI 0), .int (nI 22), .int (nI 22), .int (nI 100), .int 0])), (a1, .inl (z1, 2000, .inl (fun _ => 0))), (a2, .inl (z2, 2000, .inl (fun _ => 0))), (a3, .inl (z3, 2000, .inl (fun _ => 0))), (a4, .inl (z4, 2000, .inl (fun _ => 0))), (a5, .inl (z5, 2001, .inl (fun _ => 0)))]) hP hD [0] [] rfl rfl (by decide) (by decide) hk1 hFc hP1 hD1
  have hK := (hK.sub (tys' := []) [] rfl).app hK1
  generalize H1 = H at hP hS ⊢
  have hP : va_P (dC, dI) vwCl [(x, .inr (0, [.ref a1, .ref a2, .ref a3, .ref a4, .ref a5, .int (nI 0), .int (nI 22), .int (nI 22), .int (nI 100), .int 0])), (a1, .inl (z1, 2000, .inl (fun _ => 0))), (a2, .inl (z2, 2000, .inl (fun _ => 0))), (a3, .inl (z3, 2000, .inl (fun _ => 0))), (a4, .inl (z4, 2000, .inl (fun _ => 0))), (a5, .inl (z5, 2001, .inl (fun _ => 0)))] H := hP
  have hD : va_D (fun q : Nat => s.heap.size ≤ q) [(x, .inr (0, [.ref a1, .ref a2, .ref a3, .ref a4, .ref a5, .int (nI 0), .int (nI 22), .int (nI 22), .int (nI 100), .int 0])), (a1, .inl (z1, 2000, .inl (fun _ => 0))), (a2, .inl (z2, 2000, .inl (fun _ => 0))), (a3, .inl (z3, 2000, .inl (fun _ => 0))), (a4, .inl (z4, 2000, .inl (fun _ => 0))), (a5, .inl (z5, 2001, .inl (fun _ => 0)))] := hD
  have hK : va_K (dC, dI) vwCl [(z1, .int), (z2, .int), (z3, .int), (z4, .int), (z5, .int)] s := hK
  refine W.widen (k := 6) (n := 10011) (by omega) (by omega) ?_
  refine lv_astore_n (lv' := [(1, .ref x), (0, .ref b)]) hx hb dL_law_7 rfl hl (by decide) rfl (fun ls hl => ?_)
  refine va_new (ci := 1) (fs := [.null, .null, .null, .null, .null, .null, .int 0, .int 0, .null, .int 0]) (C := RX1) (T := TX1) (N := 10) hx hb hts inlX1 tyX1 tyX1_ok hown (hts (.classLink RL 10 RX1) (by decide +kernel)) (hts (.instantiable RX1 10) (by decide +kernel)) (hts (.initialized RX1) (by decide +kernel)) hK hP hD hS hA rfl (fun j hj => by rcases (show j = 0 ∨ j = 1 ∨ j = 2 ∨ j = 3 ∨ j = 4 ∨ j = 5 ∨ j = 6 ∨ j = 7 ∨ j = 8 ∨ j = 9 by omega) with rfl | rfl | rfl | rfl | rfl | rfl | rfl | rfl | rfl | rfl <;> rfl) (by show _ ≤ 14; omega) (by show _ ≤ 28028; omega) dL_law_8 (fun y H hP hD hS => ?_)
  have hP : va_P (dC, dI) vwCl [(x, .inr (0, [.ref a1, .ref a2, .ref a3, .ref a4, .ref a5, .int (nI 0), .int (nI 22), .int (nI 22), .int (nI 100), .int 0])), (a1, .inl (z1, 2000, .inl (fun _ => 0))), (a2, .inl (z2, 2000, .inl (fun _ => 0))), (a3, .inl (z3, 2000, .inl (fun _ => 0))), (a4, .inl (z4, 2000, .inl (fun _ => 0))), (a5, .inl (z5, 2001, .inl (fun _ => 0))), (y, .inr (1, [.null, .null, .null, .null, .null, .null, .int 0, .int 0, .null, .int 0]))] H := hP
  have hD : va_D (fun q : Nat => s.heap.size ≤ q) [(x, .inr (0, [.ref a1, .ref a2, .ref a3, .ref a4, .ref a5, .int (nI 0), .int (nI 22), .int (nI 22), .int (nI 100), .int 0])), (a1, .inl (z1, 2000, .inl (fun _ => 0))), (a2, .inl (z2, 2000, .inl (fun _ => 0))), (a3, .inl (z3, 2000, .inl (fun _ => 0))), (a4, .inl (z4, 2000, .inl (fun _ => 0))), (a5, .inl (z5, 2001, .inl (fun _ => 0))), (y, .inr (1, [.null, .null, .null, .null, .null, .null, .int 0, .int 0, .null, .int 0]))] := hD
  refine lv_dup hx hb dL_law_11 rfl ?_
  have hPc := hP.sub (ws' := [(y, .inr (1, [.null, .null, .null, .null, .null, .null, .int 0, .int 0, .null, .int 0]))]) [6] rfl
  have hDc := hD.sub (ws' := [(y, .inr (1, [.null, .null, .null, .null, .null, .null, .int 0, .int 0, .null, .int 0]))]) [6] (by decide) rfl
  have hKc := hK.sub (tys' := []) [] rfl
  have hFc := va_free (wc := [(y, .inr (1, [.null, .null, .null, .null, .null, .null, .int 0, .int 0, .null, .int 0]))]) hD hS hA [6] rfl
  refine va_callv (va_runI (As := []) (rest := [.ref y]) ⟨hx, hb, hml, hown, hts⟩ (c_X1_init l dC dI y H.size) (cwI 0 hts gL_law_X1_init rfl rfl rfl (hts (.initialized RX1) (by decide +kernel)) (hts (.methodLink RL 12 yX1_init) (by decide +kernel)) (hts (.instanceMethod yX1_init) (by decide +kernel)) rfl (by decide +kernel) ⟨Nat.le_of_ble_eq_true rfl, Nat.le_of_ble_eq_true rfl⟩) ⟨sr_blind, sr_mk hPc hKc hDc⟩ rfl rfl hl.1 rfl (lv_room (Nat.le_of_ble_eq_true rfl)) dL_law_12 ⟨by show _ ≤ 14; omega, by show _ ≤ 28028; omega⟩) hS (fun q _ h => hFc q h) hFc (fun u t H1 locs ht hvm hw hB hz1 hk1 hS => ?_)
  obtain ⟨b1, b2, b3, b4, b5, b6, b7, t1, t2, t3, t4, t5, t6, t7, rfl⟩ := hw
  obtain ⟨hP1, hK1, hD1⟩ := hB
  rw [ht] at hP1
  have hK1 := va_K.moved hvm.symm hK1
  obtain ⟨hP, hD⟩ := va_join (wr := [(x, .inr (0, [.ref a1, .ref a2, .ref a3, .ref a4, .ref a5, .int (nI 0), .int (nI 22), .int (nI 22), .int (nI 100), .int 0])), (a1, .inl (z1, 2000, .inl (fun _ => 0))), (a2, .inl (z2, 2000, .inl (fun _ => 0))), (a3, .inl (z3, 2000, .inl (fun _ => 0))), (a4, .inl (z4, 2000, .inl (fun _ => 0))), (a5, .inl (z5, 2001, .inl (fun _ => 0)))]) (w1 := [(y, .inr (1, [.ref b1, .ref b2, .ref b3, .ref b4, .ref b5, .ref b6, .int (nI 0), .int (nI 100), .ref b7, .int 0])), (b1, .inl (t1, 2000, .inl (fun _ => 0))), (b2, .inl (t2, 2000, .inl (fun _ => 0))), (b3, .inl (t3, 6000, .inl (fun _ => 0))), (b4, .inl (t4, 6000, .inl (fun _ => 0))), (b5, .inl (t5, 3, .inl (upd (fun _ => 0) 0 1))), (b6, .inl (t6, 3, .inl (upd (fun _ => 0) 0 1))), (b7, .inl (t7, 2001, .inl (fun _ => 0)))]) hP hD [6] [0, 1, 2, 3, 4, 5] rfl rfl (by decide) (by decide) hk1 hFc hP1 hD1
  have hK := (hK.sub (tys' := [(z1, .int), (z2, .int), (z3, .int), (z4, .int), (z5, .int)]) [0, 1, 2, 3, 4] rfl).app hK1
  generalize H1 = H at hP hS ⊢
  have hP : va_P (dC, dI) vwCl [(x, .inr (0, [.ref a1, .ref a2, .ref a3, .ref a4, .ref a5, .int (nI 0), .int (nI 22), .int (nI 22), .int (nI 100), .int 0])), (a1, .inl (z1, 2000, .inl (fun _ => 0))), (a2, .inl (z2, 2000, .inl (fun _ => 0))), (a3, .inl (z3, 2000, .inl (fun _ => 0))), (a4, .inl (z4, 2000, .inl (fun _ => 0))), (a5, .inl (z5, 2001, .inl (fun _ => 0))), (y, .inr (1, [.ref b1, .ref b2, .ref b3, .ref b4, .ref b5, .ref b6, .int (nI 0), .int (nI 100), .ref b7, .int 0])), (b1, .inl (t1, 2000, .inl (fun _ => 0))), (b2, .inl (t2, 2000, .inl (fun _ => 0))), (b3, .inl (t3, 6000, .inl (fun _ => 0))), (b4, .inl (t4, 6000, .inl (fun _ => 0))), (b5, .inl (t5, 3, .inl (upd (fun _ => 0) 0 1))), (b6, .inl (t6, 3, .inl (upd (fun _ => 0) 0 1))), (b7, .inl (t7, 2001, .inl (fun _ => 0)))] H := hP
  have hD : va_D (fun q : Nat => s.heap.size ≤ q) [(x, .inr (0, [.ref a1, .ref a2, .ref a3, .ref a4, .ref a5, .int (nI 0), .int (nI 22), .int (nI 22), .int (nI 100), .int 0])), (a1, .inl (z1, 2000, .inl (fun _ => 0))), (a2, .inl (z2, 2000, .inl (fun _ => 0))), (a3, .inl (z3, 2000, .inl (fun _ => 0))), (a4, .inl (z4, 2000, .inl (fun _ => 0))), (a5, .inl (z5, 2001, .inl (fun _ => 0))), (y, .inr (1, [.ref b1, .ref b2, .ref b3, .ref b4, .ref b5, .ref b6, .int (nI 0), .int (nI 100), .ref b7, .int 0])), (b1, .inl (t1, 2000, .inl (fun _ => 0))), (b2, .inl (t2, 2000, .inl (fun _ => 0))), (b3, .inl (t3, 6000, .inl (fun _ => 0))), (b4, .inl (t4, 6000, .inl (fun _ => 0))), (b5, .inl (t5, 3, .inl (upd (fun _ => 0) 0 1))), (b6, .inl (t6, 3, .inl (upd (fun _ => 0) 0 1))), (b7, .inl (t7, 2001, .inl (fun _ => 0)))] := hD
  have hK : va_K (dC, dI) vwCl [(z1, .int), (z2, .int), (z3, .int), (z4, .int), (z5, .int), (t1, .int), (t2, .int), (t3, .byte), (t4, .byte), (t5, .byte), (t6, .byte), (t7, .int)] s := hK
  refine W.widen (k := 14) (n := 28028) (by omega) (by omega) ?_
  refine lv_astore_n (lv' := [(2, .ref y), (1, .ref x), (0, .ref b)]) hx hb dL_law_15 rfl hl (by decide) rfl (fun ls hl => ?_)
  refine lv_iconst (v := nI 0) hx hb dL_law_16 (by decide) ?_
  refine lv_istore_n (lv' := [(3, .int (nI 0)), (2, .ref y), (1, .ref x), (0, .ref b)]) hx hb dL_law_17 rfl hl (by decide) rfl (fun ls hl => ?_)
  have ok22 : sr_ok 22 := ⟨by decide, by decide⟩
  have hg : sr_G 0 100 22 22 (fun _ => 0) (fun _ => 0) (fun _ => 0) (fun _ => 0) := ⟨by omega, ⟨by omega, by omega⟩, ok22, ok22, fun i hi => absurd hi (Nat.not_lt_zero i)⟩
  have h22 : ∀ a, a < 3 → upd (fun _ => 0) 0 1 a = sr_dg 22 a := by decide
  exact law_loop hL C1 hK (L + 1) 0 H locs ls (Nat.zero_le L) (by omega) ⟨0, 22, 22, 100, fun _ => 0, fun _ => 0, fun _ => 0, fun _ => 0, 0, fun _ => 0, fun _ => 0, fun _ => 0, fun _ => 0, fun _ => 0, 0, fun _ => 0, fun _ => 0, fun _ => 0, fun _ => 0, upd (fun _ => 0) 0 1, upd (fun _ => 0) 0 1, fun _ => 0, ⟨hg, fun i hi => absurd hi (Nat.not_lt_zero i), Or.inl rfl, ⟨fun i hi => absurd hi (Nat.not_lt_zero i), fun a ha => ⟨h22 a ha, h22 a ha⟩⟩, Or.inl rfl⟩, hP, hD, hS⟩ (lv_sub hl [3, 2, 1, 0] rfl)
