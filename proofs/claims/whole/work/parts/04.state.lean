/-! STATE: the cells of the class and of the reference, and what they hold. -/
abbrev sr_at (dC : Nat → ClassId) (dI : Nat → Nat → Nat) (tys : List (ClassId × FieldType)) (A : Nat → Prop) (u : va_W) (t : State) : Prop := va_P (dC, dI) vwCl u t.heap ∧ va_K (dC, dI) vwCl tys t ∧ va_D A u
abbrev sr_pre (dC : Nat → ClassId) (dI : Nat → Nat → Nat) (tys : List (ClassId × FieldType)) (w : va_W) (sz : Nat) (av : List Value) : Array Value → State → Prop := va_Pc av (fun U => U.heap.size = sz ∧ va_P (dC, dI) vwCl w U.heap ∧ va_K (dC, dI) vwCl tys U ∧ va_D (fun _ => True) w)
theorem sr_blind {dC : Nat → ClassId} {dI : Nat → Nat → Nat} {tys : List (ClassId × FieldType)} {w : va_W} {sz : Nat} {av : List Value} : FrameBlind (sr_pre dC dI tys w sz av) := fun a U g mk q => by
  obtain ⟨q0, q1, qP, qK, qD⟩ := q
  exact ⟨q0, q1, qP, va_K.moved (u := U) (U := U.calling g mk a) (Vm.Alike.refl U.vm) qK, qD⟩
theorem sr_mk {dC : Nat → ClassId} {dI : Nat → Nat → Nat} {tys : List (ClassId × FieldType)} {w : va_W} {av : List Value} {s : State} {H : Heap} {A : Nat → Prop} (hP : va_P (dC, dI) vwCl w H) (hK : va_K (dC, dI) vwCl tys s) (hD : va_D A w) : ∀ U : State, U.heap = H → s.WarmedH U.vm → sr_pre dC dI tys w H.size av av.toArray U := fun U hU hW => ⟨rfl, by rw [hU], by rw [hU]; exact hP, va_K.moved hW.alike hK, hD.weaken (fun _ _ _ _ => trivial)⟩
theorem sr_blindT {av : List Value} : FrameBlind (va_Pc av (fun _ => True)) := fun _ _ _ _ q => ⟨q.1, trivial⟩
theorem sr_mkT {av : List Value} {s : State} {H : Heap} : ∀ U : State, U.heap = H → s.WarmedH U.vm → va_Pc av (fun _ => True) av.toArray U := fun _ _ _ => ⟨rfl, trivial⟩
/-- the path: its numbers are as the document has them -/
def sr_G (mo ac cf cl : Nat) (tk fd fs la : Nat → Nat) : Prop := mo ≤ 2000 ∧ (1 ≤ ac ∧ ac ≤ 10000) ∧ sr_ok cf ∧ sr_ok cl ∧ ∀ i, i < mo → (1 ≤ tk i ∧ tk i ≤ 100000) ∧ (1 ≤ fd i ∧ fd i ≤ 99999) ∧ sr_ok (fs i) ∧ sr_ok (la i)
abbrev sr_tX (c1 c2 c3 c4 c5 : ClassId) : List (ClassId × FieldType) := [(c1, .int), (c2, .int), (c3, .int), (c4, .int), (c5, .int)]
abbrev sr_wX (x a1 a2 a3 a4 a5 : Nat) (c1 c2 c3 c4 c5 : ClassId) (mo cf cl ac : Nat) (st : Int32) (T F G L S : Nat → Int32) : va_W := [(x, .inr (0, [.ref a1, .ref a2, .ref a3, .ref a4, .ref a5, .int (nI mo), .int (nI cf), .int (nI cl), .int (nI ac), .int st])), (a1, .inl (c1, 2000, .inl T)), (a2, .inl (c2, 2000, .inl F)), (a3, .inl (c3, 2000, .inl G)), (a4, .inl (c4, 2000, .inl L)), (a5, .inl (c5, 2001, .inl S))]
def sr_XI (mo : Nat) (tk fd fs la : Nat → Nat) (T F G L : Nat → Int32) : Prop := ∀ i, i < mo → T i = nI (tk i) ∧ F i = nI (fd i) ∧ G i = nI (la i) ∧ L i = nI (sr_tm fd fs la i)
def sr_XS (mo ac : Nat) (tk fd fs la : Nat → Nat) (st : Int32) (S : Nat → Int32) : Prop := st = 0 ∨ (st = 1 ∧ ∀ k, k ≤ mo → S k = nI (sr_sp mo ac tk fd fs la k))
abbrev sr_tM (d1 d2 d3 d4 d5 d6 d7 : ClassId) : List (ClassId × FieldType) := [(d1, .int), (d2, .int), (d3, .byte), (d4, .byte), (d5, .byte), (d6, .byte), (d7, .int)]
abbrev sr_wM (y b1 b2 b3 b4 b5 b6 b7 : Nat) (d1 d2 d3 d4 d5 d6 d7 : ClassId) (mo ac : Nat) (kn : Int32) (T F I J U V S : Nat → Int32) : va_W := [(y, .inr (1, [.ref b1, .ref b2, .ref b3, .ref b4, .ref b5, .ref b6, .int (nI mo), .int (nI ac), .ref b7, .int kn])), (b1, .inl (d1, 2000, .inl T)), (b2, .inl (d2, 2000, .inl F)), (b3, .inl (d3, 6000, .inl I)), (b4, .inl (d4, 6000, .inl J)), (b5, .inl (d5, 3, .inl U)), (b6, .inl (d6, 3, .inl V)), (b7, .inl (d7, 2001, .inl S))]
def sr_MI (mo cf cl : Nat) (tk fd fs la : Nat → Nat) (T F I J U V : Nat → Int32) : Prop := (∀ i, i < mo → T i = nI (tk i) ∧ F i = nI (fd i) ∧ ∀ a, a < 3 → I (3 * i + a) = sr_dg (fs i) a ∧ J (3 * i + a) = sr_dg (la i) a) ∧ ∀ a, a < 3 → U a = sr_dg cf a ∧ V a = sr_dg cl a
/-- the answer for a place k: the function's value at a corner, else -1 -/
def sr_an (mo : Nat) (g : Nat → Nat) (k : Int32) : Int32 := if 0 ≤ k ∧ k ≤ nI mo then nI (g k.toNatClampNeg) else -1
def sr_sum (g : Nat → Nat) : Nat → Nat
  | 0 => 0
  | n + 1 => sr_sum g n + g n
def sr_cnt (g h : Nat → Nat) : Nat → Nat
  | 0 => 0
  | n + 1 => sr_cnt g h n + (if g n < h n then 1 else 0)
theorem sr_tm_le {fd fs la : Nat → Nat} {k : Nat} (h1 : k ≠ 0 → fd (k - 1) ≤ 99999) (h2 : k ≠ 0 → sr_ok (la (k - 1)) ∧ sr_ok (fs k)) : sr_tm fd fs la k ≤ 99999 := by
  unfold sr_tm
  split
  · omega
  · rename_i hk
    have a : min (fd (k - 1)) (fd k) ≤ 99999 := Nat.le_trans (Nat.min_le_left _ _) (h1 hk)
    have b := sr_pd_mx _ (h2 hk).1.1 _ (h2 hk).2.1
    have c : 0 < sr_mx (la (k - 1)) (fs k) := Nat.lt_of_lt_of_le (sr_pd_pos (h2 hk).1) (Nat.le_max_left _ _)
    refine Nat.le_trans (Nat.div_le_of_le_mul ?_) a
    rw [Nat.mul_comm]
    exact Nat.mul_le_mul_right _ b
theorem sr_lim_le {mo ac cf cl : Nat} {tk fd fs la : Nat → Nat} (g : sr_G mo ac cf cl tk fd fs la) (k : Nat) : sr_lim mo fd fs la k ≤ 99999 := by
  unfold sr_lim
  split
  · omega
  · rename_i h
    have h1 : k ≠ 0 := fun e => h (Or.inl e)
    have h2 : k < mo := Nat.lt_of_not_le (fun e => h (Or.inr e))
    exact sr_tm_le (fun _ => (g.2.2.2.2 (k - 1) (by omega)).2.1.2) (fun _ => ⟨(g.2.2.2.2 (k - 1) (by omega)).2.2.2, (g.2.2.2.2 k h2).2.2.1⟩)
theorem sr_sp_le {mo ac cf cl : Nat} {tk fd fs la : Nat → Nat} (g : sr_G mo ac cf cl tk fd fs la) {k : Nat} (hk : k ≤ mo) : sr_sp mo ac tk fd fs la k ≤ 99999 := Nat.le_trans (sr_s_le _ _ _ hk) (sr_lim_le g k)
theorem sr_lim_0 (mo : Nat) (fd fs la : Nat → Nat) : sr_lim mo fd fs la 0 = 0 := by simp [sr_lim]
theorem sr_lim_top {mo k : Nat} {fd fs la : Nat → Nat} (h : mo ≤ k) : sr_lim mo fd fs la k = 0 := by simp [sr_lim, h]
theorem sr_lim_in {mo k : Nat} {fd fs la : Nat → Nat} (h1 : k ≠ 0) (h2 : k < mo) : sr_lim mo fd fs la k = sr_tm fd fs la k := by
  have h3 : ¬ mo ≤ k := Nat.not_le.mpr h2
  simp [sr_lim, h1, h3]
theorem sr_shl : ∀ b, b < 17 → lN 1 <<< ((nI b).toInt64 &&& 63) = lN (2 ^ b) := by decide +kernel
theorem sr_ishl : ∀ b, b < 17 → nI 1 <<< (nI b &&& 31) = nI (2 ^ b) := by decide +kernel
theorem sr_maxN {a b : Nat} (ha : a < 2 ^ 31) (hb : b < 2 ^ 31) : (if nI a < nI b then nI b else nI a) = nI (max a b) := by
  rcases Nat.lt_or_ge a b with h | h
  · rw [if_pos ((nI_ltI ha hb).mpr h), Nat.max_eq_right (Nat.le_of_lt h)]
  · rw [if_neg (fun q => absurd ((nI_ltI ha hb).mp q) (Nat.not_lt.mpr h)), Nat.max_eq_left h]
theorem sr_minN {a b : Nat} (ha : a < 2 ^ 31) (hb : b < 2 ^ 31) : (if nI b < nI a then nI b else nI a) = nI (min a b) := by
  rcases Nat.lt_or_ge b a with h | h
  · rw [if_pos ((nI_ltI hb ha).mpr h), Nat.min_eq_right (Nat.le_of_lt h)]
  · rw [if_neg (fun q => absurd ((nI_ltI hb ha).mp q) (Nat.not_lt.mpr h)), Nat.min_eq_left h]
theorem sr_dec (x : Int32) : x + Int32.ofInt (-1) = x - 1 := by
  have h : Int32.ofInt (-1) = -1 := by decide
  rw [h, Int32.sub_eq_add_neg]
