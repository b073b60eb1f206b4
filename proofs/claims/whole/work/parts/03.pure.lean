/-! PURE: whole roots, the two passes, limits. Nothing of the machine here. -/
def sr_q : Nat → Nat
  | 0 => 0
  | n + 1 => if (sr_q n + 1) * (sr_q n + 1) ≤ n + 1 then sr_q n + 1 else sr_q n
theorem sr_q_le (n : Nat) : sr_q n * sr_q n ≤ n := by
  induction n with
  | zero => exact Nat.le_refl 0
  | succ n ih =>
    rw [sr_q]
    split
    · assumption
    · omega
theorem sr_q_lt (n : Nat) : n < (sr_q n + 1) * (sr_q n + 1) := by
  induction n with
  | zero => exact Nat.lt_succ_self 0
  | succ n ih =>
    rw [sr_q]
    split
    · have h := Nat.mul_self_lt_mul_self (Nat.lt_succ_self (sr_q n + 1))
      have h2 : (sr_q n + 1).succ = sr_q n + 1 + 1 := rfl
      rw [h2] at h
      omega
    · omega
theorem sr_q_uniq {n r : Nat} (h1 : r * r ≤ n) (h2 : n < (r + 1) * (r + 1)) : sr_q n = r := by
  have a := sr_q_le n
  have b := sr_q_lt n
  rcases Nat.lt_trichotomy (sr_q n) r with h | h | h
  · have := Nat.mul_self_le_mul_self (show sr_q n + 1 ≤ r from h)
    omega
  · exact h
  · have := Nat.mul_self_le_mul_self (show r + 1 ≤ sr_q n from h)
    omega
theorem sr_le_q {a n : Nat} : a ≤ sr_q n ↔ a * a ≤ n := by
  constructor
  · intro h
    exact Nat.le_trans (Nat.mul_self_le_mul_self h) (sr_q_le n)
  · intro h
    rcases Nat.lt_or_ge (sr_q n) a with g | g
    · have := Nat.mul_self_le_mul_self (show sr_q n + 1 ≤ a from g)
      have := sr_q_lt n
      omega
    · exact g
/-- what a speed w reaches across t ticks -/
def sr_r (A t w : Nat) : Nat := sr_q (w * w + 2 * A * t)
theorem sr_r_ge (A t w : Nat) : w ≤ sr_r A t w := sr_le_q.mpr (Nat.le_add_right _ _)
def sr_f (s : Nat → Nat) (A : Nat) (tk : Nat → Nat) : Nat → Nat
  | 0 => s 0
  | k + 1 => min (s (k + 1)) (sr_r A (tk k) (sr_f s A tk k))
def sr_b (f : Nat → Nat) (A : Nat) (tk : Nat → Nat) (n : Nat) : Nat → Nat
  | 0 => f n
  | d + 1 => min (f (n - (d + 1))) (sr_r A (tk (n - (d + 1))) (sr_b f A tk n d))
/-- the speeds behind one pass forth and one back -/
def sr_s (s : Nat → Nat) (A : Nat) (tk : Nat → Nat) (n k : Nat) : Nat := sr_b (sr_f s A tk) A tk n (n - k)
def sr_St (s : Nat → Nat) (A : Nat) (tk : Nat → Nat) (n : Nat) : Prop := ∀ k, k < n → s (k + 1) ≤ sr_r A (tk k) (s k) ∧ s k ≤ sr_r A (tk k) (s (k + 1))
theorem sr_s_n (s : Nat → Nat) (A : Nat) (tk : Nat → Nat) (n : Nat) : sr_s s A tk n n = sr_f s A tk n := by
  unfold sr_s
  rw [Nat.sub_self, sr_b]
theorem sr_s_k (s : Nat → Nat) (A : Nat) (tk : Nat → Nat) {n k : Nat} (h : k < n) : sr_s s A tk n k = min (sr_f s A tk k) (sr_r A (tk k) (sr_s s A tk n (k + 1))) := by
  unfold sr_s
  have e1 : n - k = (n - (k + 1)) + 1 := by omega
  have e2 : n - ((n - (k + 1)) + 1) = k := by omega
  rw [e1, sr_b, e2]
theorem sr_f_le (s : Nat → Nat) (A : Nat) (tk : Nat → Nat) (k : Nat) : sr_f s A tk k ≤ s k := by
  cases k with
  | zero => rw [sr_f]; exact Nat.le_refl _
  | succ k => rw [sr_f]; exact Nat.min_le_left _ _
theorem sr_s_le_f (s : Nat → Nat) (A : Nat) (tk : Nat → Nat) {n k : Nat} (h : k ≤ n) : sr_s s A tk n k ≤ sr_f s A tk k := by
  rcases Nat.lt_or_ge k n with g | g
  · rw [sr_s_k s A tk g]; exact Nat.min_le_left _ _
  · have e : k = n := by omega
    rw [e, sr_s_n]; exact Nat.le_refl _
theorem sr_s_le (s : Nat → Nat) (A : Nat) (tk : Nat → Nat) {n k : Nat} (h : k ≤ n) : sr_s s A tk n k ≤ s k := Nat.le_trans (sr_s_le_f s A tk h) (sr_f_le s A tk k)
theorem sr_s_stable (s : Nat → Nat) (A : Nat) (tk : Nat → Nat) (n : Nat) : sr_St (sr_s s A tk n) A tk n := by
  intro k hk
  have e := sr_s_k s A tk hk
  have h1 : sr_s s A tk n (k + 1) ≤ sr_f s A tk (k + 1) := sr_s_le_f s A tk hk
  have h2 : sr_f s A tk (k + 1) ≤ sr_r A (tk k) (sr_f s A tk k) := by rw [sr_f]; exact Nat.min_le_right _ _
  refine ⟨?_, ?_⟩
  · rcases Nat.le_total (sr_f s A tk k) (sr_r A (tk k) (sr_s s A tk n (k + 1))) with g | g
    · rw [Nat.min_eq_left g] at e
      rw [e]
      exact Nat.le_trans h1 h2
    · rw [Nat.min_eq_right g] at e
      have a := sr_r_ge A (tk k) (sr_s s A tk n (k + 1))
      rw [← e] at a
      exact Nat.le_trans a (sr_r_ge A (tk k) (sr_s s A tk n k))
  · rw [e]
    exact Nat.min_le_right _ _
theorem sr_f_fix {s : Nat → Nat} {A : Nat} {tk : Nat → Nat} {n : Nat} (h : sr_St s A tk n) : ∀ k, k ≤ n → sr_f s A tk k = s k := by
  intro k
  induction k with
  | zero => intro _; rw [sr_f]
  | succ k ih =>
    intro hk
    rw [sr_f, ih (by omega)]
    exact Nat.min_eq_left (h k hk).1
theorem sr_s_fix {s : Nat → Nat} {A : Nat} {tk : Nat → Nat} {n : Nat} (h : sr_St s A tk n) : ∀ d, d ≤ n → sr_s s A tk n (n - d) = s (n - d) := by
  intro d
  induction d with
  | zero => intro _; rw [Nat.sub_zero, sr_s_n, sr_f_fix h n (Nat.le_refl n)]
  | succ d ih =>
    intro hd
    have e : n - (d + 1) + 1 = n - d := by omega
    have hk : n - (d + 1) < n := by omega
    rw [sr_s_k s A tk hk, e, ih (by omega), sr_f_fix h _ (by omega)]
    have g := (h _ hk).2
    rw [e] at g
    exact Nat.min_eq_left g
theorem sr_s_fix' {s : Nat → Nat} {A : Nat} {tk : Nat → Nat} {n k : Nat} (h : sr_St s A tk n) (hk : k ≤ n) : sr_s s A tk n k = s k := by
  have := sr_s_fix h (n - k) (by omega)
  have e : n - (n - k) = k := by omega
  rw [e] at this
  exact this
theorem sr_s_twice (s : Nat → Nat) (A : Nat) (tk : Nat → Nat) {n k : Nat} (hk : k ≤ n) : sr_s (sr_s s A tk n) A tk n k = sr_s s A tk n k := sr_s_fix' (sr_s_stable s A tk n) hk
-- steps: a step is a number below 27, its digits to the base 3
def sr_dg (p a : Nat) : Int32 := if a = 0 then nI (p / 9) - 1 else if a = 1 then nI (p / 3 % 3) - 1 else nI (p % 3) - 1
def sr_dot (p q : Nat) : Int := ((p / 9 : Nat) - 1 : Int) * ((q / 9 : Nat) - 1) + ((p / 3 % 3 : Nat) - 1 : Int) * ((q / 3 % 3 : Nat) - 1) + ((p % 3 : Nat) - 1 : Int) * ((q % 3 : Nat) - 1)
def sr_pd (p q : Nat) : Nat := (sr_dot p q).toNat
def sr_mx (p q : Nat) : Nat := max (sr_pd p p) (sr_pd q q)
def sr_sop (a b : Int32) : Int32 := (a / 9 - 1) * (b / 9 - 1) + (a / 3 - a / 3 / 3 * 3 - 1) * (b / 3 - b / 3 / 3 * 3 - 1) + (a - a / 3 * 3 - 1) * (b - b / 3 * 3 - 1)
/-- the limit of corner k where a move follows it -/
def sr_tm (fd fs la : Nat → Nat) (k : Nat) : Nat := if k = 0 then 0 else min (fd (k - 1)) (fd k) * sr_pd (la (k - 1)) (fs k) / sr_mx (la (k - 1)) (fs k)
def sr_lim (mo : Nat) (fd fs la : Nat → Nat) (k : Nat) : Nat := if k = 0 ∨ mo ≤ k then 0 else sr_tm fd fs la k
/-- the speed of corner k -/
def sr_sp (mo ac : Nat) (tk fd fs la : Nat → Nat) (k : Nat) : Nat := sr_s (sr_lim mo fd fs la) ac tk mo k
def sr_up (f : Nat → Nat) (k v : Nat) : Nat → Nat := fun j => if j = k then v else f j
theorem sr_up_s (f : Nat → Nat) (k v : Nat) : sr_up f k v k = v := by simp [sr_up]
theorem sr_up_n {f : Nat → Nat} {k v j : Nat} (h : j ≠ k) : sr_up f k v j = f j := by simp [sr_up, h]
/-- the legal steps -/
def sr_ok (p : Nat) : Prop := p < 27 ∧ p ≠ 13
theorem sr_st_all : ∀ p, p < 27 → ∀ q, q < 27 →
    ((if (0 : Int32) < sr_sop (nI p) (nI q) then sr_sop (nI p) (nI q) else 0) = nI (sr_pd p q)) ∧
    (p ≠ 13 → 1 ≤ sr_pd p p ∧ sr_sop (nI p) (nI p) = nI (sr_pd p p)) ∧ sr_pd p q ≤ 3 := by decide +kernel
theorem sr_pd_mx : ∀ p, p < 27 → ∀ q, q < 27 → sr_pd p q ≤ sr_mx p q := by decide +kernel
theorem sr_m_all : ∀ p, p < 27 → ∀ q, q < 27 →
    (if (sr_dg p 0 * sr_dg q 0 + sr_dg p 1 * sr_dg q 1 + sr_dg p 2 * sr_dg q 2) < 0 then 0 else (sr_dg p 0 * sr_dg q 0 + sr_dg p 1 * sr_dg q 1 + sr_dg p 2 * sr_dg q 2)) = nI (sr_pd p q) := by decide +kernel
theorem sr_m_sq : ∀ p, p < 27 → sr_dg p 0 * sr_dg p 0 + sr_dg p 1 * sr_dg p 1 + sr_dg p 2 * sr_dg p 2 = nI (sr_pd p p) := by decide +kernel
theorem sr_dg_nar : ∀ p, p < 27 → ∀ a, a < 3 → vp_nar .byte (sr_dg p a) = sr_dg p a := by decide +kernel
theorem sr_dg_i2b : ∀ p, p < 27 → ∀ a, a < 3 → (sr_dg p a).toInt8.toInt32 = sr_dg p a := by decide +kernel
theorem sr_dg_pack : ∀ p, p < 27 → (sr_dg p 0 + 1) * 9 + (sr_dg p 1 + 1) * 3 + (sr_dg p 2 + 1) = nI p := by decide +kernel
theorem sr_pd_le {p q : Nat} (hp : p < 27) (hq : q < 27) : sr_pd p q ≤ 3 := (sr_st_all p hp q hq).2.2
theorem sr_pd_pos {p : Nat} (hp : sr_ok p) : 1 ≤ sr_pd p p := ((sr_st_all p hp.1 p hp.1).2.1 hp.2).1
/-- which triples of ints are a step -/
def sr_isS (x y z : Int32) : Prop := (((((-1 ≤ x ∧ x ≤ 1) ∧ -1 ≤ y) ∧ y ≤ 1) ∧ -1 ≤ z) ∧ z ≤ 1) ∧ (x ≠ 0 ∨ y ≠ 0 ∨ z ≠ 0)
theorem sr_three {x : Int32} (h1 : -1 ≤ x) (h2 : x ≤ 1) : x = -1 ∨ x = 0 ∨ x = 1 := by
  have a : (-1 : Int32).toInt ≤ x.toInt := Int32.le_iff_toInt_le.mp h1
  have b : x.toInt ≤ (1 : Int32).toInt := Int32.le_iff_toInt_le.mp h2
  have a1 : (-1 : Int32).toInt = -1 := by decide
  have b1 : (1 : Int32).toInt = 1 := by decide
  have c0 : (0 : Int32).toInt = 0 := by decide
  rw [a1] at a
  rw [b1] at b
  rcases (show x.toInt = -1 ∨ x.toInt = 0 ∨ x.toInt = 1 by omega) with h | h | h
  · exact Or.inl (Int32.toInt_inj.mp (by rw [h, a1]))
  · exact Or.inr (Or.inl (Int32.toInt_inj.mp (by rw [h, c0])))
  · exact Or.inr (Or.inr (Int32.toInt_inj.mp (by rw [h, b1])))
theorem sr_step {x y z : Int32} (h : sr_isS x y z) : ∃ p, sr_ok p ∧ x = sr_dg p 0 ∧ y = sr_dg p 1 ∧ z = sr_dg p 2 := by
  obtain ⟨⟨⟨⟨⟨⟨a, b⟩, c⟩, d⟩, e⟩, f⟩, g⟩ := h
  rcases sr_three a b with rfl | rfl | rfl <;> rcases sr_three c d with rfl | rfl | rfl <;> rcases sr_three e f with rfl | rfl | rfl
  · exact ⟨0, by unfold sr_ok; decide, by decide, by decide, by decide⟩
  · exact ⟨1, by unfold sr_ok; decide, by decide, by decide, by decide⟩
  · exact ⟨2, by unfold sr_ok; decide, by decide, by decide, by decide⟩
  · exact ⟨3, by unfold sr_ok; decide, by decide, by decide, by decide⟩
  · exact ⟨4, by unfold sr_ok; decide, by decide, by decide, by decide⟩
  · exact ⟨5, by unfold sr_ok; decide, by decide, by decide, by decide⟩
  · exact ⟨6, by unfold sr_ok; decide, by decide, by decide, by decide⟩
  · exact ⟨7, by unfold sr_ok; decide, by decide, by decide, by decide⟩
  · exact ⟨8, by unfold sr_ok; decide, by decide, by decide, by decide⟩
  · exact ⟨9, by unfold sr_ok; decide, by decide, by decide, by decide⟩
  · exact ⟨10, by unfold sr_ok; decide, by decide, by decide, by decide⟩
  · exact ⟨11, by unfold sr_ok; decide, by decide, by decide, by decide⟩
  · exact ⟨12, by unfold sr_ok; decide, by decide, by decide, by decide⟩
  · exact absurd g (by decide)
  · exact ⟨14, by unfold sr_ok; decide, by decide, by decide, by decide⟩
  · exact ⟨15, by unfold sr_ok; decide, by decide, by decide, by decide⟩
  · exact ⟨16, by unfold sr_ok; decide, by decide, by decide, by decide⟩
  · exact ⟨17, by unfold sr_ok; decide, by decide, by decide, by decide⟩
  · exact ⟨18, by unfold sr_ok; decide, by decide, by decide, by decide⟩
  · exact ⟨19, by unfold sr_ok; decide, by decide, by decide, by decide⟩
  · exact ⟨20, by unfold sr_ok; decide, by decide, by decide, by decide⟩
  · exact ⟨21, by unfold sr_ok; decide, by decide, by decide, by decide⟩
  · exact ⟨22, by unfold sr_ok; decide, by decide, by decide, by decide⟩
  · exact ⟨23, by unfold sr_ok; decide, by decide, by decide, by decide⟩
  · exact ⟨24, by unfold sr_ok; decide, by decide, by decide, by decide⟩
  · exact ⟨25, by unfold sr_ok; decide, by decide, by decide, by decide⟩
  · exact ⟨26, by unfold sr_ok; decide, by decide, by decide, by decide⟩
