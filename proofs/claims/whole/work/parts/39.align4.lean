/-! aligning by cells: what the bits say -/
def jm (J : Nat → Nat) (k : Nat) : Nat := if (J (k / 8)).testBit (k % 8) = true then 1 else 0
def cut (J R : Nat → Nat) (c : Nat) : Nat := if c < 64 then jm J c else R c
theorem jm_01 (J : Nat → Nat) (k : Nat) : jm J k = 0 ∨ jm J k = 1 := by unfold jm; split <;> simp
theorem jm_1 {J : Nat → Nat} {k : Nat} : jm J k = 1 ↔ (J (k / 8)).testBit (k % 8) = true := by unfold jm; split <;> simp_all
theorem jm_0 {J : Nat → Nat} {k : Nat} : jm J k = 0 ↔ ¬ (J (k / 8)).testBit (k % 8) = true := by unfold jm; split <;> simp_all
theorem jm_at {J : Nat → Nat} {a j : Nat} (hj : j < 8) : jm J (8 * a + j) = if (J a).testBit j = true then 1 else 0 := by
  unfold jm
  rw [show (8 * a + j) / 8 = a by omega, show (8 * a + j) % 8 = j by omega]
theorem jm_put {J : Nat → Nat} {k c : Nat} : jm (va_up J (k / 8) (J (k / 8) ||| 2 ^ (k % 8))) c = if c = k then 1 else jm J c := by
  by_cases e : c = k
  · subst e
    rw [if_pos rfl, jm_1, up_sN, Nat.testBit_or, Nat.testBit_two_pow]
    simp
  · rw [if_neg e]
    by_cases e2 : c / 8 = k / 8
    · have e3 : ¬ k % 8 = c % 8 := by omega
      unfold jm
      rw [e2, up_sN, Nat.testBit_or, Nat.testBit_two_pow, decide_eq_false e3, Bool.or_false]
    · unfold jm
      rw [up_nN e2]
theorem cut_put {J R : Nat → Nat} {k : Nat} (hk : k < 64) : va_up (cut J R) k 1 = cut (va_up J (k / 8) (J (k / 8) ||| 2 ^ (k % 8))) R := by
  funext c
  unfold cut
  by_cases e : c = k
  · subst e
    rw [up_sN, if_pos hk, jm_put, if_pos rfl]
  · rw [up_nN e]
    split
    · rw [jm_put, if_neg e]
    · rfl
theorem rowAt_bit {J : Nat → Nat} {m b : Nat} : (rowAt J m).testBit b = true ↔ (m ≠ 0 ∧ m ≤ 8) ∧ (J (m - 1)).testBit b = true := by
  unfold rowAt
  split
  · rw [Nat.zero_testBit]
    exact ⟨fun c => absurd c (by decide), fun c => by omega⟩
  · exact ⟨fun c => ⟨by omega, c⟩, fun c => c.2⟩
theorem bb_bit2 {m b : Nat} : (bb m).testBit b = true ↔ m = b + 1 ∧ m ≤ 8 := by
  unfold bb
  split
  · rw [Nat.zero_testBit]
    exact ⟨fun c => absurd c (by decide), fun c => by omega⟩
  · rw [Nat.testBit_two_pow, decide_eq_true_eq]
    omega
theorem nrow_bit {J : Nat → Nat} {i b : Nat} (hi : i < 8) : (nrow J i).testBit b = true ↔ ∃ a, a < 8 ∧ btw a i < 2 ∧ (J a).testBit b = true := by
  unfold nrow
  rw [Nat.testBit_or, Bool.or_eq_true, Nat.testBit_or, Bool.or_eq_true, rowAt_bit, rowAt_bit, rowAt_bit]
  constructor
  · rintro ((⟨c1, c2⟩ | ⟨c1, c2⟩) | ⟨c1, c2⟩)
    · exact ⟨i - 1, by omega, by unfold btw; split <;> omega, c2⟩
    · exact ⟨i, by omega, by unfold btw; split <;> omega, c2⟩
    · exact ⟨i + 1, by omega, by unfold btw; split <;> omega, c2⟩
  · rintro ⟨a, c1, c2, c3⟩
    have h3 : a + 1 = i ∨ a = i ∨ a = i + 1 := by unfold btw at c2; split at c2 <;> omega
    rcases h3 with e | e | e
    · refine Or.inl (Or.inl ⟨by omega, ?_⟩)
      rw [show i - 1 = a by omega]; exact c3
    · refine Or.inl (Or.inr ⟨by omega, ?_⟩)
      rw [show i + 1 - 1 = a by omega]; exact c3
    · refine Or.inr ⟨by omega, ?_⟩
      rw [show i + 2 - 1 = a by omega]; exact c3
theorem nbit_bit {j b : Nat} (hj : j < 8) : (nbit j).testBit b = true ↔ b < 8 ∧ btw b j < 2 := by
  unfold nbit
  rw [Nat.testBit_or, Bool.or_eq_true, Nat.testBit_or, Bool.or_eq_true, bb_bit2, bb_bit2, bb_bit2]
  unfold btw
  constructor
  · intro c
    split <;> omega
  · intro c
    split at c <;> omega
theorem orF_bit {J : Nat → Nat} {b : Nat} : ∀ k, (orF J k).testBit b = true ↔ ∃ a, a < k ∧ (J a).testBit b = true
  | 0 => by
    show (0 : Nat).testBit b = true ↔ _
    rw [Nat.zero_testBit]
    exact ⟨fun c => absurd c (by decide), fun ⟨a, c, _⟩ => absurd c (Nat.not_lt_zero _)⟩
  | k + 1 => by
    show (orF J k ||| J k).testBit b = true ↔ _
    rw [Nat.testBit_or, Bool.or_eq_true, orF_bit k]
    constructor
    · rintro (⟨a, c1, c2⟩ | c)
      · exact ⟨a, by omega, c2⟩
      · exact ⟨k, by omega, c⟩
    · rintro ⟨a, c1, c2⟩
      by_cases e : a = k
      · subst e; exact Or.inr c2
      · exact Or.inl ⟨a, by omega, c2⟩
def besP (J : Nat → Nat) (k c : Nat) : Prop := c ≠ k ∧ jm J c = 1 ∧ btw (c / 8) (k / 8) < 2 ∧ btw (c % 8) (k % 8) < 2
theorem toJ_iff {E J : Nat → Nat} (hJ : ∀ i, J i < 256) {k : Nat} (hk : k < 64) : toJ E J (k / 8) (k % 8) ↔ (E (k / 8)).testBit (k % 8) = true ∧ jm J k = 0 ∧ (∃ c, c < 64 ∧ besP J k c) ∧ ((∀ x, x < 8 → jm J (8 * (k / 8) + x) = 0) ∨ (∀ x, x < 8 → jm J (8 * x + k % 8) = 0)) := by
  have hi : k / 8 < 8 := by omega
  have hj : k % 8 < 8 := by omega
  have row : J (k / 8) = 0 ↔ ∀ x, x < 8 → jm J (8 * (k / 8) + x) = 0 := by
    constructor
    · intro c x hx
      rw [jm_at hx, c, Nat.zero_testBit]
      rfl
    · intro c
      refine bits_0 fun x hx => ?_
      rcases Nat.lt_or_ge x 8 with q | q
      · have := c x q
        rw [jm_at q, if_pos hx] at this
        exact absurd this (by decide)
      · exact absurd (hJ (k / 8)) (Nat.not_lt.mpr (Nat.le_trans (Nat.pow_le_pow_right (by decide) q : 2 ^ 8 ≤ 2 ^ x) (Nat.ge_two_pow_of_testBit hx)))
  have col : orF J 8 &&& 2 ^ (k % 8) = 0 ↔ ∀ x, x < 8 → jm J (8 * x + k % 8) = 0 := by
    rw [and_bit0, orF_bit]
    constructor
    · intro c x hx
      rw [jm_at hj, if_neg fun c2 => c ⟨x, hx, c2⟩]
    · rintro c ⟨x, hx, c2⟩
      have := c x hx
      rw [jm_at hj, if_pos c2] at this
      exact absurd this (by decide)
  have bes : jm J k = 0 → (nrow J (k / 8) &&& nbit (k % 8) ≠ 0 ↔ ∃ c, c < 64 ∧ besP J k c) := by
    intro h0
    constructor
    · intro c
      refine Classical.byContradiction fun c9 => c (bits_0 fun b hb => ?_)
      rw [Nat.testBit_and, Bool.and_eq_true, nrow_bit hi, nbit_bit hj] at hb
      obtain ⟨⟨a, a1, a2, a3⟩, b1, b2⟩ := hb
      have hc : jm J (8 * a + b) = 1 := by rw [jm_at b1, if_pos a3]
      refine c9 ⟨8 * a + b, by omega, fun e => ?_, hc, ?_, ?_⟩
      · rw [e, h0] at hc; exact absurd hc (by decide)
      · rw [show (8 * a + b) / 8 = a by omega]; exact a2
      · rw [show (8 * a + b) % 8 = b by omega]; exact b2
    · rintro ⟨c, c1, c2, c3, c4, c5⟩ c9
      have hb : (nrow J (k / 8) &&& nbit (k % 8)).testBit (c % 8) = true := by
        rw [Nat.testBit_and, Bool.and_eq_true, nrow_bit hi, nbit_bit hj]
        exact ⟨⟨c / 8, by omega, c4, jm_1.mp c3⟩, by omega, c5⟩
      rw [c9, Nat.zero_testBit] at hb
      exact absurd hb (by decide)
  unfold toJ
  rw [and_bit, and_bit0, ← jm_0, row, col]
  constructor
  · rintro ⟨c1, c2, c3, c4⟩
    exact ⟨c1, c2, (bes c2).mp c4, c3⟩
  · rintro ⟨c1, c2, c3, c4⟩
    exact ⟨c1, c2, c4, (bes c2).mpr c3⟩
/-- how many are joined -/
def cntJ (J : Nat → Nat) : Nat := sumN (jm J) 64
theorem cntJ_le (J : Nat → Nat) : cntJ J ≤ 64 := sumN_le1 (fun j => by rcases jm_01 J j with e | e <;> omega) 64
theorem sumN_put {f : Nat → Nat} {k : Nat} (h : f k = 0) : ∀ n, sumN (va_up f k 1) n = sumN f n + if k < n then 1 else 0
  | 0 => rfl
  | n + 1 => by
    show sumN (va_up f k 1) n + va_up f k 1 n = sumN f n + f n + _
    rw [sumN_put h n]
    by_cases e : k = n
    · subst e
      rw [up_sN, if_neg (by omega), if_pos (by omega), h]
    · rw [up_nN (by omega)]
      by_cases q : k < n
      · rw [if_pos q, if_pos (by omega)]; omega
      · rw [if_neg q, if_neg (by omega)]; omega
theorem cntJ_put {J : Nat → Nat} {k : Nat} (hk : k < 64) (h0 : jm J k = 0) : cntJ (va_up J (k / 8) (J (k / 8) ||| 2 ^ (k % 8))) = cntJ J + 1 := by
  have e : jm (va_up J (k / 8) (J (k / 8) ||| 2 ^ (k % 8))) = va_up (jm J) k 1 := funext fun c => by
    rw [jm_put]; unfold va_up; rfl
  unfold cntJ
  rw [e, sumN_put h0, if_pos hk]
theorem swp_cnt {E : Nat → Nat} {x : (Nat → Nat) × Nat} : ∀ k, k ≤ 64 → cntJ x.1 ≤ cntJ (swp E k x).1 ∧ ((swp E k x).2 = 1 → x.2 = 1 ∨ cntJ x.1 + 1 ≤ cntJ (swp E k x).1)
  | 0, _ => ⟨Nat.le_refl _, fun c => Or.inl c⟩
  | k + 1, hk => by
    obtain ⟨i1, i2⟩ := swp_cnt (E := E) (x := x) k (by omega)
    show cntJ x.1 ≤ cntJ (stp E (swp E k x) k).1 ∧ ((stp E (swp E k x) k).2 = 1 → _ ∨ cntJ x.1 + 1 ≤ cntJ (stp E (swp E k x) k).1)
    generalize swp E k x = y at i1 i2 ⊢
    unfold stp
    split
    · next c =>
      have h0 : jm y.1 k = 0 := jm_0.mpr (and_bit0.mp c.2.1)
      rw [show cntJ (va_up y.1 (k / 8) (y.1 (k / 8) ||| 2 ^ (k % 8)), 1).1 = cntJ y.1 + 1 from cntJ_put (by omega) h0]
      exact ⟨by omega, fun _ => Or.inr (by omega)⟩
    · exact ⟨i1, i2⟩
