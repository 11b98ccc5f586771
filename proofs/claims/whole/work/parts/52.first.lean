/-! one more to the first ones: rows of 0s and 1s -/
theorem prF_lo {R : Nat → Int} {p : Int} (hp : 0 ≤ p) : ∀ n, (∀ k, k < n → R k < p) → (prF R n).2 < p
  | 0, _ => by show (-1 : Int) < p; omega
  | n + 1, h => by
    have h1 := prF_lo hp n (fun k hk => h k (by omega))
    have h2 := h n (by omega)
    unfold prF
    split
    · exact h2
    · exact h1
theorem prF_first {R : Nat → Int} {p : Int} (hp : 0 ≤ p) {a : Nat} (ha : R a = p) (hlo : ∀ k, k < a → R k < p) : ∀ n, a < n → (∀ k, k < n → R k ≤ p) → prF R n = (a, p)
  | 0, h, _ => absurd h (Nat.not_lt_zero _)
  | n + 1, h, hR => by
    by_cases e : a = n
    · subst e
      have h1 := prF_lo hp a hlo
      unfold prF
      rw [if_pos (by rw [ha]; exact h1), ha]
    · have h1 := prF_first hp ha hlo n (by omega) (fun k hk => hR k (by omega))
      have h2 := hR n (by omega)
      unfold prF
      rw [h1]
      exact if_neg (by show ¬ p < R n; omega)
theorem sumN_nth {c : Nat → Nat} (hc : ∀ k, c k ≤ 1) {j : Nat} : ∀ n, j < sumN c n → ∃ a, a < n ∧ c a = 1 ∧ sumN c a = j
  | 0, h => absurd h (Nat.not_lt_zero _)
  | n + 1, h => by
    have h : j < sumN c n + c n := h
    have := hc n
    by_cases q : j < sumN c n
    · obtain ⟨a, a1, a2⟩ := sumN_nth hc n q
      exact ⟨a, by omega, a2⟩
    · exact ⟨n, by omega, by omega, by omega⟩
def gv (c : Nat → Nat) (j k : Nat) : Nat := if c k = 1 ∧ sumN c k < j then 1 else 0
theorem grF_01 {c : Nat → Nat} (hc : ∀ k, c k ≤ 1) {V : Nat → Nat} {R : Nat → Int} {p : Int} (hp : 0 < p) (hR : ∀ k, k < 15 → R k = if c k = 1 then p else 0) : ∀ j, j ≤ sumN c 15 → (∀ k, k < 15 → (grF j (V, R)).1 k = V k + gv c j k) ∧ ∀ k, k < 15 → (grF j (V, R)).2 k = if gv c j k = 1 then -1 else R k
  | 0, _ => ⟨fun k _ => by show V k = V k + gv c 0 k; rw [show gv c 0 k = 0 from if_neg (by omega)]; rfl, fun k _ => by show R k = _; rw [show gv c 0 k = 0 from if_neg (by omega), if_neg (by omega)]⟩
  | j + 1, hj => by
    obtain ⟨i1, i2⟩ := grF_01 (V := V) hc hp hR j (by omega)
    obtain ⟨a, a1, a2, a3⟩ := sumN_nth hc 15 (show j < sumN c 15 by omega)
    have lt : ∀ k, k < a → c k = 1 → sumN c k < j := fun k hk ck => by
      have h := sumN_mono (f := c) (show k + 1 ≤ a by omega)
      have h2 : sumN c (k + 1) = sumN c k + c k := rfl
      omega
    have ge : ∀ k, a < k → j < sumN c k := fun k hk => by
      have h := sumN_mono (f := c) (show a + 1 ≤ k by omega)
      have h2 : sumN c (a + 1) = sumN c a + c a := rfl
      omega
    have g1 : ∀ k, gv c (j + 1) k = if k = a then 1 else gv c j k := fun k => by
      by_cases e : k = a
      · subst e; rw [if_pos rfl]; exact if_pos ⟨a2, by omega⟩
      · rw [if_neg e]
        unfold gv
        by_cases z : c k = 1 ∧ sumN c k < j
        · rw [if_pos z, if_pos ⟨z.1, by omega⟩]
        · rw [if_neg z, if_neg]
          intro y
          rcases Nat.lt_or_ge k a with q | q
          · exact z ⟨y.1, lt k q y.1⟩
          · have := ge k (by omega); omega
    have g0 : gv c j a = 0 := if_neg (by omega)
    have ea : (grF j (V, R)).2 a = p := by rw [i2 a a1, g0, if_neg (by decide), hR a a1, if_pos a2]
    have lo : ∀ k, k < a → (grF j (V, R)).2 k < p := fun k hk => by
      rw [i2 k (by omega)]
      by_cases ck : c k = 1
      · rw [show gv c j k = 1 from if_pos ⟨ck, lt k hk ck⟩, if_pos rfl]; omega
      · rw [show gv c j k = 0 from if_neg (fun z => ck z.1), if_neg (by decide), hR k (by omega), if_neg ck]; exact hp
    have le : ∀ k, k < 15 → (grF j (V, R)).2 k ≤ p := fun k hk => by
      rw [i2 k hk, hR k hk]
      split
      · omega
      · split <;> omega
    have pf := prF_first (by omega) ea lo 15 a1 le
    show (∀ k, k < 15 → (grS (grF j (V, R))).1 k = _) ∧ ∀ k, k < 15 → (grS (grF j (V, R))).2 k = _
    unfold grS
    rw [pf]
    refine ⟨fun k hk => ?_, fun k hk => ?_⟩
    · rw [g1]
      show (if k = a then (grF j (V, R)).1 a + 1 else (grF j (V, R)).1 k) = _
      by_cases e : k = a
      · rw [if_pos e, if_pos e, i1 a a1, g0, e]
      · rw [if_neg e, if_neg e]; exact i1 k hk
    · rw [g1]
      show (if k = a then (-1 : Int) else (grF j (V, R)).2 k) = _
      by_cases e : k = a
      · rw [if_pos e, if_pos e, if_pos rfl]
      · rw [if_neg e, if_neg e]; exact i2 k hk
theorem wh01 {c : Nat → Nat} (hc : ∀ k, c k ≤ 1) {m : Nat} : ∀ n, n ≤ 15 → sumN (whF c m) n = sumN c n * (1000000 / m)
  | 0, _ => (Nat.zero_mul _).symm
  | n + 1, h => by
    show sumN (whF c m) n + whF c m n = (sumN c n + c n) * (1000000 / m)
    rw [wh01 hc n (by omega), Nat.add_mul, show whF c m n = c n * 1000000 / m from if_pos (by omega)]
    have := hc n
    rcases (show c n = 0 ∨ c n = 1 by omega) with e | e
    · rw [e, Nat.zero_mul, Nat.zero_mul, Nat.zero_div]
    · rw [e, Nat.one_mul, Nat.one_mul]
theorem apF01 {c : Nat → Nat} (hc : ∀ k, c k ≤ 1) (hm : 0 < sumN c 15) {k : Nat} (hk : k < 15) : apF c k = if c k = 0 then 0 else 1000000 / sumN c 15 + if sumN c k < 1000000 % sumN c 15 then 1 else 0 := by
  have e : whM c (sumN c 15) = 1000000 % sumN c 15 := by
    unfold whM
    rw [wh01 hc 15 (Nat.le_refl _)]
    have := Nat.div_add_mod 1000000 (sumN c 15)
    omega
  have ew : whF c (sumN c 15) k = c k * 1000000 / sumN c 15 := if_pos hk
  have ck := hc k
  unfold apF
  rw [if_neg (by omega), e]
  by_cases z : 1000000 % sumN c 15 = 0
  · rw [z]
    show whF c (sumN c 15) k = _
    rw [ew]
    rcases (show c k = 0 ∨ c k = 1 by omega) with q | q
    · rw [q, if_pos rfl, Nat.zero_mul, Nat.zero_div]
    · rw [q, if_neg (by omega), if_neg (by omega), Nat.one_mul]; rfl
  · have h9 := (grF_01 (V := whF c (sumN c 15)) (R := whR c (sumN c 15)) (p := ((1000000 % sumN c 15 : Nat) : Int)) hc (by omega) (fun k hk => by
      have ck := hc k
      rw [show whR c (sumN c 15) k = ((c k * 1000000 % sumN c 15 : Nat) : Int) from if_pos hk]
      rcases (show c k = 0 ∨ c k = 1 by omega) with q | q
      · rw [q, if_neg (by omega), Nat.zero_mul, Nat.zero_mod]; rfl
      · rw [q, if_pos rfl, Nat.one_mul]) (1000000 % sumN c 15) (Nat.le_of_lt (Nat.mod_lt _ hm))).1 k hk
    rw [h9, ew]
    unfold gv
    rcases (show c k = 0 ∨ c k = 1 by omega) with q | q
    · rw [q, if_pos (show (0 : Nat) = 0 from rfl), Nat.zero_mul, Nat.zero_div, if_neg (show ¬ ((0 : Nat) = 1 ∧ _) from fun x => absurd x.1 (by decide))]
    · rw [q, if_neg (show ¬ (1 : Nat) = 0 by decide), Nat.one_mul]
      by_cases y : sumN c k < 1000000 % sumN c 15
      · rw [if_pos ⟨rfl, y⟩, if_pos y]
      · rw [if_neg (fun x => y x.2), if_neg y]
