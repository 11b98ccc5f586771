/-! one more to the first ones: rows of 0s and 1s -/
theorem prF_lo {R : Nat → Int} {p : Int} (hp : 0 ≤ p) : ∀ n, (∀ k, k < n → R k < p) → (prF R n).2 < p
  | 0, _ => by show (-1 : Int) < p; omega
  | n + 1, h => by
    have h1 := prF_lo hp n (fun k hk => h k (by omega))
    have h2 := h n (by omega)
    unfold prF
    split
    · exact h2
    · exact h1
theorem prF_first {R : Nat → Int} {p : Int} (hp : 0 ≤ p) {a : Nat} (ha : R a = p) (hlo : ∀ k, k < a → R k < p) : ∀ n, a < n → (∀ k, k < n → R k ≤ p) → prF R n = (a, p)
  | 0, h, _ => absurd h (Nat.not_lt_zero _)
  | n + 1, h, hR => by
    by_cases e : a = n
    · subst e
      have h1 := prF_lo hp a hlo
      unfold prF
      rw [if_pos (by rw [ha]; exact h1), ha]
    · have h1 := prF_first hp ha hlo n (by omega) (fun k hk => hR k (by omega))
      have h2 := hR n (by omega)
      unfold prF
      rw [h1]
      exact if_neg (by show ¬ p < R n; omega)
theorem sumN_mono {f : Nat → Nat} {i : Nat} : ∀ k, i ≤ k → sumN f i ≤ sumN f k
  | 0, h => by rw [show i = 0 by omega]; exact Nat.le_refl _
  | k + 1, h => by
    by_cases e : i = k + 1
    · rw [e]; exact Nat.le_refl _
    · have := sumN_mono (f := f) k (show i ≤ k by omega)
      show sumN f i ≤ sumN f k + f k
      omega
theorem sumN_nth {c : Nat → Nat} (hc : ∀ k, c k ≤ 1) {j : Nat} : ∀ n, j < sumN c n → ∃ a, a < n ∧ c a = 1 ∧ sumN c a = j
  | 0, h => absurd h (Nat.not_lt_zero _)
  | n + 1, h => by
    have h : j < sumN c n + c n := h
    have := hc n
    by_cases q : j < sumN c n
    · obtain ⟨a, a1, a2⟩ := sumN_nth hc n q
      exact ⟨a, by omega, a2⟩
    · exact ⟨n, by omega, by omega, by omega⟩
def gv (c : Nat → Nat) (j k : Nat) : Nat := if c k = 1 ∧ sumN c k < j then 1 else 0
