/-! one more to the first ones: rows of 0s and 1s -/
theorem prF_lo {R : Nat → Int} {p : Int} (hp : 0 ≤ p) : ∀ n, (∀ k, k < n → R k < p) → (prF R n).2 < p
  | 0, _ => by show (-1 : Int) < p; omega
  | n + 1, h => by
    have h1 := prF_lo hp n (fun k hk => h k (by omega))
    have h2 := h n (by omega)
    unfold prF
    split
    · exact h2
    · exact h1
theorem prF_first {R : Nat → Int} {p : Int} (hp : 0 ≤ p) {a : Nat} (ha : R a = p) (hlo : ∀ k, k < a → R k < p) : ∀ n, a < n → (∀ k, k < n → R k ≤ p) → prF R n = (a, p)
  | 0, h, _ => absurd h (Nat.not_lt_zero _)
  | n + 1, h, hR => by
    by_cases e : a = n
    · subst e
      have h1 := prF_lo hp a hlo
      unfold prF
      rw [if_pos (by rw [ha]; exact h1), ha]
    · have h1 := prF_first hp ha hlo n (by omega) (fun k hk => hR k (by omega))
      have h2 := hR n (by omega)
      unfold prF
      rw [h1]
      exact if_neg (by show ¬ p < R n; omega)
