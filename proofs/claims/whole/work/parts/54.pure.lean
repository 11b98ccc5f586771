/-! rows of shares, point by point -/
theorem rsS_at (F : Nat → Nat) (b : Nat) (S : Nat → Nat) (c : Nat) : ∀ k, rsS F b k S c = if b ≤ c ∧ c < b + k then F (c - b) else S c
  | 0 => (if_neg (by omega)).symm
  | k + 1 => by
    show (if c = b + k then F k else rsS F b k S c) = _
    by_cases q : c = b + k
    · rw [if_pos q, if_pos (by omega), show c - b = k by omega]
    · rw [if_neg q, rsS_at F b S c k]
      by_cases z : b ≤ c ∧ c < b + k
      · rw [if_pos z, if_pos (by omega)]
      · rw [if_neg z, if_neg (by omega)]
theorem apS_ge (C S : Nat → Nat) : ∀ k c, 15 * k ≤ c → apS C 0 k S c = S c
  | 0, _, _ => rfl
  | k + 1, c, h => by
    show rsS (apF (fun j => C (15 * k + 0 + j))) (15 * k + 0) 15 (apS C 0 k S) c = _
    rw [rsS_at, if_neg (by omega), apS_ge C S k c (by omega)]
theorem apS_at (C S : Nat → Nat) : ∀ k c, c < 15 * k → apS C 0 k S c = apF (fun j => C (15 * (c / 15) + j)) (c % 15)
  | 0, c, h => absurd h (by omega)
  | k + 1, c, h => by
    show rsS (apF (fun j => C (15 * k + 0 + j))) (15 * k + 0) 15 (apS C 0 k S) c = _
    rw [rsS_at]
    by_cases q : c < 15 * k
    · rw [if_neg (by omega), apS_at C S k c q]
    · rw [if_pos (by omega), show c / 15 = k by omega, show c % 15 = c - (15 * k + 0) by omega]
      rfl
theorem RX_row {M : Nat → Nat} {X : Nat → Nat → Nat} (g : RX M X) {D c : Nat} (hD : D < 2) (hc : c < 240) : apF (fun j => M (15 * ((240 * D + c) / 15) + j)) ((240 * D + c) % 15) = apF (fun j => X D (15 * (c / 15) + j)) (c % 15) := by
  rw [show (240 * D + c) % 15 = c % 15 by omega]
  refine congrFun (apF_congr fun k hk => ?_) _
  rw [show 15 * ((240 * D + c) / 15) + k = 240 * D + (15 * (c / 15) + k) by omega]
  exact g D _ hD (by omega)
theorem RX_apS {M Sh : Nat → Nat} {X S : Nat → Nat → Nat} (g : RX M X) : RX (apS M 0 32 Sh) (nwS X S) := by
  intro D c hD hc
  rw [apS_at _ _ 32 _ (by omega), RX_row g hD hc]
  exact (apS_at _ _ 16 c (by omega)).symm
theorem sumN_two {f : Nat → Nat} {X : Nat → Nat → Nat} (g : ∀ D c, D < 2 → c < 240 → f (240 * D + c) = X D c) : sumN f 480 = sumN (X 0) 240 + sumN (X 1) 240 := by
  rw [show 480 = 240 + 240 from rfl, sumN_add]
  rw [sumN_congr (g := X 0) (fun k hk => by rw [← g 0 k (by omega) hk]; exact congrArg f (by omega)), sumN_congr (f := fun x => f (240 + x)) (g := X 1) (fun k hk => by rw [← g 1 k (by omega) hk])]
theorem szN_sum (S : Nat → Nat) : ∀ k, szN S k = sumN (fun c => if 0 < S c then 1 else 0) k
  | 0 => rfl
  | k + 1 => by
    show szN S k + _ = sumN _ k + _
    rw [szN_sum S k]
theorem szN_ap {C S : Nat → Nat} (hC : ∀ k, C k ≤ 1) : szN (apS C 0 16 S) 240 = sumN C 240 := by
  rw [szN_sum]
  refine sumN_congr fun c hc => ?_
  rw [apS_at C S 16 c (by omega), apF01z (fun k => hC _) (Nat.mod_lt _ (by omega))]
  have e : 15 * (c / 15) + c % 15 = c := by omega
  rw [e]
  have h1 := hC c
  by_cases q : C c = 0
  · rw [if_pos q, q]; rfl
  · rw [if_neg q, show C c = 1 by omega]
    have h2 := sumN_le (f := fun j => C (15 * (c / 15) + j)) (Nat.mod_lt c (show 0 < 15 by omega))
    have h2 : C (15 * (c / 15) + c % 15) ≤ _ := h2
    rw [e] at h2
    have h3 := sumN_bd (f := fun j => C (15 * (c / 15) + j)) (n := 15) (b := 1) (fun k _ => hC _)
    have h4 : 0 < 1000000 / sumN (fun j => C (15 * (c / 15) + j)) 15 := Nat.div_pos (by omega) (by omega)
    rw [if_pos (by omega)]
theorem rsN_sum (F : Nat → Nat) (b : Nat) (S : Nat → Nat) : ∀ k, rsN F b S k = sumN (fun j => if S (b + j) = F j then 0 else 1) k
  | 0 => rfl
  | k + 1 => by
    show rsN F b S k + (if rsS F b k S (b + k) = F k then 0 else 1) = sumN _ k + (if S (b + k) = F k then 0 else 1)
    rw [rsN_sum F b S k, show rsS F b k S (b + k) = S (b + k) from (rsS_at F b S _ k).trans (if_neg (by omega))]
theorem apN_sum (C S : Nat → Nat) : ∀ k, apN C 0 S k = sumN (fun c => if S c = apF (fun j => C (15 * (c / 15) + j)) (c % 15) then 0 else 1) (15 * k)
  | 0 => rfl
  | k + 1 => by
    show apN C 0 S k + rsN (apF (fun j => C (15 * k + 0 + j))) (15 * k + 0) (apS C 0 k S) 15 = _
    rw [apN_sum C S k, rsN_sum, show 15 * (k + 1) = 15 * k + 15 by omega, sumN_add]
    refine congrArg _ (sumN_congr fun j hj => ?_)
    rw [apS_ge C S k _ (by omega), show (15 * k + j) / 15 = k by omega, show (15 * k + j) % 15 = j by omega]
    rfl
theorem RX_apN {M Sh : Nat → Nat} {X S : Nat → Nat → Nat} (g : RX M X) (gs : RX Sh S) : apN M 0 Sh 32 = apN (X 0) 0 (S 0) 16 + apN (X 1) 0 (S 1) 16 := by
  rw [apN_sum, apN_sum, apN_sum]
  refine sumN_two (X := fun D c => if S D c = apF (fun j => X D (15 * (c / 15) + j)) (c % 15) then 0 else 1) fun D c hD hc => ?_
  rw [RX_row g hD hc, gs D c hD hc]
