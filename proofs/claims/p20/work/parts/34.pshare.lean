/-! shares: what a row comes to -/
theorem apF_sum (c : Nat → Nat) : sumN (apF c) 15 = if sumN c 15 = 0 then 0 else 1000000 := by
  unfold apF
  split
  · rfl
  · next h =>
    have h1 := grF_sum (whF c (sumN c 15), whR c (sumN c 15)) (whM c (sumN c 15))
    have h2 := wh_le (c := c) rfl (show 0 < sumN c 15 by omega) (Nat.le_refl 15)
    have h4 : whM c (sumN c 15) = 1000000 - sumN (whF c (sumN c 15)) 15 := rfl
    simp only at h1
    omega
theorem rsS_at (F : Nat → Nat) (b : Nat) (S : Nat → Nat) (c : Nat) : ∀ k, rsS F b k S c = if b ≤ c ∧ c < b + k then F (c - b) else S c
  | 0 => by rw [if_neg (by omega)]; rfl
  | k + 1 => by
    show va_up (rsS F b k S) (b + k) (F k) c = _
    unfold va_up
    by_cases q : c = b + k
    · rw [if_pos q, if_pos (by omega), q, Nat.add_sub_cancel_left]
    · rw [if_neg q, rsS_at F b S c k]
      by_cases q2 : b ≤ c ∧ c < b + k
      · rw [if_pos q2, if_pos (by omega)]
      · rw [if_neg q2, if_neg (by omega)]
theorem apS_at (C S : Nat → Nat) : ∀ n k j, k < n → j < 15 → apS C 0 n S (15 * k + j) = apF (fun i => C (15 * k + i)) j
  | 0, k, j, h, _ => absurd h (Nat.not_lt_zero _)
  | n + 1, k, j, h, hj => by
    show rsS (apF (fun i => C (15 * n + 0 + i))) (15 * n + 0) 15 (apS C 0 n S) (15 * k + j) = _
    rw [rsS_at]
    by_cases q : k = n
    · subst q
      rw [if_pos (by omega), show 15 * k + j - (15 * k + 0) = j by omega]
      rfl
    · rw [if_neg (by omega)]
      exact apS_at C S n k j (by omega) hj
/-- each row comes to a million or to nothing -/
def RS (S : Nat → Nat → Nat) : Prop := ∀ D k, k < 16 → sumN (fun j => S D (15 * k + j)) 15 = 0 ∨ sumN (fun j => S D (15 * k + j)) 15 = 1000000
theorem nwS_row (C S : Nat → Nat → Nat) (D k : Nat) (hk : k < 16) : sumN (fun j => nwS C S D (15 * k + j)) 15 = if sumN (fun i => C D (15 * k + i)) 15 = 0 then 0 else 1000000 := by
  rw [← apF_sum]
  exact sumN_congr (fun j hj => apS_at (C D) (S D) 16 k j hk hj)
theorem nwS_RS (C S : Nat → Nat → Nat) : RS (nwS C S) := fun D k hk => by
  rw [nwS_row C S D k hk]
  split
  · exact Or.inl rfl
  · exact Or.inr rfl
theorem RS_0 : RS (fun _ _ => 0) := fun _ _ _ => Or.inl rfl
theorem szN_le (S : Nat → Nat) : ∀ k, szN S k ≤ k
  | 0 => Nat.le_refl _
  | k + 1 => by
    have := szN_le S k
    show szN S k + (if 0 < S k then 1 else 0) ≤ _
    split <;> omega
theorem rsN_le (F : Nat → Nat) (b : Nat) (S : Nat → Nat) : ∀ k, rsN F b S k ≤ k
  | 0 => Nat.le_refl _
  | k + 1 => by
    have := rsN_le F b S k
    show rsN F b S k + (if _ then 0 else 1) ≤ _
    split <;> omega
theorem apN_le (C : Nat → Nat) (off : Nat) (S : Nat → Nat) : ∀ k, apN C off S k ≤ 15 * k
  | 0 => Nat.le_refl _
  | k + 1 => by
    have h1 := apN_le C off S k
    have h2 := rsN_le (apF (fun j => C (15 * k + off + j))) (15 * k + off) (apS C off k S) 15
    show apN C off S k + rsN _ _ _ 15 ≤ _
    omega
theorem szN_0 {S : Nat → Nat} : ∀ k, (∀ c, c < k → S c = 0) → szN S k = 0
  | 0, _ => rfl
  | k + 1, h => by
    show szN S k + (if 0 < S k then 1 else 0) = 0
    rw [szN_0 k (fun c hc => h c (by omega)), if_neg (by rw [h k (by omega)]; omega)]
theorem szN_pos {S : Nat → Nat} {c : Nat} : ∀ k, c < k → 0 < S c → 0 < szN S k
  | 0, h, _ => absurd h (Nat.not_lt_zero _)
  | k + 1, h, hc => by
    show 0 < szN S k + (if 0 < S k then 1 else 0)
    by_cases q : c = k
    · subst q; rw [if_pos hc]; omega
    · have := szN_pos k (by omega) hc; omega
theorem sumN_0 {f : Nat → Nat} : ∀ k, (∀ c, c < k → f c = 0) → sumN f k = 0
  | 0, _ => rfl
  | k + 1, h => by
    show sumN f k + f k = 0
    rw [sumN_0 k (fun c hc => h c (by omega)), h k (by omega)]
theorem sumN_z {f : Nat → Nat} {k : Nat} (h : sumN f k = 0) : ∀ c, c < k → f c = 0 := fun c hc => by
  have := sumN_le (f := f) hc
  omega
theorem sumN_ex {f : Nat → Nat} : ∀ k, 0 < sumN f k → ∃ c, c < k ∧ 0 < f c
  | 0, h => absurd h (Nat.not_lt_zero _)
  | k + 1, h => by
    have h : 0 < sumN f k + f k := h
    by_cases q : 0 < f k
    · exact ⟨k, by omega, q⟩
    · obtain ⟨c, h1, h2⟩ := sumN_ex k (show 0 < sumN f k by omega)
      exact ⟨c, by omega, h2⟩
/-- a beginning's counts -/
theorem mtI_ge {off o : Nat} {wa C : Nat → Nat} {c : Nat} (h : 1 ≤ C c) : ∀ k, 1 ≤ mtI off o wa k C c
  | 0 => h
  | k + 1 => by
    show 1 ≤ va_up (mtI off o wa k C) _ 1 c
    unfold va_up
    split
    · exact Nat.le_refl _
    · exact mtI_ge h k
theorem mtO_ge {off la : Nat} {wa wb C : Nat → Nat} {c : Nat} (h : 1 ≤ C c) : ∀ k, 1 ≤ mtO off wa la wb k C c
  | 0 => h
  | k + 1 => by
    refine mtI_ge ?_ la
    unfold va_up
    split
    · exact Nat.le_refl _
    · exact mtO_ge h k
theorem mtO_set {off la : Nat} {wa wb C : Nat → Nat} : ∀ k, 0 < k → 1 ≤ mtO off wa la wb k C (15 * 15 + wb 0 + off)
  | 0, h => absurd h (Nat.not_lt_zero _)
  | k + 1, _ => by
    refine mtI_ge ?_ la
    unfold va_up
    split
    · exact Nat.le_refl _
    · next q =>
      rcases Nat.eq_zero_or_pos k with e | e
      · subst e; exact absurd rfl q
      · exact mtO_set k e
theorem ccF_ge {t : Nat → Nat} {f : Nat → (Nat → Nat) → (Nat → Nat)} {c : Nat} (hf : ∀ i C, 1 ≤ C c → 1 ≤ f i C c) {C : Nat → Nat} {i : Nat} (h : 1 ≤ ccF t f i C c) : ∀ k, 1 ≤ ccF t f (i + k) C c
  | 0 => h
  | k + 1 => by
    show 1 ≤ (if t (i + k) = 1 then f (i + k) (ccF t f (i + k) C) else ccF t f (i + k) C) c
    split
    · exact hf _ _ (ccF_ge hf h k)
    · exact ccF_ge hf h k
theorem ccF_set {t : Nat → Nat} {f : Nat → (Nat → Nat) → (Nat → Nat)} {c : Nat} (hf : ∀ i C, 1 ≤ C c → 1 ≤ f i C c) {C : Nat → Nat} {i n : Nat} (hi : i < n) (ht : t i = 1) (h : ∀ C, 1 ≤ f i C c) : 1 ≤ ccF t f n C c := by
  have e : n = (i + 1) + (n - (i + 1)) := by omega
  rw [e]
  refine ccF_ge hf ?_ _
  show 1 ≤ (if t i = 1 then f i (ccF t f i C) else ccF t f i C) c
  rw [if_pos ht]
  exact h _
theorem ccF_none {t : Nat → Nat} {f : Nat → (Nat → Nat) → (Nat → Nat)} {C : Nat → Nat} : ∀ k, (∀ i, i < k → t i ≠ 1) → ccF t f k C = C
  | 0, _ => rfl
  | k + 1, h => by
    show (if t k = 1 then f k (ccF t f k C) else ccF t f k C) = C
    rw [if_neg (h k (by omega))]
    exact ccF_none k (fun i hi => h i (by omega))
section PS
variable {made : Nat} {t : Nat → Nat} {l : Nat → Nat → Nat} {w : Nat → Nat → Nat → Nat} {S : Nat → Nat → Nat}
theorem be_0 (h : sumN t made = 0) : szN (nwS (beC t l w made) S 0) 240 + szN (nwS (beC t l w made) S 1) 240 = 0 := by
  have hz : ∀ D c, beC t l w made D c = 0 := fun D c => by
    unfold beC cmC
    rw [ccF_none made (fun i hi => by rw [sumN_z h i hi]; omega)]
  have hs : ∀ D c, c < 240 → nwS (beC t l w made) S D c = 0 := fun D c hc => by
    have h1 := nwS_row (beC t l w made) S D (c / 15) (by omega)
    rw [if_pos (sumN_0 15 (fun i _ => hz D _))] at h1
    have h2 := sumN_z h1 (c % 15) (by omega)
    rwa [show 15 * (c / 15) + c % 15 = c by omega] at h2
  rw [szN_0 240 (hs 0), szN_0 240 (hs 1)]
theorem be_pos (h : 0 < sumN t made) (ht : ∀ i, t i = 0 ∨ t i = 1) (hl : ∀ i, i < made → 0 < l 1 i) (hw : ∀ i, i < made → w 1 i 0 < 15) : 0 < szN (nwS (beC t l w made) S 0) 240 + szN (nwS (beC t l w made) S 1) 240 := by
  obtain ⟨i, hi, h1⟩ := sumN_ex made h
  have ht1 : t i = 1 := by have := ht i; omega
  have hc : 1 ≤ beC t l w made 0 (15 * 15 + w 1 i 0 + 0) := ccF_set (fun _ _ h => mtO_ge h _) hi ht1 (fun C => mtO_set _ (hl i hi))
  have hs : 0 < sumN (fun j => beC t l w made 0 (15 * 15 + j)) 15 := sumN_pos 15 (hw i hi) hc
  have hr := nwS_row (beC t l w made) S 0 15 (by omega)
  rw [if_neg (by omega)] at hr
  obtain ⟨c, hc1, hc2⟩ := sumN_ex 15 (show 0 < sumN (fun j => nwS (beC t l w made) S 0 (15 * 15 + j)) 15 by omega)
  have := szN_pos (S := nwS (beC t l w made) S 0) 240 (show 15 * 15 + c < 240 by omega) hc2
  omega
end PS
