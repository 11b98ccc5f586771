/-! fertilities: each place has one -/
theorem sumN_add (f g : Nat → Nat) : ∀ n, sumN (fun i => f i + g i) n = sumN f n + sumN g n
  | 0 => rfl
  | n + 1 => by
    show sumN (fun i => f i + g i) n + (f n + g n) = sumN f n + f n + (sumN g n + g n)
    rw [sumN_add f g n]; omega
theorem sumN_swap (g : Nat → Nat → Nat) (n : Nat) : ∀ m, sumN (fun f => sumN (g f) n) m = sumN (fun i => sumN (fun f => g f i) m) n
  | 0 => (sumN_0 n (fun _ _ => rfl)).symm
  | m + 1 => by
    show sumN (fun f => sumN (g f) n) m + sumN (g m) n = sumN (fun i => sumN (fun f => g f i) m + g m i) n
    rw [sumN_add, sumN_swap g n m]
theorem sumN_ind (p : Prop) [Decidable p] (k : Nat) : ∀ n, k < n → sumN (fun f => if p ∧ k = f then 1 else 0) n = if p then 1 else 0
  | 0, h => absurd h (Nat.not_lt_zero _)
  | n + 1, h => by
    show sumN (fun f => if p ∧ k = f then 1 else 0) n + (if p ∧ k = n then 1 else 0) = _
    by_cases q : k = n
    · subst q
      rw [sumN_0 k (fun c hc => if_neg (by omega))]
      by_cases hp : p
      · rw [if_pos ⟨hp, rfl⟩, if_pos hp]
      · rw [if_neg (fun z => hp z.1), if_neg hp]
    · rw [if_neg (fun z => q z.2), sumN_ind p k n (by omega), Nat.add_zero]
theorem sumN_cut (p : Nat → Nat) (len : Nat) : ∀ n, len ≤ n → sumN (fun j => if j < len then p j else 0) n = sumN p len
  | 0, h => by
    have : len = 0 := by omega
    subst this; rfl
  | n + 1, h => by
    show sumN (fun j => if j < len then p j else 0) n + (if n < len then p n else 0) = _
    by_cases q : len = n + 1
    · subst q
      rw [if_pos (by omega), sumN_congr (g := p) (fun j hj => if_pos (by omega))]
      rfl
    · rw [if_neg (by omega), sumN_cut p len n (by omega), Nat.add_zero]
/-- a word at a place -/
def wA (l : Nat → Nat → Nat) (w : Nat → Nat → Nat → Nat) (wd i : Nat) : Nat → Nat := fun j => if j < l 0 i then (if w 0 i j = wd then 1 else 0) else 0
def wC (t : Nat → Nat) (l : Nat → Nat → Nat) (w : Nat → Nat → Nat → Nat) (wd : Nat) : Nat → Nat := fun i => if t i = 1 then sumN (wA l w wd i) 8 else 0
section PF
variable {S : Nat → Nat → Nat} {W t : Nat → Nat} {l : Nat → Nat → Nat} {w : Nat → Nat → Nat → Nat} {made wd : Nat}
theorem fe_all (hl : ∀ i, i < made → l 0 i ≤ 8) : sumN (fun f => sumN (feF S W t l w wd f) made) 9 = sumN (wC t l w wd) made := by
  rw [sumN_swap]
  refine sumN_congr (fun i hi => ?_)
  unfold feF wC
  by_cases q : t i = 1
  · rw [if_pos q, sumN_congr (g := fun f => sumN (plF wd f (w 0 i) (JJ S W l w i)) (l 0 i)) (fun f _ => if_pos q), sumN_swap]
    unfold wA
    rw [sumN_cut _ _ 8 (hl i hi)]
    refine sumN_congr (fun j hj => ?_)
    unfold plF
    exact sumN_ind _ _ 9 (by have := pc8_le (JJ S W l w i j); omega)
  · rw [if_neg q]
    exact sumN_0 9 (fun f _ => if_neg q)
theorem wA_le {i j : Nat} : wA l w wd i j ≤ 1 := by
  unfold wA
  split
  · split <;> omega
  · omega
theorem wC_le {i : Nat} : wC t l w wd i ≤ 8 := by
  unfold wC
  split
  · exact sumN_le1 (fun _ => wA_le) 8
  · omega
end PF
