/-! growing: what is joined in the end -/
abbrev TB (J : Nat → Nat) (i j : Nat) : Prop := (J i).testBit j = true
theorem bits_ex {x : Nat} (h : x ≠ 0) : ∃ j, x.testBit j = true := Classical.byContradiction fun c => h (bits_0 fun j q => c ⟨j, q⟩)
theorem bb_bit2 {m j : Nat} (h : (bb m).testBit j = true) : m = j + 1 ∧ m ≤ 8 := by
  unfold bb at h
  split at h
  · rw [Nat.zero_testBit] at h; exact absurd h (by decide)
  · rw [Nat.testBit_two_pow, decide_eq_true_eq] at h; omega
theorem nbit_bit {j k : Nat} (h : (nbit j).testBit k = true) : k < 8 ∧ k ≤ j + 1 ∧ j ≤ k + 1 := by
  unfold nbit at h
  rw [Nat.testBit_or, Nat.testBit_or, Bool.or_eq_true, Bool.or_eq_true] at h
  rcases h with (h | h) | h
  · have := bb_bit2 h; omega
  · have := bb_bit2 h; omega
  · have := bb_bit2 h; omega
theorem rowAt_bit {J : Nat → Nat} {m j : Nat} (h : (rowAt J m).testBit j = true) : 0 < m ∧ m ≤ 8 ∧ TB J (m - 1) j := by
  unfold rowAt at h
  split at h
  · rw [Nat.zero_testBit] at h; exact absurd h (by decide)
  · exact ⟨by omega, by omega, h⟩
theorem nrow_bit {J : Nat → Nat} {i j : Nat} (h : (nrow J i).testBit j = true) : ∃ i', i' < 8 ∧ i' ≤ i + 1 ∧ i ≤ i' + 1 ∧ TB J i' j := by
  unfold nrow at h
  rw [Nat.testBit_or, Nat.testBit_or, Bool.or_eq_true, Bool.or_eq_true] at h
  rcases h with (h | h) | h
  · obtain ⟨a, b, c⟩ := rowAt_bit h; exact ⟨_, by omega, by omega, by omega, c⟩
  · obtain ⟨a, b, c⟩ := rowAt_bit h; exact ⟨_, by omega, by omega, by omega, c⟩
  · obtain ⟨a, b, c⟩ := rowAt_bit h; exact ⟨_, by omega, by omega, by omega, c⟩
/-- beside a joined one -/
def Bs (J : Nat → Nat) (i j : Nat) : Prop := ∃ i' j', i' < 8 ∧ j' < 8 ∧ TB J i' j' ∧ (i' ≠ i ∨ j' ≠ j) ∧ (i' ≤ i + 1 ∧ i ≤ i' + 1) ∧ j' ≤ j + 1 ∧ j ≤ j' + 1
theorem Bs_mono {J J' : Nat → Nat} (h : ∀ i j, TB J i j → TB J' i j) {i j : Nat} : Bs J i j → Bs J' i j := fun ⟨a, b, h1, h2, h3, h4⟩ => ⟨a, b, h1, h2, h _ _ h3, h4⟩
def GI (B E J : Nat → Nat) : Prop := (∀ i j, TB B i j → TB J i j) ∧ (∀ i j, TB J i j → TB E i j) ∧ ∀ i j, TB J i j → TB B i j ∨ Bs J i j
theorem GI_0 {B E : Nat → Nat} (h : ∀ i j, TB B i j → TB E i j) : GI B E B := ⟨fun _ _ q => q, h, fun _ _ q => Or.inl q⟩
theorem GI_stp {B E : Nat → Nat} {x : (Nat → Nat) × Nat} (g : GI B E x.1) (k : Nat) : GI B E (stp E x k).1 := by
  unfold stp
  split
  · next c =>
    obtain ⟨c1, c2, -, c4⟩ := c
    obtain ⟨g1, g2, g3⟩ := g
    generalize k / 8 = i at c1 c2 c4 ⊢
    generalize k % 8 = j at c1 c2 c4 ⊢
    have hb : ∀ a b, TB (va_up x.1 i (x.1 i ||| 2 ^ j)) a b ↔ TB x.1 a b ∨ (a = i ∧ b = j) := fun a b => by
      unfold TB va_up
      by_cases q : a = i
      · subst q
        rw [if_pos rfl, Nat.testBit_or, Bool.or_eq_true, Nat.testBit_two_pow, decide_eq_true_eq]
        exact ⟨fun c => c.elim Or.inl (fun e => Or.inr ⟨rfl, e.symm⟩), fun c => c.elim Or.inl (fun e => Or.inr e.2.symm)⟩
      · rw [if_neg q]
        exact ⟨Or.inl, fun c => c.elim id (fun e => absurd e.1 q)⟩
    have hm : ∀ a b, TB x.1 a b → TB (va_up x.1 i (x.1 i ||| 2 ^ j)) a b := fun a b q => (hb a b).mpr (Or.inl q)
    refine ⟨fun a b q => hm a b (g1 a b q), fun a b q => ?_, fun a b q => ?_⟩
    · rcases (hb a b).mp q with q | ⟨rfl, rfl⟩
      · exact g2 a b q
      · exact Classical.byContradiction fun z => c1 (and_bit0.mpr z)
    · rcases (hb a b).mp q with q | ⟨rfl, rfl⟩
      · exact (g3 a b q).imp id (Bs_mono hm)
      · refine Or.inr (Bs_mono hm ?_)
        obtain ⟨j', hj⟩ := bits_ex c4
        rw [Nat.testBit_and, Bool.and_eq_true] at hj
        obtain ⟨n1, n2, n3⟩ := nbit_bit hj.2
        obtain ⟨i', m1, m2, m3, m4⟩ := nrow_bit hj.1
        refine ⟨i', j', m1, n1, m4, ?_, ⟨m2, m3⟩, n2, n3⟩
        by_cases e : i' = a
        · refine Or.inr fun e2 => ?_
          subst e; subst e2
          exact and_bit0.mp c2 m4
        · exact Or.inl e
  · exact g
theorem GI_swp {B E : Nat → Nat} {x : (Nat → Nat) × Nat} (g : GI B E x.1) : ∀ k, GI B E (swp E k x).1
  | 0 => g
  | k + 1 => GI_stp (GI_swp g k) k
theorem GI_gr {B E : Nat → Nat} : ∀ k J, GI B E J → GI B E (gr E k J)
  | 0, _, g => g
  | k + 1, J, g => by
    have h := GI_swp (x := (J, 0)) g 64
    unfold gr
    split
    · exact GI_gr k _ h
    · exact h
section PG
variable {S : Nat → Nat → Nat} {W : Nat → Nat} {l : Nat → Nat → Nat} {w : Nat → Nat → Nat → Nat} {i9 : Nat}
theorem JJ_GI (h0 : l 0 i9 ≤ 8) (h1 : l 1 i9 ≤ 8) : GI (BE S W l w i9).1 (BE S W l w i9).2 (JJ S W l w i9) :=
  GI_gr 65 _ (GI_0 fun i j q => by
    obtain ⟨b1, b2⟩ := BE_bits (S := S) (W := W) (w := w) h0 h1 i j
    exact b1.mpr (Or.inl (b2.mp q).1))
/-- the links of both directions -/
abbrev lk0 (S : Nat → Nat → Nat) (W : Nat → Nat) (l : Nat → Nat → Nat) (w : Nat → Nat → Nat → Nat) (i a b : Nat) : Prop := lkF S W l w i 0 b = a + 1
abbrev lk1 (S : Nat → Nat → Nat) (W : Nat → Nat) (l : Nat → Nat → Nat) (w : Nat → Nat → Nat → Nat) (i a b : Nat) : Prop := lkF S W l w i 1 a = b + 1
theorem JJ_both (h0 : l 0 i9 ≤ 8) (h1 : l 1 i9 ≤ 8) {a b : Nat} (ha : a < l 0 i9) (hb : b < l 1 i9) (q0 : lk0 S W l w i9 a b) (q1 : lk1 S W l w i9 a b) : TB (JJ S W l w i9) a b :=
  (JJ_GI h0 h1).1 a b ((BE_bits h0 h1 a b).2.mpr ⟨⟨hb, q0⟩, ha, q1⟩)
theorem JJ_any (h0 : l 0 i9 ≤ 8) (h1 : l 1 i9 ≤ 8) {a b : Nat} (q : TB (JJ S W l w i9) a b) : (a < l 0 i9 ∧ b < l 1 i9) ∧ (lk0 S W l w i9 a b ∨ lk1 S W l w i9 a b) := by
  have e := (BE_bits h0 h1 a b).1.mp ((JJ_GI h0 h1).2.1 a b q)
  refine ⟨?_, e.imp (·.2) (·.2)⟩
  have e0 : lkF S W l w i9 0 b ≤ l 0 i9 := lkF_le
  have e1 : lkF S W l w i9 1 a ≤ l 1 i9 := lkF_le
  rcases e with e | e
  · exact ⟨by omega, e.1⟩
  · exact ⟨e.1, by omega⟩
theorem JJ_beside (h0 : l 0 i9 ≤ 8) (h1 : l 1 i9 ≤ 8) {a b : Nat} (q : TB (JJ S W l w i9) a b) (q2 : ¬ (lk0 S W l w i9 a b ∧ lk1 S W l w i9 a b)) : Bs (JJ S W l w i9) a b :=
  ((JJ_GI h0 h1).2.2 a b q).resolve_left fun z => by
    have e := (BE_bits h0 h1 a b).2.mp z
    exact q2 ⟨e.1.2, e.2.2⟩
end PG
