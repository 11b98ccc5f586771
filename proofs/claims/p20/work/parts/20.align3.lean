/-! aligning: which bits are told; growing; the whole -/
theorem and_bit {x j : Nat} : x &&& 2 ^ j ≠ 0 ↔ x.testBit j = true := by
  constructor
  · intro h
    refine Classical.byContradiction fun c => h (Nat.eq_of_testBit_eq fun i => ?_)
    rw [Nat.zero_testBit, Nat.testBit_and, Nat.testBit_two_pow]
    by_cases q : j = i
    · subst q; rw [Bool.eq_false_iff.mpr c]; rfl
    · rw [decide_eq_false q, Bool.and_false]
  · intro h c
    have e := congrArg (fun y => Nat.testBit y j) c
    simp only [Nat.zero_testBit, Nat.testBit_and, Nat.testBit_two_pow, h] at e
    exact absurd e (by simp)
theorem and_bit0 {x j : Nat} : x &&& 2 ^ j = 0 ↔ ¬ x.testBit j = true := by
  rw [← and_bit, Classical.not_not]
theorem bb_bit {m j : Nat} (hm : m ≤ 8) : (bb m).testBit j = true ↔ m = j + 1 := by
  cases m with
  | zero => rw [show bb 0 = 0 from rfl, Nat.zero_testBit]; simp
  | succ s => rw [bb_s (by omega), Nat.testBit_two_pow]; simp
theorem tk_2 {x : (Nat → Nat) × (Nat → Nat)} {i m a j : Nat} (hm : m ≤ 8) : ((tk x i m).2 a).testBit j = true ↔ (x.2 a).testBit j = true ∨ (i = a + 1 ∧ m = j + 1) := by
  cases i with
  | zero => rw [tk_0]; exact ⟨Or.inl, fun c => c.elim id (fun q => by omega)⟩
  | succ i =>
    rw [tk_s]
    show (va_up x.2 i (x.2 i ||| bb m) a).testBit j = true ↔ _
    unfold va_up
    split
    · next q =>
      subst q
      rw [Nat.testBit_or, Bool.or_eq_true, bb_bit hm]
      exact ⟨fun c => c.elim Or.inl (fun q => Or.inr ⟨rfl, q⟩), fun c => c.elim Or.inl (fun q => Or.inr q.2)⟩
    · next q => exact ⟨Or.inl, fun c => c.elim id (fun q => by omega)⟩
theorem tk_1 {x : (Nat → Nat) × (Nat → Nat)} {i m a j : Nat} (hm : m ≤ 8) : ((tk x i m).1 a).testBit j = true ↔ (x.1 a).testBit j = true ∨ ((x.2 a).testBit j = true ∧ i = a + 1 ∧ m = j + 1) := by
  cases i with
  | zero => rw [tk_0]; exact ⟨Or.inl, fun c => c.elim id (fun q => by omega)⟩
  | succ i =>
    rw [tk_s]
    show (va_up x.1 i (x.1 i ||| (x.2 i &&& bb m)) a).testBit j = true ↔ _
    unfold va_up
    split
    · next q =>
      subst q
      rw [Nat.testBit_or, Bool.or_eq_true, Nat.testBit_and, Bool.and_eq_true, bb_bit hm]
      exact ⟨fun c => c.elim Or.inl (fun q => Or.inr ⟨q.1, rfl, q.2⟩), fun c => c.elim Or.inl (fun q => Or.inr ⟨q.1, q.2.2⟩)⟩
    · next q => exact ⟨Or.inl, fun c => c.elim id (fun q => by omega)⟩
theorem t1_bits {f : Nat → Nat} : ∀ k, k ≤ 8 → ∀ a j, (((t1F f (fun _ => 0, fun _ => 0) k).2 a).testBit j = true ↔ (j < k ∧ f j = a + 1)) ∧ ¬ ((t1F f (fun _ => 0, fun _ => 0) k).1 a).testBit j = true
  | 0, _, a, j => by
    show ((0 : Nat).testBit j = true ↔ _) ∧ ¬ (0 : Nat).testBit j = true
    rw [Nat.zero_testBit]
    exact ⟨⟨fun c => by simp at c, fun c => by omega⟩, by simp⟩
  | k + 1, hk, a, j => by
    obtain ⟨i1, i2⟩ := t1_bits (f := f) k (by omega) a j
    show (((tk (t1F f _ k) (f k) (k + 1)).2 a).testBit j = true ↔ _) ∧ ¬ ((tk (t1F f _ k) (f k) (k + 1)).1 a).testBit j = true
    rw [tk_2 (by omega), tk_1 (by omega), i1]
    refine ⟨⟨fun c => ?_, fun c => ?_⟩, fun c => ?_⟩
    · rcases c with c | ⟨c1, c2⟩
      · exact ⟨by omega, c.2⟩
      · have : j = k := by omega
        subst this
        exact ⟨by omega, c1⟩
    · rcases Nat.lt_or_ge j k with q | q
      · exact Or.inl ⟨q, c.2⟩
      · have : j = k := by omega
        subst this
        exact Or.inr ⟨c.2, rfl⟩
    · rcases c with c | c
      · exact i2 c
      · omega
theorem t2_bits {f g : Nat → Nat} {l : Nat} (hl : l ≤ 8) : ∀ k, (∀ i, i < k → g i ≤ 8) → ∀ a j, (((t2F g (t1F f (fun _ => 0, fun _ => 0) l) k).2 a).testBit j = true ↔ (j < l ∧ f j = a + 1) ∨ (a < k ∧ g a = j + 1)) ∧ (((t2F g (t1F f (fun _ => 0, fun _ => 0) l) k).1 a).testBit j = true ↔ (j < l ∧ f j = a + 1) ∧ (a < k ∧ g a = j + 1))
  | 0, _, a, j => by
    obtain ⟨i1, i2⟩ := t1_bits (f := f) l hl a j
    refine ⟨⟨fun c => Or.inl (i1.1 c), fun c => c.elim i1.2 (fun q => by omega)⟩, ⟨fun c => absurd c i2, fun c => by omega⟩⟩
  | k + 1, hg, a, j => by
    obtain ⟨i1, i2⟩ := t2_bits (f := f) (g := g) hl k (fun i hi => hg i (by omega)) a j
    show (((tk (t2F g _ k) (k + 1) (g k)).2 a).testBit j = true ↔ _) ∧ (((tk (t2F g _ k) (k + 1) (g k)).1 a).testBit j = true ↔ _)
    rw [tk_2 (hg k (by omega)), tk_1 (hg k (by omega)), i1, i2]
    by_cases q : a = k
    · subst q
      constructor <;> constructor <;> intro c <;> omega
    · constructor <;> constructor <;> intro c <;> omega
theorem cp_eq (B J : Nat → Nat) (i : Nat) : va_up (fun c => if c < i then B c else J c) i (B i) = fun c => if c < i + 1 then B c else J c := by
  funext c
  unfold va_up
  by_cases h : c = i
  · rw [if_pos h, if_pos (by omega), h]
  · rw [if_neg h]
    show (if c < i then B c else J c) = _
    by_cases h2 : c < i
    · rw [if_pos h2, if_pos (by omega)]
    · rw [if_neg h2, if_neg (by omega)]
def gr (E : Nat → Nat) : Nat → (Nat → Nat) → (Nat → Nat)
  | 0, J => J
  | k + 1, J => if (swp E 64 (J, 0)).2 = 1 then gr E k (swp E 64 (J, 0)).1 else (swp E 64 (J, 0)).1
section M0E
variable {d n : Nat} {h : Hp} {S : Nat → Nat → Nat} {W : Nat → Nat} {l : Nat → Nat → Nat} {w : Nat → Nat → Nat → Nat} {i9 p t : Nat}
theorem BE_bits (h0 : l 0 i9 ≤ 8) (h1 : l 1 i9 ≤ 8) (a j : Nat) : (((BE S W l w i9).2 a).testBit j = true ↔ (j < l 1 i9 ∧ lkF S W l w i9 0 j = a + 1) ∨ (a < l 0 i9 ∧ lkF S W l w i9 1 a = j + 1)) ∧ (((BE S W l w i9).1 a).testBit j = true ↔ (j < l 1 i9 ∧ lkF S W l w i9 0 j = a + 1) ∧ (a < l 0 i9 ∧ lkF S W l w i9 1 a = j + 1)) :=
  t2_bits h1 _ (fun i _ => Nat.le_trans lkF_le h1) a j
theorem bits_lt {x : Nat} (h : ∀ j, 8 ≤ j → ¬ x.testBit j = true) : x < 256 := Nat.lt_pow_two_of_testBit (n := 8) x (fun j hj => Bool.eq_false_iff.mpr (h j hj))
theorem bits_0 {x : Nat} (h : ∀ j, ¬ x.testBit j = true) : x = 0 := Nat.eq_of_testBit_eq (fun j => by rw [Nat.zero_testBit]; exact Bool.eq_false_iff.mpr (h j))
theorem BE_ok (h0 : l 0 i9 ≤ 8) (h1 : l 1 i9 ≤ 8) : (∀ i, (BE S W l w i9).1 i < 256) ∧ (∀ i, (BE S W l w i9).2 i < 256) ∧ (∀ i, l 0 i9 ≤ i → (BE S W l w i9).1 i = 0) ∧ (∀ i, l 0 i9 ≤ i → (BE S W l w i9).2 i = 0) ∧ (∀ i j, l 1 i9 ≤ j → j < 8 → (BE S W l w i9).2 i &&& 2 ^ j = 0) := by
  refine ⟨fun i => bits_lt (fun j hj => ?_), fun i => bits_lt (fun j hj => ?_), fun i hi => bits_0 (fun j => ?_), fun i hi => bits_0 (fun j => ?_), fun i j hj _ => and_bit0.mpr ?_⟩
  · rw [(BE_bits h0 h1 i j).2]; omega
  · rw [(BE_bits h0 h1 i j).1]
    have := lkF_le (S := S) (W := W) (l := l) (w := w) (i9 := i9) (D := 1) (j := i)
    omega
  · rw [(BE_bits h0 h1 i j).2]; omega
  · rw [(BE_bits h0 h1 i j).1]
    have := lkF_le (S := S) (W := W) (l := l) (w := w) (i9 := i9) (D := 0) (j := j)
    omega
  · rw [(BE_bits h0 h1 i j).1]
    have := lkF_le (S := S) (W := W) (l := l) (w := w) (i9 := i9) (D := 1) (j := i)
    omega
variable {l0 l1 : Nat} {E B J : Nat → Nat}
theorem lp_grw (g : Ah h l0 l1) (hl0 : l0 ≤ 8) (hl1 : l1 ≤ 8) (ge : h 20 = aI 8 E) (hE : ∀ i, E i < 256) (hE0 : ∀ i, l0 ≤ i → E i = 0) (hE1 : ∀ i j, l1 ≤ j → j < 8 → E i &&& 2 ^ j = 0) :
    ∀ k s J, s + k = 65 → (∀ i, J i < 256) → (∀ i, l0 ≤ i → J i = 0) → Ev (d + 5) MX0_align 66 [(0, .ref 18), (1, .ref p), (2, .ref 5), (3, .int (nI 1)), (4, .int (nI s))] [] n (va_up h 21 (aI 8 J)) (.inl none, n, va_up h 21 (aI 8 (gr E k J)), 0, 0) := by
  intro k
  induction k with
  | zero =>
    intro s J hs hJ hz
    have e : s = 65 := by omega
    subst e
    refine ev_iload_n dX0_align_66 rfl ?_
    refine ev_if_eqF dX0_align_67 88 (by decide) (by first | assumption | exact nI_ne0 (by omega) (by omega) | decide) ?_
    refine ev_iload dX0_align_70 rfl ?_
    refine ev_bipush dX0_align_72 bp64 ?_
    refine ev_icmp_gtT (tgt := 88) dX0_align_74 (by decide) (by first | assumption | exact nI_lt (by omega) (by omega) | decide) ?_
    exact ev_vreturnE dX0_align_88 rfl (by rfl)
  | succ k ih =>
    intro s J hs hJ hz
    obtain ⟨i1, i2, i3⟩ := swp_inv (E := E) (x := (J, 0)) hE0 hJ hz (Or.inl rfl) 64
    have gg : Ah (va_up h 21 (aI 8 J)) l0 l1 := (up_n (by omega)).trans g
    by_cases q : (swp E 64 (J, 0)).2 = 1
    · have ih := ih (s + 1) (swp E 64 (J, 0)).1 (by omega) i1 i2
      have e1 : gr E (k + 1) J = gr E k (swp E 64 (J, 0)).1 := if_pos q
      rw [e1]
      refine ev_iload_n dX0_align_66 rfl ?_
      refine ev_if_eqF dX0_align_67 88 (by decide) (by first | assumption | exact nI_ne0 (by omega) (by omega) | decide) ?_
      refine ev_iload dX0_align_70 rfl ?_
      refine ev_bipush dX0_align_72 bp64 ?_
      refine ev_icmp_gtF dX0_align_74 88 (by decide) (by first | assumption | exact nI_nlt (by omega) (by omega) | decide) ?_
      first | refine ev_aload_n dX0_align_77 rfl ?_ | refine ev_aload_nN dX0_align_77 rfl ?_
      refine ev_V0 dX0_align_78 st_RX0_60 na_X0_growOnce (Nat.le_of_ble_eq_true rfl) (Nat.le_of_ble_eq_true rfl) (by repeat (first | assumption | exact up_s | refine (up_n (by omega)).trans ?_)) rfl (m0_growOnce g hl0 hl1 ge hE hE0 hE1 hJ hz) ?_
      refine ev_istore_n dX0_align_81 (Nat.le_of_ble_eq_true rfl) ?_
      refine ev_iincN (b := 1) dX0_align_82 rfl (Nat.le_of_ble_eq_true rfl) ?_
      refine ev_goto (tgt := 66) dX0_align_85 (by decide) ?_
      rw [q]
      refine ev_sub ?_ (ih)
      repeat (first | exact trivial | refine ⟨rfl, ?_⟩)
    · have e1 : gr E (k + 1) J = (swp E 64 (J, 0)).1 := if_neg q
      have e2 : (swp E 64 (J, 0)).2 = 0 := by omega
      rw [e1]
      refine ev_iload_n dX0_align_66 rfl ?_
      refine ev_if_eqF dX0_align_67 88 (by decide) (by first | assumption | exact nI_ne0 (by omega) (by omega) | decide) ?_
      refine ev_iload dX0_align_70 rfl ?_
      refine ev_bipush dX0_align_72 bp64 ?_
      refine ev_icmp_gtF dX0_align_74 88 (by decide) (by first | assumption | exact nI_nlt (by omega) (by omega) | decide) ?_
      first | refine ev_aload_n dX0_align_77 rfl ?_ | refine ev_aload_nN dX0_align_77 rfl ?_
      refine ev_V0 dX0_align_78 st_RX0_60 na_X0_growOnce (Nat.le_of_ble_eq_true rfl) (Nat.le_of_ble_eq_true rfl) (by repeat (first | assumption | exact up_s | refine (up_n (by omega)).trans ?_)) rfl (m0_growOnce g hl0 hl1 ge hE hE0 hE1 hJ hz) ?_
      refine ev_istore_n dX0_align_81 (Nat.le_of_ble_eq_true rfl) ?_
      refine ev_iincN (b := 1) dX0_align_82 rfl (Nat.le_of_ble_eq_true rfl) ?_
      refine ev_goto (tgt := 66) dX0_align_85 (by decide) ?_
      rw [e2]
      refine ev_iload_n dX0_align_66 rfl ?_
      refine ev_if_eqT (tgt := 88) dX0_align_67 (by decide) (by first | assumption | exact z_eq (by omega) | decide) ?_
      exact ev_vreturnE dX0_align_88 rfl (by rfl)
theorem lp_cp (g : Ah h l0 l1) (gb : h 19 = aI 8 B) (gj : h 21 = aI 8 J) {o9 : Out} (K : Ev (d + 5) MX0_align 66 [(0, .ref 18), (1, .ref p), (2, .ref 5), (3, .int (nI 1)), (4, .int (nI 0))] [] n (va_up h 21 (aI 8 (fun c => if c < 8 then B c else J c))) o9) :
    ∀ k i, i + k = 8 → Ev (d + 5) MX0_align 32 [(0, .ref 18), (1, .ref p), (2, .ref 5), (3, .int (nI i))] [] n (va_up h 21 (aI 8 (fun c => if c < i then B c else J c))) o9 := by
  intro k
  induction k with
  | zero =>
    intro i hi
    have e : i = 8 := by omega
    subst e
    have gg : Ah (va_up h 21 (aI 8 (fun c => if c < 8 then B c else J c))) l0 l1 := (up_n (by omega)).trans g
    refine ev_iload_n dX0_align_32 rfl ?_
    first | refine ev_aload_n dX0_align_33 rfl ?_ | refine ev_aload_nN dX0_align_33 rfl ?_
    refine ev_getfield dX0_align_34 fl_RX0_18 (by repeat (first | assumption | exact up_s | refine (up_n (by omega)).trans ?_)) rfl ?_
    refine ev_alen dX0_align_37 (by repeat (first | assumption | exact up_s | refine (up_n (by omega)).trans ?_)) (by decide) ?_
    refine ev_icmp_geT (tgt := 61) dX0_align_38 (by decide) (by first | assumption | exact nI_le (by omega) (by omega) | decide) ?_
    refine ev_iconst dX0_align_61 ci1 ?_
    refine ev_istore_n dX0_align_62 (Nat.le_of_ble_eq_true rfl) ?_
    refine ev_iconst dX0_align_63 ci0 ?_
    refine ev_istore dX0_align_64 (Nat.le_of_ble_eq_true rfl) ?_
    refine ev_sub ?_ (K)
    repeat (first | exact trivial | refine ⟨rfl, ?_⟩)
  | succ k ih =>
    intro i hi
    have ih := ih (i + 1) (by omega)
    have gg : Ah (va_up h 21 (aI 8 (fun c => if c < i then B c else J c))) l0 l1 := (up_n (by omega)).trans g
    refine ev_iload_n dX0_align_32 rfl ?_
    first | refine ev_aload_n dX0_align_33 rfl ?_ | refine ev_aload_nN dX0_align_33 rfl ?_
    refine ev_getfield dX0_align_34 fl_RX0_18 (by repeat (first | assumption | exact up_s | refine (up_n (by omega)).trans ?_)) rfl ?_
    refine ev_alen dX0_align_37 (by repeat (first | assumption | exact up_s | refine (up_n (by omega)).trans ?_)) (by decide) ?_
    refine ev_icmp_geF dX0_align_38 61 (by decide) (by first | assumption | exact nI_ge (by omega) (by omega) | decide) ?_
    first | refine ev_aload_n dX0_align_41 rfl ?_ | refine ev_aload_nN dX0_align_41 rfl ?_
    refine ev_getfield dX0_align_42 fl_RX0_18 (by repeat (first | assumption | exact up_s | refine (up_n (by omega)).trans ?_)) rfl ?_
    refine ev_iload_n dX0_align_45 rfl ?_
    first | refine ev_aload_n dX0_align_46 rfl ?_ | refine ev_aload_nN dX0_align_46 rfl ?_
    refine ev_getfield dX0_align_47 fl_RX0_9 (by repeat (first | assumption | exact up_s | refine (up_n (by omega)).trans ?_)) rfl ?_
    refine ev_iload_n dX0_align_50 rfl ?_
    refine ev_S2 dX0_align_51 st_RX0_28 na_X0_bitsAt (Nat.le_of_ble_eq_true rfl) (Nat.le_of_ble_eq_true rfl) (m0_bitsAtN ((up_n (by omega)).trans gb) (show i < 8 by omega)) ?_
    refine ev_iast dX0_align_54 (by omega) (by repeat (first | assumption | exact up_s | refine (up_n (by omega)).trans ?_)) _ _ rfl rfl (by omega) (by omega) ?_
    refine ev_iincN (b := 1) dX0_align_55 rfl (Nat.le_of_ble_eq_true rfl) ?_
    refine ev_goto (tgt := 32) dX0_align_58 (by decide) ?_
    refine ev_heap (up_u.trans (congrArg (fun f => va_up h 21 (aI 8 f)) (cp_eq B J i))) ?_
    refine ev_sub ?_ (ih)
    repeat (first | exact trivial | refine ⟨rfl, ?_⟩)
/-- an alignment, whole -/
abbrev AX (h : Hp) (l0 l1 : Nat) (B E J : Nat → Nat) : Hp := va_up (va_up (va_up (va_up h 18 (.inr (0, [.ref 19, .ref 20, .ref 21, .int (nI l0), .int (nI l1)]))) 19 (aI 8 B)) 20 (aI 8 E)) 21 (aI 8 J)
theorem m0_align {a0 a1 : Nat} {B0 E0 J0 : Nat → Nat} (g : Ah h a0 a1) (g19 : h 19 = aI 8 B0) (g20 : h 20 = aI 8 E0) (g21 : h 21 = aI 8 J0) (G : Kn h S W) (hp : Pr h p t (l 0 i9) (w 0 i9) (l 1 i9) (w 1 i9)) (hpp : 26 ≤ p) :
    Ev (d + 5) MX0_align 0 (lv_args 0 [.ref 18, .ref p, .ref 5]) [] n h (.inl none, n, AX h (l 0 i9) (l 1 i9) (BE S W l w i9).1 (BE S W l w i9).2 (gr (BE S W l w i9).2 65 (BE S W l w i9).1), 0, 0) := by
  have hl0 := hp.2.1.2.2.1
  have hl1 := hp.2.2.2.2.1
  obtain ⟨q1, q2, q3, q4, q5⟩ := BE_ok (S := S) (W := W) (l := l) (w := w) (i9 := i9) hl0 hl1
  have hp1 := hp.1
  have hp2 := hp.2.1.1
  have hp3 := hp.2.2.1
  first | refine ev_aload_n dX0_align_0 rfl ?_ | refine ev_aload_nN dX0_align_0 rfl ?_
  first | refine ev_aload_n dX0_align_1 rfl ?_ | refine ev_aload_nN dX0_align_1 rfl ?_
  refine ev_iconst dX0_align_2 ci0 ?_
  refine ev_V1 dX0_align_3 st_RX0_44 na_X7_ofSide (Nat.le_of_ble_eq_true rfl) (Nat.le_of_ble_eq_true rfl) (by repeat (first | assumption | exact up_s | refine (up_n (by omega)).trans ?_)) rfl (m7_of0 hp) ?_
  refine ev_V0 dX0_align_6 st_RX0_50 na_X6_length (Nat.le_of_ble_eq_true rfl) (Nat.le_of_ble_eq_true rfl) (by repeat (first | assumption | exact up_s | refine (up_n (by omega)).trans ?_)) rfl (m6_length hp.2.1) ?_
  refine ev_putfield dX0_align_9 fl_RX0_21 (fit_0_3 _) (fun q => absurd q (by decide)) (by repeat (first | assumption | exact up_s | refine (up_n (by omega)).trans ?_)) (Nat.le_of_ble_eq_true rfl) ?_
  first | refine ev_aload_n dX0_align_12 rfl ?_ | refine ev_aload_nN dX0_align_12 rfl ?_
  first | refine ev_aload_n dX0_align_13 rfl ?_ | refine ev_aload_nN dX0_align_13 rfl ?_
  refine ev_iconst dX0_align_14 ci1 ?_
  refine ev_V1 dX0_align_15 st_RX0_44 na_X7_ofSide (Nat.le_of_ble_eq_true rfl) (Nat.le_of_ble_eq_true rfl) (by repeat (first | assumption | exact up_s | refine (up_n (by omega)).trans ?_)) rfl (m7_of1 (Pr_up hp (by omega))) ?_
  refine ev_V0 dX0_align_18 st_RX0_50 na_X6_length (Nat.le_of_ble_eq_true rfl) (Nat.le_of_ble_eq_true rfl) (by repeat (first | assumption | exact up_s | refine (up_n (by omega)).trans ?_)) rfl (m6_length (Pr_up hp (by omega)).2.2) ?_
  refine ev_putfield dX0_align_21 fl_RX0_25 (fit_0_4 _) (fun q => absurd q (by decide)) (by repeat (first | assumption | exact up_s | refine (up_n (by omega)).trans ?_)) (Nat.le_of_ble_eq_true rfl) ?_
  first | refine ev_aload_n dX0_align_24 rfl ?_ | refine ev_aload_nN dX0_align_24 rfl ?_
  first | refine ev_aload_n dX0_align_25 rfl ?_ | refine ev_aload_nN dX0_align_25 rfl ?_
  first | refine ev_aload_n dX0_align_26 rfl ?_ | refine ev_aload_nN dX0_align_26 rfl ?_
  refine ev_heap up_u ?_
  have g18 : Ah (va_up h 18 (.inr (0, [.ref 19, .ref 20, .ref 21, .int (nI (l 0 i9)), .int (nI (l 1 i9))]))) (l 0 i9) (l 1 i9) := up_s
  refine ev_V2v dX0_align_27 st_RX0_56 na_X0_takeLinks (Nat.le_of_ble_eq_true rfl) (Nat.le_of_ble_eq_true rfl) (by repeat (first | assumption | exact up_s | refine (up_n (by omega)).trans ?_)) rfl (m0_takeLinks g18 ((up_n (by omega)).trans g19) ((up_n (by omega)).trans g20) (Kn_up G (by omega)) (Pr_up hp (by omega)) hpp) ?_
  refine ev_iconst dX0_align_30 ci0 ?_
  refine ev_istore_n dX0_align_31 (Nat.le_of_ble_eq_true rfl) ?_
  have gA : Ah (AB (va_up h 18 (.inr (0, [.ref 19, .ref 20, .ref 21, .int (nI (l 0 i9)), .int (nI (l 1 i9))]))) (BE S W l w i9)) (l 0 i9) (l 1 i9) := AB_Ah g18
  refine ev_heap (h2 := va_up (AB (va_up h 18 (.inr (0, [.ref 19, .ref 20, .ref 21, .int (nI (l 0 i9)), .int (nI (l 1 i9))]))) (BE S W l w i9)) 21 (aI 8 (fun c => if c < 0 then (BE S W l w i9).1 c else J0 c))) (by rw [show (fun c => if c < 0 then (BE S W l w i9).1 c else J0 c) = J0 from funext fun c => if_neg (Nat.not_lt_zero c)]; exact (up_id ((up_n (by omega)).trans ((up_n (by omega)).trans ((up_n (by omega)).trans g21)))).symm) ?_
  refine ev_sub ?_ (lp_cp (p := p) (B := (BE S W l w i9).1) (J := J0) gA AB_19 ((up_n (by omega)).trans ((up_n (by omega)).trans ((up_n (by omega)).trans g21))) ?_ 8 0 (by omega))
  · repeat (first | exact trivial | refine ⟨rfl, ?_⟩)
  · refine ev_ext (f2 := fun c => nI ((BE S W l w i9).1 c)) (by omega) up_s (fun j hj => by simp only [hj, if_true]) ?_
    refine ev_heap up_u ?_
    refine ev_sub ?_ (lp_grw (p := p) gA hl0 hl1 AB_20 q2 q4 q5 65 0 (BE S W l w i9).1 (by omega) q1 q3)
    repeat (first | exact trivial | refine ⟨rfl, ?_⟩)
end M0E
