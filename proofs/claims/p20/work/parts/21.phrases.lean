/-! phrases: spans, what is a phrase, the search -/
theorem i_dist (a b c : Int32) : a &&& (b ||| c) = (a &&& b) ||| (a &&& c) := by
  apply Int32.toBitVec_inj.1
  show a.toBitVec &&& (b.toBitVec ||| c.toBitVec) = (a.toBitVec &&& b.toBitVec) ||| (a.toBitVec &&& c.toBitVec)
  apply BitVec.eq_of_getLsbD_eq
  intro i hi
  simp only [BitVec.getLsbD_and, BitVec.getLsbD_or]
  cases a.toBitVec.getLsbD i <;> rfl
theorem n_notand {I s : Nat} (hI : I < 256) (hs : s < 256) : nI I &&& (nI s ^^^ -1) = nI (I &&& (255 - s)) := by
  have h1 : ∀ s, s < 256 → nI s ^^^ -1 = nI (255 - s) ||| -256 := by decide +kernel
  have h2 : ∀ s, s < 256 → nI s &&& -256 = nI 0 := by decide +kernel
  rw [h1 s hs, i_dist, h2 I hI, n_and, n_or, Nat.or_zero]
/-- the bits from a place on, so many -/
def spF (c : Nat) : Nat → Nat
  | 0 => 0
  | k + 1 => spF c k ||| 2 ^ (c + k)
theorem spF_bit (c j : Nat) : ∀ k, (spF c k).testBit j = true ↔ c ≤ j ∧ j < c + k
  | 0 => by rw [show spF c 0 = 0 from rfl, Nat.zero_testBit]; simp
  | k + 1 => by
    rw [show spF c (k + 1) = spF c k ||| 2 ^ (c + k) from rfl, Nat.testBit_or, Bool.or_eq_true, spF_bit c j k, Nat.testBit_two_pow, decide_eq_true_eq]
    omega
theorem spF_lt {c k : Nat} (h : c + k ≤ 8) : spF c k < 256 := bits_lt (fun j hj => by rw [spF_bit]; omega)
/-- what lies inside of some places and what outside -/
def ioF (J : Nat → Nat) (a b : Nat) : Nat → Nat × Nat
  | 0 => (0, 0)
  | k + 1 => if a ≤ k ∧ k ≤ b then ((ioF J a b k).1 ||| J k, (ioF J a b k).2) else ((ioF J a b k).1, (ioF J a b k).2 ||| J k)
theorem ioF_lt {J : Nat → Nat} (hJ : ∀ i, J i < 256) (a b : Nat) : ∀ k, (ioF J a b k).1 < 256 ∧ (ioF J a b k).2 < 256
  | 0 => ⟨show 0 < 256 by decide, show 0 < 256 by decide⟩
  | k + 1 => by
    obtain ⟨i1, i2⟩ := ioF_lt hJ a b k
    unfold ioF
    split
    · exact ⟨or_lt i1 (hJ k), i2⟩
    · exact ⟨i1, or_lt i2 (hJ k)⟩
theorem ioF_bit {J : Nat → Nat} {a b j : Nat} : ∀ k, ((ioF J a b k).1.testBit j = true ↔ ∃ i, i < k ∧ (a ≤ i ∧ i ≤ b) ∧ (J i).testBit j = true) ∧ ((ioF J a b k).2.testBit j = true ↔ ∃ i, i < k ∧ ¬ (a ≤ i ∧ i ≤ b) ∧ (J i).testBit j = true)
  | 0 => by
    show ((0 : Nat).testBit j = true ↔ _) ∧ ((0 : Nat).testBit j = true ↔ _)
    rw [Nat.zero_testBit]
    exact ⟨⟨fun c => absurd c (by decide), fun ⟨i, c, _⟩ => absurd c (Nat.not_lt_zero _)⟩, ⟨fun c => absurd c (by decide), fun ⟨i, c, _⟩ => absurd c (Nat.not_lt_zero _)⟩⟩
  | k + 1 => by
    obtain ⟨i1, i2⟩ := ioF_bit (J := J) (a := a) (b := b) (j := j) k
    unfold ioF
    split
    · next q =>
      simp only [Nat.testBit_or, Bool.or_eq_true, i1, i2]
      refine ⟨⟨fun c => ?_, fun ⟨i, c1, c2, c3⟩ => ?_⟩, ⟨fun ⟨i, c1, c2, c3⟩ => ⟨i, by omega, c2, c3⟩, fun ⟨i, c1, c2, c3⟩ => ?_⟩⟩
      · rcases c with ⟨i, c1, c2, c3⟩ | c
        · exact ⟨i, by omega, c2, c3⟩
        · exact ⟨k, by omega, q, c⟩
      · by_cases e : i = k
        · subst e; exact Or.inr c3
        · exact Or.inl ⟨i, by omega, c2, c3⟩
      · by_cases e : i = k
        · subst e; exact absurd q c2
        · exact ⟨i, by omega, c2, c3⟩
    · next q =>
      simp only [Nat.testBit_or, Bool.or_eq_true, i1, i2]
      refine ⟨⟨fun ⟨i, c1, c2, c3⟩ => ⟨i, by omega, c2, c3⟩, fun ⟨i, c1, c2, c3⟩ => ?_⟩, ⟨fun c => ?_, fun ⟨i, c1, c2, c3⟩ => ?_⟩⟩
      · by_cases e : i = k
        · subst e; exact absurd c2 q
        · exact ⟨i, by omega, c2, c3⟩
      · rcases c with ⟨i, c1, c2, c3⟩ | c
        · exact ⟨i, by omega, c2, c3⟩
        · exact ⟨k, by omega, q, c⟩
      · by_cases e : i = k
        · subst e; exact Or.inr c3
        · exact Or.inl ⟨i, by omega, c2, c3⟩
section M5
variable {d n : Nat} {h : Hp} {l0 l1 : Nat} {E J : Nat → Nat}
theorem m5_isPhrase {I O s : Nat} (hI : I < 256) (hO : O < 256) (hs : s < 256) : Ev d MX5_isPhrase 0 (lv_args 0 [.int (nI I), .int (nI O), .int (nI s)]) [] n h (.inl (some (.int (nI (bI (I ≠ 0 ∧ I &&& (255 - s) = 0 ∧ O &&& s = 0))))), n, h, 0, 0) := by
  have b1 : I &&& (255 - s) < 2 ^ 31 := Nat.lt_of_le_of_lt Nat.and_le_left (by omega)
  have b2 : O &&& s < 2 ^ 31 := Nat.lt_of_le_of_lt Nat.and_le_left (by omega)
  by_cases q1 : I = 0
  · rw [bI_f (fun c => c.1 q1)]
    refine ev_iload_n dX5_isPhrase_0 rfl ?_
    refine ev_if_eqT (tgt := 22) dX5_isPhrase_1 (by decide) (by first | assumption | exact z_eq (by omega) | decide) ?_
    refine ev_iconst dX5_isPhrase_22 ci0 ?_
    exact ev_zreturnE dX5_isPhrase_23 rfl (by first | exact Or.inl rfl | exact Or.inr rfl | assumption | exact z01 (bI_01 _) | exact z01 (by omega)) (by rfl)
  · by_cases q2 : I &&& (255 - s) = 0
    · by_cases q3 : O &&& s = 0
      · rw [bI_t ⟨q1, q2, q3⟩]
        refine ev_iload_n dX5_isPhrase_0 rfl ?_
        refine ev_if_eqF dX5_isPhrase_1 22 (by decide) (by first | assumption | exact nI_ne0 (by omega) (by omega) | decide) ?_
        refine ev_iload_n dX5_isPhrase_4 rfl ?_
        refine ev_iload_n dX5_isPhrase_5 rfl ?_
        refine ev_iconst dX5_isPhrase_6 cm1 ?_
        refine ev_ixor dX5_isPhrase_7 ?_
        first | refine ev_iandN dX5_isPhrase_8 ?_ | refine ev_iand dX5_isPhrase_8 ?_
        refine ev_top (congrArg Value.int (n_notand hI hs)) ?_
        refine ev_if_neF dX5_isPhrase_9 22 (by decide) (by first | assumption | exact z_eq (by omega) | decide) ?_
        refine ev_iload_n dX5_isPhrase_12 rfl ?_
        refine ev_iload_n dX5_isPhrase_13 rfl ?_
        first | refine ev_iandN dX5_isPhrase_14 ?_ | refine ev_iand dX5_isPhrase_14 ?_
        refine ev_if_neF dX5_isPhrase_15 22 (by decide) (by first | assumption | exact z_eq (by omega) | decide) ?_
        refine ev_iconst dX5_isPhrase_18 ci1 ?_
        refine ev_goto (tgt := 23) dX5_isPhrase_19 (by decide) ?_
        exact ev_zreturnE dX5_isPhrase_23 rfl (by first | exact Or.inl rfl | exact Or.inr rfl | assumption | exact z01 (bI_01 _) | exact z01 (by omega)) (by rfl)
      · rw [bI_f (fun c => q3 c.2.2)]
        refine ev_iload_n dX5_isPhrase_0 rfl ?_
        refine ev_if_eqF dX5_isPhrase_1 22 (by decide) (by first | assumption | exact nI_ne0 (by omega) (by omega) | decide) ?_
        refine ev_iload_n dX5_isPhrase_4 rfl ?_
        refine ev_iload_n dX5_isPhrase_5 rfl ?_
        refine ev_iconst dX5_isPhrase_6 cm1 ?_
        refine ev_ixor dX5_isPhrase_7 ?_
        first | refine ev_iandN dX5_isPhrase_8 ?_ | refine ev_iand dX5_isPhrase_8 ?_
        refine ev_top (congrArg Value.int (n_notand hI hs)) ?_
        refine ev_if_neF dX5_isPhrase_9 22 (by decide) (by first | assumption | exact z_eq (by omega) | decide) ?_
        refine ev_iload_n dX5_isPhrase_12 rfl ?_
        refine ev_iload_n dX5_isPhrase_13 rfl ?_
        first | refine ev_iandN dX5_isPhrase_14 ?_ | refine ev_iand dX5_isPhrase_14 ?_
        refine ev_if_neT (tgt := 22) dX5_isPhrase_15 (by decide) (by first | assumption | exact nI_ne0 (by omega) (by omega) | decide) ?_
        refine ev_iconst dX5_isPhrase_22 ci0 ?_
        exact ev_zreturnE dX5_isPhrase_23 rfl (by first | exact Or.inl rfl | exact Or.inr rfl | assumption | exact z01 (bI_01 _) | exact z01 (by omega)) (by rfl)
    · rw [bI_f (fun c => q2 c.2.1)]
      refine ev_iload_n dX5_isPhrase_0 rfl ?_
      refine ev_if_eqF dX5_isPhrase_1 22 (by decide) (by first | assumption | exact nI_ne0 (by omega) (by omega) | decide) ?_
      refine ev_iload_n dX5_isPhrase_4 rfl ?_
      refine ev_iload_n dX5_isPhrase_5 rfl ?_
      refine ev_iconst dX5_isPhrase_6 cm1 ?_
      refine ev_ixor dX5_isPhrase_7 ?_
      first | refine ev_iandN dX5_isPhrase_8 ?_ | refine ev_iand dX5_isPhrase_8 ?_
      refine ev_top (congrArg Value.int (n_notand hI hs)) ?_
      refine ev_if_neT (tgt := 22) dX5_isPhrase_9 (by decide) (by first | assumption | exact nI_ne0 (by omega) (by omega) | decide) ?_
      refine ev_iconst dX5_isPhrase_22 ci0 ?_
      exact ev_zreturnE dX5_isPhrase_23 rfl (by first | exact Or.inl rfl | exact Or.inr rfl | assumption | exact z01 (bI_01 _) | exact z01 (by omega)) (by rfl)
theorem lp_sp {c e : Nat} (he : e < 8) (hc : c ≤ e) : ∀ k i, i + k = e + 1 - c → Ev (d + 1) MX5_spanBits 4 [(0, .int (nI c)), (1, .int (nI e)), (2, .int (nI (spF c i))), (3, .int (nI (c + i)))] [] n h (.inl (some (.int (nI (spF c (e + 1 - c))))), n, h, 0, 0) := by
  intro k
  induction k with
  | zero =>
    intro i hi
    have q : i = e + 1 - c := by omega
    subst q
    refine ev_iload_n dX5_spanBits_4 rfl ?_
    refine ev_iload_n dX5_spanBits_5 rfl ?_
    refine ev_icmp_gtT (tgt := 22) dX5_spanBits_6 (by decide) (by first | assumption | exact nI_lt (by omega) (by omega) | decide) ?_
    refine ev_iload_n dX5_spanBits_22 rfl ?_
    exact ev_ireturnE dX5_spanBits_23 rfl (by rfl)
  | succ k ih =>
    intro i hi
    have ih := ih (i + 1) (by omega)
    refine ev_iload_n dX5_spanBits_4 rfl ?_
    refine ev_iload_n dX5_spanBits_5 rfl ?_
    refine ev_icmp_gtF dX5_spanBits_6 22 (by decide) (by first | assumption | exact nI_nlt (by omega) (by omega) | decide) ?_
    refine ev_iload_n dX5_spanBits_9 rfl ?_
    refine ev_iload_n dX5_spanBits_10 rfl ?_
    refine ev_Z1 dX5_spanBits_11 st_RX5_53 na_X0_bitOf (Nat.le_of_ble_eq_true rfl) (Nat.le_of_ble_eq_true rfl) (m0_bitOfN (show c + i < 8 by omega)) ?_
    first | refine ev_iorN dX5_spanBits_14 ?_ | refine ev_ior dX5_spanBits_14 ?_
    refine ev_istore_n dX5_spanBits_15 (Nat.le_of_ble_eq_true rfl) ?_
    refine ev_iincN (b := 1) dX5_spanBits_16 rfl (Nat.le_of_ble_eq_true rfl) ?_
    refine ev_goto (tgt := 4) dX5_spanBits_19 (by decide) ?_
    refine ev_sub ?_ (ih)
    repeat (first | exact trivial | refine ⟨rfl, ?_⟩)
theorem m5_spanBits {c e : Nat} (he : e < 8) (hc : c ≤ e) : Ev (d + 1) MX5_spanBits 0 (lv_args 0 [.int (nI c), .int (nI e)]) [] n h (.inl (some (.int (nI (spF c (e + 1 - c))))), n, h, 0, 0) := by
  refine ev_iconst dX5_spanBits_0 ci0 ?_
  refine ev_istore_n dX5_spanBits_1 (Nat.le_of_ble_eq_true rfl) ?_
  refine ev_iload_n dX5_spanBits_2 rfl ?_
  refine ev_istore_n dX5_spanBits_3 (Nat.le_of_ble_eq_true rfl) ?_
  refine ev_sub ?_ (lp_sp he hc (e + 1 - c) 0 (by omega))
  repeat (first | exact trivial | refine ⟨rfl, ?_⟩)
/-- one found -/
def met (wt : Int32) (a b c e : Nat) (s : Nat × (Nat → Nat)) : Nat × (Nat → Nat) := (s.1 + 1, if nI s.1 = wt then va_up (va_up (va_up (va_up s.2 0 a) 1 b) 2 c) 3 e else s.2)
abbrev Sr (h : Hp) (s : Nat × (Nat → Nat)) : Hp := va_up (va_up h 22 (.inr (5, [.ref 23, .int (nI s.1)]))) 23 (aI 4 s.2)
theorem Sr_22 {s : Nat × (Nat → Nat)} : Sr h s 22 = .inr (5, [.ref 23, .int (nI s.1)]) := (up_n (by omega)).trans up_s
theorem Sr_23 {s : Nat × (Nat → Nat)} : Sr h s 23 = aI 4 s.2 := up_s
theorem Sr_u1 {s : Nat × (Nat → Nat)} {e : va_E} : va_up (Sr h s) 23 e = va_up (va_up h 22 (.inr (5, [.ref 23, .int (nI s.1)]))) 23 e := up_u
theorem Sr_u2 {x y e : va_E} : va_up (va_up (va_up h 22 x) 23 y) 22 e = va_up (va_up h 22 e) 23 y := by
  rw [up_c (show (23 : Nat) ≠ 22 by omega), up_u]
theorem m5_meet {wt : Int32} {a b c e : Nat} {s : Nat × (Nat → Nat)} : Ev d MX5_meet 0 (lv_args 0 [.ref 22, .int (nI a), .int (nI b), .int (nI c), .int (nI e), .int wt]) [] n (Sr h s) (.inl none, n, Sr h (met wt a b c e s), 0, 0) := by
  have g22 : Sr h s 22 = .inr (5, [.ref 23, .int (nI s.1)]) := Sr_22
  have g23 : Sr h s 23 = aI 4 s.2 := Sr_23
  by_cases q : nI s.1 = wt
  · have e1 : met wt a b c e s = (s.1 + 1, va_up (va_up (va_up (va_up s.2 0 a) 1 b) 2 c) 3 e) := by unfold met; rw [if_pos q]
    rw [e1]
    first | refine ev_aload_n dX5_meet_0 rfl ?_ | refine ev_aload_nN dX5_meet_0 rfl ?_
    refine ev_getfield dX5_meet_1 fl_RX5_15 (by repeat (first | assumption | exact up_s | refine (up_n (by omega)).trans ?_)) rfl ?_
    refine ev_iload dX5_meet_4 rfl ?_
    refine ev_icmp_neF dX5_meet_6 47 (by decide) q ?_
    first | refine ev_aload_n dX5_meet_9 rfl ?_ | refine ev_aload_nN dX5_meet_9 rfl ?_
    refine ev_getfield dX5_meet_10 fl_RX5_9 (by repeat (first | assumption | exact up_s | refine (up_n (by omega)).trans ?_)) rfl ?_
    refine ev_alen dX5_meet_13 (by repeat (first | assumption | exact up_s | refine (up_n (by omega)).trans ?_)) (by decide) ?_
    refine ev_iconst dX5_meet_14 ci4 ?_
    refine ev_icmp_neF dX5_meet_15 47 (by decide) (by first | assumption | exact n_eq (by omega) | decide) ?_
    first | refine ev_aload_n dX5_meet_18 rfl ?_ | refine ev_aload_nN dX5_meet_18 rfl ?_
    refine ev_getfield dX5_meet_19 fl_RX5_9 (by repeat (first | assumption | exact up_s | refine (up_n (by omega)).trans ?_)) rfl ?_
    refine ev_iconst dX5_meet_22 ci0 ?_
    refine ev_iload_n dX5_meet_23 rfl ?_
    refine ev_iast dX5_meet_24 (by omega) (by repeat (first | assumption | exact up_s | refine (up_n (by omega)).trans ?_)) _ _ rfl rfl (by omega) (by omega) ?_
    first | refine ev_aload_n dX5_meet_25 rfl ?_ | refine ev_aload_nN dX5_meet_25 rfl ?_
    refine ev_getfield dX5_meet_26 fl_RX5_9 (by repeat (first | assumption | exact up_s | refine (up_n (by omega)).trans ?_)) rfl ?_
    refine ev_iconst dX5_meet_29 ci1 ?_
    refine ev_iload_n dX5_meet_30 rfl ?_
    refine ev_iast dX5_meet_31 (by omega) (by repeat (first | assumption | exact up_s | refine (up_n (by omega)).trans ?_)) _ _ rfl rfl (by omega) (by omega) ?_
    first | refine ev_aload_n dX5_meet_32 rfl ?_ | refine ev_aload_nN dX5_meet_32 rfl ?_
    refine ev_getfield dX5_meet_33 fl_RX5_9 (by repeat (first | assumption | exact up_s | refine (up_n (by omega)).trans ?_)) rfl ?_
    refine ev_iconst dX5_meet_36 ci2 ?_
    refine ev_iload_n dX5_meet_37 rfl ?_
    refine ev_iast dX5_meet_38 (by omega) (by repeat (first | assumption | exact up_s | refine (up_n (by omega)).trans ?_)) _ _ rfl rfl (by omega) (by omega) ?_
    first | refine ev_aload_n dX5_meet_39 rfl ?_ | refine ev_aload_nN dX5_meet_39 rfl ?_
    refine ev_getfield dX5_meet_40 fl_RX5_9 (by repeat (first | assumption | exact up_s | refine (up_n (by omega)).trans ?_)) rfl ?_
    refine ev_iconst dX5_meet_43 ci3 ?_
    refine ev_iload dX5_meet_44 rfl ?_
    refine ev_iast dX5_meet_46 (by omega) (by repeat (first | assumption | exact up_s | refine (up_n (by omega)).trans ?_)) _ _ rfl rfl (by omega) (by omega) ?_
    first | refine ev_aload_n dX5_meet_47 rfl ?_ | refine ev_aload_nN dX5_meet_47 rfl ?_
    refine ev_dup dX5_meet_48 rfl ?_
    refine ev_getfield dX5_meet_49 fl_RX5_15 (by repeat (first | assumption | exact up_s | refine (up_n (by omega)).trans ?_)) rfl ?_
    refine ev_iconst dX5_meet_52 ci1 ?_
    first | refine ev_iaddN dX5_meet_53 ?_ | refine ev_iadd dX5_meet_53 ?_
    refine ev_putfield dX5_meet_54 fl_RX5_15 (fit_5_1 _) (fun q => absurd q (by decide)) (by repeat (first | assumption | exact up_s | refine (up_n (by omega)).trans ?_)) (Nat.le_of_ble_eq_true rfl) ?_
    refine ev_heap (show _ = Sr h (s.1 + 1, va_up (va_up (va_up (va_up s.2 0 a) 1 b) 2 c) 3 e) from by rw [Sr_u1, up_u, up_u, up_u, Sr_u2]; rfl) ?_
    exact ev_vreturnE dX5_meet_57 rfl (by rfl)
  · have e1 : met wt a b c e s = (s.1 + 1, s.2) := by unfold met; rw [if_neg q]
    rw [e1]
    first | refine ev_aload_n dX5_meet_0 rfl ?_ | refine ev_aload_nN dX5_meet_0 rfl ?_
    refine ev_getfield dX5_meet_1 fl_RX5_15 (by repeat (first | assumption | exact up_s | refine (up_n (by omega)).trans ?_)) rfl ?_
    refine ev_iload dX5_meet_4 rfl ?_
    refine ev_icmp_neT (tgt := 47) dX5_meet_6 (by decide) q ?_
    first | refine ev_aload_n dX5_meet_47 rfl ?_ | refine ev_aload_nN dX5_meet_47 rfl ?_
    refine ev_dup dX5_meet_48 rfl ?_
    refine ev_getfield dX5_meet_49 fl_RX5_15 (by repeat (first | assumption | exact up_s | refine (up_n (by omega)).trans ?_)) rfl ?_
    refine ev_iconst dX5_meet_52 ci1 ?_
    first | refine ev_iaddN dX5_meet_53 ?_ | refine ev_iadd dX5_meet_53 ?_
    refine ev_putfield dX5_meet_54 fl_RX5_15 (fit_5_1 _) (fun q => absurd q (by decide)) (by repeat (first | assumption | exact up_s | refine (up_n (by omega)).trans ?_)) (Nat.le_of_ble_eq_true rfl) ?_
    refine ev_heap Sr_u2 ?_
    exact ev_vreturnE dX5_meet_57 rfl (by rfl)
end M5
