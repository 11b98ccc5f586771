/-! the corpus -/
def pp (i : Nat) : Nat := if i = 0 then 26 else 30 + 5 * i
theorem pp_ge (i : Nat) : 26 ≤ pp i := by unfold pp; split <;> omega
theorem pp_gap (i : Nat) : pp i = 26 ∨ 35 ≤ pp i := by unfold pp; split <;> omega
theorem pp_inj {i j : Nat} (h : i ≠ j) : pp i + 5 ≤ pp j ∨ pp j + 5 ≤ pp i := by unfold pp; split <;> split <;> omega
abbrev aQ (n : Nat) (f : Nat → Option Nat) : va_E := .inl (3, n, .inr (.inr (.inr (.inr f))))
/-- what the corpus holds: made pairs, t: there or not, l, w: lengths and words by side and pair -/
def Cp (h : Hp) (made size : Nat) (t : Nat → Nat) (l : Nat → Nat → Nat) (w : Nat → Nat → Nat → Nat) : Prop :=
  h 3 = .inr (1, [.ref 4, .int (nI made), .int (nI size)]) ∧ h 4 = aQ 20 (fun i => if i < made then some (pp i) else none) ∧ made ≤ 20 ∧ size ≤ made ∧ (∀ i, t i = 0 ∨ t i = 1) ∧ ∀ i, i < made → Pr h (pp i) (t i) (l 0 i) (w 0 i) (l 1 i) (w 1 i)
theorem Sn_up {h : Hp} {a len k : Nat} {w : Nat → Nat} {e : va_E} (S : Sn h a len w) (h1 : a ≠ k) (h2 : a + 1 ≠ k) : Sn (va_up h k e) a len w :=
  ⟨(up_n h1).trans S.1, (up_n h2).trans S.2.1, S.2.2⟩
theorem Pr_up {h : Hp} {p t l0 l1 k : Nat} {w0 w1 : Nat → Nat} {e : va_E} (S : Pr h p t l0 w0 l1 w1) (hk : k < p ∨ p + 4 < k) : Pr (va_up h k e) p t l0 w0 l1 w1 :=
  ⟨(up_n (by omega)).trans S.1, Sn_up S.2.1 (by omega) (by omega), Sn_up S.2.2 (by omega) (by omega)⟩
theorem Cp_up {h : Hp} {made size k : Nat} {t : Nat → Nat} {l : Nat → Nat → Nat} {w : Nat → Nat → Nat → Nat} {e : va_E} (S : Cp h made size t l w) (hk : (5 ≤ k ∧ k < 26) ∨ (31 ≤ k ∧ k < 35)) : Cp (va_up h k e) made size t l w :=
  ⟨(up_n (by omega)).trans S.1, (up_n (by omega)).trans S.2.1, S.2.2.1, S.2.2.2.1, S.2.2.2.2.1, fun i hi => Pr_up (S.2.2.2.2.2 i hi) (by have := pp_gap i; omega)⟩
section M1
variable {d n made size : Nat} {h : Hp} {t : Nat → Nat} {l : Nat → Nat → Nat} {w : Nat → Nat → Nat → Nat}
theorem m1_made (S : Cp h made size t l w) : Ev d MX1_made 0 (lv_args 0 [.ref 3]) [] n h (.inl (some (.int (nI made))), n, h, 0, 0) := by
  obtain ⟨s1, s2, s3, s4, s5, s6⟩ := S
  first | refine ev_aload_n dX1_made_0 rfl ?_ | refine ev_aload_nN dX1_made_0 rfl ?_
  refine ev_getfield dX1_made_1 fl_RX1_17 (by repeat (first | assumption | exact up_s | refine (up_n (by omega)).trans ?_)) rfl ?_
  exact ev_ireturnE dX1_made_4 rfl (by rfl)
theorem m1_size (S : Cp h made size t l w) : Ev d MX1_size 0 (lv_args 0 [.ref 3]) [] n h (.inl (some (.int (nI size))), n, h, 0, 0) := by
  obtain ⟨s1, s2, s3, s4, s5, s6⟩ := S
  first | refine ev_aload_n dX1_size_0 rfl ?_ | refine ev_aload_nN dX1_size_0 rfl ?_
  refine ev_getfield dX1_size_1 fl_RX1_21 (by repeat (first | assumption | exact up_s | refine (up_n (by omega)).trans ?_)) rfl ?_
  exact ev_ireturnE dX1_size_4 rfl (by rfl)
theorem m1_isFull (S : Cp h made size t l w) : Ev d MX1_isFull 0 (lv_args 0 [.ref 3]) [] n h (.inl (some (.int (nI (bI (20 ≤ made))))), n, h, 0, 0) := by
  obtain ⟨s1, s2, s3, s4, s5, s6⟩ := S
  by_cases c : made < 20
  · first | refine ev_aload_n dX1_isFull_0 rfl ?_ | refine ev_aload_nN dX1_isFull_0 rfl ?_
    refine ev_getfield dX1_isFull_1 fl_RX1_17 (by repeat (first | assumption | exact up_s | refine (up_n (by omega)).trans ?_)) rfl ?_
    refine ev_bipush dX1_isFull_4 bp20 ?_
    refine ev_icmp_ltT (tgt := 13) dX1_isFull_6 (by decide) (by first | assumption | exact nI_lt (by omega) (by omega) | decide) ?_
    refine ev_iconst dX1_isFull_13 ci0 ?_
    exact ev_zreturnE dX1_isFull_14 rfl (by first | exact Or.inl rfl | exact Or.inr rfl | assumption | exact z01 (bI_01 _) | exact z01 (by omega)) (by rw [bI_f (by omega)])
  · first | refine ev_aload_n dX1_isFull_0 rfl ?_ | refine ev_aload_nN dX1_isFull_0 rfl ?_
    refine ev_getfield dX1_isFull_1 fl_RX1_17 (by repeat (first | assumption | exact up_s | refine (up_n (by omega)).trans ?_)) rfl ?_
    refine ev_bipush dX1_isFull_4 bp20 ?_
    refine ev_icmp_ltF dX1_isFull_6 13 (by decide) (by first | assumption | exact nI_nlt (by omega) (by omega) | decide) ?_
    refine ev_iconst dX1_isFull_9 ci1 ?_
    refine ev_goto (tgt := 14) dX1_isFull_10 (by decide) ?_
    exact ev_zreturnE dX1_isFull_14 rfl (by first | exact Or.inl rfl | exact Or.inr rfl | assumption | exact z01 (bI_01 _) | exact z01 (by omega)) (by rw [bI_t (by omega)])
theorem m1_findT (S : Cp h made size t l w) {i : Nat} (hi : i < made) (ht : t i = 1) : Ev (d + 1) MX1_find 0 (lv_args 0 [.ref 3, .int (nI i)]) [] n h (.inl (some (.ref (pp i))), n, h, 0, 0) := by
  obtain ⟨s1, s2, s3, s4, s5, s6⟩ := S
  have hp := s6 i hi
  rw [ht] at hp
  obtain ⟨p1, p2, p3⟩ := id hp
  refine ev_iload_n dX1_find_0 rfl ?_
  refine ev_if_ltF dX1_find_1 21 (by decide) (by first | assumption | exact nI_pos (by omega) | decide) ?_
  refine ev_iload_n dX1_find_4 rfl ?_
  first | refine ev_aload_n dX1_find_5 rfl ?_ | refine ev_aload_nN dX1_find_5 rfl ?_
  refine ev_getfield dX1_find_6 fl_RX1_17 (by repeat (first | assumption | exact up_s | refine (up_n (by omega)).trans ?_)) rfl ?_
  refine ev_icmp_geF dX1_find_9 21 (by decide) (by first | assumption | exact nI_ge (by omega) (by omega) | decide) ?_
  refine ev_iload_n dX1_find_12 rfl ?_
  first | refine ev_aload_n dX1_find_13 rfl ?_ | refine ev_aload_nN dX1_find_13 rfl ?_
  refine ev_getfield dX1_find_14 fl_RX1_11 (by repeat (first | assumption | exact up_s | refine (up_n (by omega)).trans ?_)) rfl ?_
  refine ev_alen dX1_find_17 (by repeat (first | assumption | exact up_s | refine (up_n (by omega)).trans ?_)) (by decide) ?_
  refine ev_icmp_ltT (tgt := 23) dX1_find_18 (by decide) (by first | assumption | exact nI_lt (by omega) (by omega) | decide) ?_
  first | refine ev_aload_n dX1_find_23 rfl ?_ | refine ev_aload_nN dX1_find_23 rfl ?_
  refine ev_getfield dX1_find_24 fl_RX1_11 (by repeat (first | assumption | exact up_s | refine (up_n (by omega)).trans ?_)) rfl ?_
  refine ev_iload_n dX1_find_27 rfl ?_
  refine ev_aald dX1_find_28 (by repeat (first | assumption | exact up_s | refine (up_n (by omega)).trans ?_)) _ rfl (by omega) (by omega) ?_
  refine ev_top (v2 := .ref (pp i)) (by show va_rf (if i < made then some (pp i) else none) = _; rw [if_pos hi]; rfl) ?_
  first | refine ev_astore_n dX1_find_29 (Nat.le_of_ble_eq_true rfl) ?_ | refine ev_astore_nN dX1_find_29 (Nat.le_of_ble_eq_true rfl) ?_
  first | refine ev_aload_n dX1_find_30 rfl ?_ | refine ev_aload_nN dX1_find_30 rfl ?_
  refine ev_ifnull dX1_find_31 ?_
  first | refine ev_aload_n dX1_find_34 rfl ?_ | refine ev_aload_nN dX1_find_34 rfl ?_
  refine ev_V0 dX1_find_35 st_RX1_28 na_X7_isThere (Nat.le_of_ble_eq_true rfl) (Nat.le_of_ble_eq_true rfl) (by repeat (first | assumption | exact up_s | refine (up_n (by omega)).trans ?_)) rfl (m7_isThere hp (by omega)) ?_
  refine ev_if_eqF dX1_find_38 45 (by decide) (by first | assumption | exact nI_ne0 (by omega) (by omega) | decide) ?_
  first | refine ev_aload_n dX1_find_41 rfl ?_ | refine ev_aload_nN dX1_find_41 rfl ?_
  refine ev_goto (tgt := 46) dX1_find_42 (by decide) ?_
  exact ev_areturnE dX1_find_46 rfl (by first | exact Or.inl rfl | exact Or.inr ⟨_, rfl⟩) (by rfl)
theorem m1_findF (S : Cp h made size t l w) {x : Int32} (hx : x < 0 ∨ (∃ i, made ≤ i ∧ i < 2 ^ 31 ∧ x = nI i) ∨ ∃ i, i < made ∧ t i = 0 ∧ x = nI i) : Ev (d + 1) MX1_find 0 (lv_args 0 [.ref 3, .int x]) [] n h (.inl (some .null), n, h, 0, 0) := by
  obtain ⟨s1, s2, s3, s4, s5, s6⟩ := S
  rcases hx with hx | ⟨i, hi, h31, rfl⟩ | ⟨i, hi, ht, rfl⟩
  · refine ev_iload_n dX1_find_0 rfl ?_
    refine ev_if_ltT (tgt := 21) dX1_find_1 (by decide) (by first | assumption | decide) ?_
    refine ev_null dX1_find_21 ?_
    exact ev_areturnE dX1_find_22 rfl (by first | exact Or.inl rfl | exact Or.inr ⟨_, rfl⟩) (by rfl)
  · refine ev_iload_n dX1_find_0 rfl ?_
    refine ev_if_ltF dX1_find_1 21 (by decide) (by first | assumption | exact nI_pos (by omega) | decide) ?_
    refine ev_iload_n dX1_find_4 rfl ?_
    first | refine ev_aload_n dX1_find_5 rfl ?_ | refine ev_aload_nN dX1_find_5 rfl ?_
    refine ev_getfield dX1_find_6 fl_RX1_17 (by repeat (first | assumption | exact up_s | refine (up_n (by omega)).trans ?_)) rfl ?_
    refine ev_icmp_geT (tgt := 21) dX1_find_9 (by decide) (by first | assumption | exact nI_le (by omega) (by omega) | decide) ?_
    refine ev_null dX1_find_21 ?_
    exact ev_areturnE dX1_find_22 rfl (by first | exact Or.inl rfl | exact Or.inr ⟨_, rfl⟩) (by rfl)
  · have hp := s6 i hi
    rw [ht] at hp
    obtain ⟨p1, p2, p3⟩ := id hp
    refine ev_iload_n dX1_find_0 rfl ?_
    refine ev_if_ltF dX1_find_1 21 (by decide) (by first | assumption | exact nI_pos (by omega) | decide) ?_
    refine ev_iload_n dX1_find_4 rfl ?_
    first | refine ev_aload_n dX1_find_5 rfl ?_ | refine ev_aload_nN dX1_find_5 rfl ?_
    refine ev_getfield dX1_find_6 fl_RX1_17 (by repeat (first | assumption | exact up_s | refine (up_n (by omega)).trans ?_)) rfl ?_
    refine ev_icmp_geF dX1_find_9 21 (by decide) (by first | assumption | exact nI_ge (by omega) (by omega) | decide) ?_
    refine ev_iload_n dX1_find_12 rfl ?_
    first | refine ev_aload_n dX1_find_13 rfl ?_ | refine ev_aload_nN dX1_find_13 rfl ?_
    refine ev_getfield dX1_find_14 fl_RX1_11 (by repeat (first | assumption | exact up_s | refine (up_n (by omega)).trans ?_)) rfl ?_
    refine ev_alen dX1_find_17 (by repeat (first | assumption | exact up_s | refine (up_n (by omega)).trans ?_)) (by decide) ?_
    refine ev_icmp_ltT (tgt := 23) dX1_find_18 (by decide) (by first | assumption | exact nI_lt (by omega) (by omega) | decide) ?_
    first | refine ev_aload_n dX1_find_23 rfl ?_ | refine ev_aload_nN dX1_find_23 rfl ?_
    refine ev_getfield dX1_find_24 fl_RX1_11 (by repeat (first | assumption | exact up_s | refine (up_n (by omega)).trans ?_)) rfl ?_
    refine ev_iload_n dX1_find_27 rfl ?_
    refine ev_aald dX1_find_28 (by repeat (first | assumption | exact up_s | refine (up_n (by omega)).trans ?_)) _ rfl (by omega) (by omega) ?_
    refine ev_top (v2 := .ref (pp i)) (by show va_rf (if i < made then some (pp i) else none) = _; rw [if_pos hi]; rfl) ?_
    first | refine ev_astore_n dX1_find_29 (Nat.le_of_ble_eq_true rfl) ?_ | refine ev_astore_nN dX1_find_29 (Nat.le_of_ble_eq_true rfl) ?_
    first | refine ev_aload_n dX1_find_30 rfl ?_ | refine ev_aload_nN dX1_find_30 rfl ?_
    refine ev_ifnull dX1_find_31 ?_
    first | refine ev_aload_n dX1_find_34 rfl ?_ | refine ev_aload_nN dX1_find_34 rfl ?_
    refine ev_V0 dX1_find_35 st_RX1_28 na_X7_isThere (Nat.le_of_ble_eq_true rfl) (Nat.le_of_ble_eq_true rfl) (by repeat (first | assumption | exact up_s | refine (up_n (by omega)).trans ?_)) rfl (m7_isThere hp (by omega)) ?_
    refine ev_if_eqT (tgt := 45) dX1_find_38 (by decide) (by first | assumption | exact z_eq (by omega) | decide) ?_
    refine ev_null dX1_find_45 ?_
    exact ev_areturnE dX1_find_46 rfl (by first | exact Or.inl rfl | exact Or.inr ⟨_, rfl⟩) (by rfl)
theorem m1_remove (S : Cp h made size t l w) {i : Nat} (hi : i < made) (ht : t i = 1) (hs : 0 < size) : Ev (d + 1) MX1_remove 0 (lv_args 0 [.ref 3, .ref (pp i)]) [] n h (.inl none, n, va_up (va_up h (pp i) (.inr (7, [.ref (pp i + 1), .ref (pp i + 3), .int (nI 0)]))) 3 (.inr (1, [.ref 4, .int (nI made), .int (nI (size - 1))])), 0, 0) := by
  obtain ⟨s1, s2, s3, s4, s5, s6⟩ := S
  have hp := s6 i hi
  rw [ht] at hp
  have hg := pp_ge i
  obtain ⟨p1, p2, p3⟩ := id hp
  first | refine ev_aload_n dX1_remove_0 rfl ?_ | refine ev_aload_nN dX1_remove_0 rfl ?_
  refine ev_ifnull dX1_remove_1 ?_
  first | refine ev_aload_n dX1_remove_4 rfl ?_ | refine ev_aload_nN dX1_remove_4 rfl ?_
  refine ev_V0 dX1_remove_5 st_RX1_28 na_X7_isThere (Nat.le_of_ble_eq_true rfl) (Nat.le_of_ble_eq_true rfl) (by repeat (first | assumption | exact up_s | refine (up_n (by omega)).trans ?_)) rfl (m7_isThere hp (by omega)) ?_
  refine ev_if_eqF dX1_remove_8 26 (by decide) (by first | assumption | exact nI_ne0 (by omega) (by omega) | decide) ?_
  first | refine ev_aload_n dX1_remove_11 rfl ?_ | refine ev_aload_nN dX1_remove_11 rfl ?_
  refine ev_iconst dX1_remove_12 ci0 ?_
  refine ev_V1v dX1_remove_13 st_RX1_24 na_X7_setThere (Nat.le_of_ble_eq_true rfl) (Nat.le_of_ble_eq_true rfl) (by repeat (first | assumption | exact up_s | refine (up_n (by omega)).trans ?_)) rfl (m7_setThere hp 0 (by omega)) ?_
  first | refine ev_aload_n dX1_remove_16 rfl ?_ | refine ev_aload_nN dX1_remove_16 rfl ?_
  refine ev_dup dX1_remove_17 rfl ?_
  refine ev_getfield dX1_remove_18 fl_RX1_21 (by repeat (first | assumption | exact up_s | refine (up_n (by omega)).trans ?_)) rfl ?_
  refine ev_iconst dX1_remove_21 ci1 ?_
  first | refine ev_isubN dX1_remove_22 (by omega) ?_ | refine ev_isub dX1_remove_22 ?_
  refine ev_putfield dX1_remove_23 fl_RX1_21 (fit_1_2 _) (fun q => absurd q (by decide)) (by repeat (first | assumption | exact up_s | refine (up_n (by omega)).trans ?_)) (Nat.le_of_ble_eq_true rfl) ?_
  exact ev_vreturnE dX1_remove_26 rfl (by rfl)
theorem m1_add (S : Cp h made size t l w) (hm : made < 20) {l0 l1 : Nat} {w0 w1 : Nat → Nat} (hp : Pr h (pp made) 0 l0 w0 l1 w1) : Ev (d + 1) MX1_add 0 (lv_args 0 [.ref 3, .ref (pp made)]) [] n h (.inl (some (.int (nI made))), n, va_up (va_up (va_up h 4 (aQ 20 (va_up (fun i => if i < made then some (pp i) else none) made (some (pp made))))) (pp made) (.inr (7, [.ref (pp made + 1), .ref (pp made + 3), .int (nI 1)]))) 3 (.inr (1, [.ref 4, .int (nI (made + 1)), .int (nI (size + 1))])), 0, 0) := by
  obtain ⟨s1, s2, s3, s4, s5, s6⟩ := S
  have hg := pp_ge made
  obtain ⟨p1, p2, p3⟩ := id hp
  first | refine ev_aload_n dX1_add_0 rfl ?_ | refine ev_aload_nN dX1_add_0 rfl ?_
  refine ev_ifnull dX1_add_1 ?_
  first | refine ev_aload_n dX1_add_4 rfl ?_ | refine ev_aload_nN dX1_add_4 rfl ?_
  refine ev_getfield dX1_add_5 fl_RX1_17 (by repeat (first | assumption | exact up_s | refine (up_n (by omega)).trans ?_)) rfl ?_
  refine ev_if_ltF dX1_add_8 23 (by decide) (by first | assumption | exact nI_pos (by omega) | decide) ?_
  first | refine ev_aload_n dX1_add_11 rfl ?_ | refine ev_aload_nN dX1_add_11 rfl ?_
  refine ev_getfield dX1_add_12 fl_RX1_17 (by repeat (first | assumption | exact up_s | refine (up_n (by omega)).trans ?_)) rfl ?_
  first | refine ev_aload_n dX1_add_15 rfl ?_ | refine ev_aload_nN dX1_add_15 rfl ?_
  refine ev_getfield dX1_add_16 fl_RX1_11 (by repeat (first | assumption | exact up_s | refine (up_n (by omega)).trans ?_)) rfl ?_
  refine ev_alen dX1_add_19 (by repeat (first | assumption | exact up_s | refine (up_n (by omega)).trans ?_)) (by decide) ?_
  refine ev_icmp_ltT (tgt := 25) dX1_add_20 (by decide) (by first | assumption | exact nI_lt (by omega) (by omega) | decide) ?_
  first | refine ev_aload_n dX1_add_25 rfl ?_ | refine ev_aload_nN dX1_add_25 rfl ?_
  refine ev_getfield dX1_add_26 fl_RX1_17 (by repeat (first | assumption | exact up_s | refine (up_n (by omega)).trans ?_)) rfl ?_
  refine ev_istore_n dX1_add_29 (Nat.le_of_ble_eq_true rfl) ?_
  first | refine ev_aload_n dX1_add_30 rfl ?_ | refine ev_aload_nN dX1_add_30 rfl ?_
  refine ev_getfield dX1_add_31 fl_RX1_11 (by repeat (first | assumption | exact up_s | refine (up_n (by omega)).trans ?_)) rfl ?_
  refine ev_iload_n dX1_add_34 rfl ?_
  first | refine ev_aload_n dX1_add_35 rfl ?_ | refine ev_aload_nN dX1_add_35 rfl ?_
  refine ev_aastore dX1_add_36 (by omega) s2 p1 (vp_in_nI (by omega) (by omega)) ?_
  first | refine ev_aload_n dX1_add_37 rfl ?_ | refine ev_aload_nN dX1_add_37 rfl ?_
  refine ev_iconst dX1_add_38 ci1 ?_
  refine ev_heap (h2 := va_up h 4 (aQ 20 (va_up (fun i => if i < made then some (pp i) else none) made (some (pp made))))) (by rw [nI_clamp (by omega)]) ?_
  refine ev_V1v dX1_add_39 st_RX1_24 na_X7_setThere (Nat.le_of_ble_eq_true rfl) (Nat.le_of_ble_eq_true rfl) (by repeat (first | assumption | exact up_s | refine (up_n (by omega)).trans ?_)) rfl (m7_setThere (Pr_up hp (by omega)) 1 (by omega)) ?_
  first | refine ev_aload_n dX1_add_42 rfl ?_ | refine ev_aload_nN dX1_add_42 rfl ?_
  refine ev_dup dX1_add_43 rfl ?_
  refine ev_getfield dX1_add_44 fl_RX1_17 (by repeat (first | assumption | exact up_s | refine (up_n (by omega)).trans ?_)) rfl ?_
  refine ev_iconst dX1_add_47 ci1 ?_
  first | refine ev_iaddN dX1_add_48 ?_ | refine ev_iadd dX1_add_48 ?_
  refine ev_putfield dX1_add_49 fl_RX1_17 (fit_1_1 _) (fun q => absurd q (by decide)) (by repeat (first | assumption | exact up_s | refine (up_n (by omega)).trans ?_)) (Nat.le_of_ble_eq_true rfl) ?_
  first | refine ev_aload_n dX1_add_52 rfl ?_ | refine ev_aload_nN dX1_add_52 rfl ?_
  refine ev_dup dX1_add_53 rfl ?_
  refine ev_getfield dX1_add_54 fl_RX1_21 (by repeat (first | assumption | exact up_s | refine (up_n (by omega)).trans ?_)) rfl ?_
  refine ev_iconst dX1_add_57 ci1 ?_
  first | refine ev_iaddN dX1_add_58 ?_ | refine ev_iadd dX1_add_58 ?_
  refine ev_putfield dX1_add_59 fl_RX1_21 (fit_1_2 _) (fun q => absurd q (by decide)) (by repeat (first | assumption | exact up_s | refine (up_n (by omega)).trans ?_)) (Nat.le_of_ble_eq_true rfl) ?_
  refine ev_iload_n dX1_add_62 rfl ?_
  exact ev_ireturnE dX1_add_63 rfl (by rw [up_u]; rfl)
end M1
