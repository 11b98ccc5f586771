/-! sentences, pairs of sentences, weights -/
def Sn (h : Hp) (a len : Nat) (w : Nat → Nat) : Prop := h a = .inr (6, [.ref (a + 1), .int (nI len)]) ∧ h (a + 1) = aI 8 w ∧ len ≤ 8 ∧ ∀ j, j < len → w j < 15
section M6
variable {d n a len : Nat} {h : Hp} {w : Nat → Nat}
theorem m6_length (S : Sn h a len w) : Ev d MX6_length 0 (lv_args 0 [.ref a]) [] n h (.inl (some (.int (nI len))), n, h, 0, 0) := by
  obtain ⟨s1, s2, s3, s4⟩ := S
  first | refine ev_aload_n dX6_length_0 rfl ?_ | refine ev_aload_nN dX6_length_0 rfl ?_
  refine ev_getfield dX6_length_1 fl_RX6_15 (by repeat (first | assumption | exact up_s | refine (up_n (by omega)).trans ?_)) rfl ?_
  exact ev_ireturnE dX6_length_4 rfl (by rfl)
theorem m6_isFull (S : Sn h a len w) : Ev d MX6_isFull 0 (lv_args 0 [.ref a]) [] n h (.inl (some (.int (nI (bI (8 ≤ len))))), n, h, 0, 0) := by
  obtain ⟨s1, s2, s3, s4⟩ := S
  by_cases c : len < 8
  · first | refine ev_aload_n dX6_isFull_0 rfl ?_ | refine ev_aload_nN dX6_isFull_0 rfl ?_
    refine ev_getfield dX6_isFull_1 fl_RX6_15 (by repeat (first | assumption | exact up_s | refine (up_n (by omega)).trans ?_)) rfl ?_
    refine ev_bipush dX6_isFull_4 bp8 ?_
    refine ev_icmp_ltT (tgt := 13) dX6_isFull_6 (by decide) (by first | assumption | exact nI_lt (by omega) (by omega) | decide) ?_
    refine ev_iconst dX6_isFull_13 ci0 ?_
    exact ev_zreturnE dX6_isFull_14 rfl (by first | exact Or.inl rfl | exact Or.inr rfl | assumption | exact z01 (bI_01 _) | exact z01 (by omega)) (by rw [bI_f (by omega)])
  · first | refine ev_aload_n dX6_isFull_0 rfl ?_ | refine ev_aload_nN dX6_isFull_0 rfl ?_
    refine ev_getfield dX6_isFull_1 fl_RX6_15 (by repeat (first | assumption | exact up_s | refine (up_n (by omega)).trans ?_)) rfl ?_
    refine ev_bipush dX6_isFull_4 bp8 ?_
    refine ev_icmp_ltF dX6_isFull_6 13 (by decide) (by first | assumption | exact nI_nlt (by omega) (by omega) | decide) ?_
    refine ev_iconst dX6_isFull_9 ci1 ?_
    refine ev_goto (tgt := 14) dX6_isFull_10 (by decide) ?_
    exact ev_zreturnE dX6_isFull_14 rfl (by first | exact Or.inl rfl | exact Or.inr rfl | assumption | exact z01 (bI_01 _) | exact z01 (by omega)) (by rw [bI_t (by omega)])
theorem m6_has (S : Sn h a len w) (x : Int32) (hx : ∀ k, k < 2 ^ 31 → x = nI k → k < len) : x = x := rfl
theorem m6_hasT (S : Sn h a len w) {j : Nat} (hj : j < len) : Ev d MX6_has 0 (lv_args 0 [.ref a, .int (nI j)]) [] n h (.inl (some (.int (nI 1))), n, h, 0, 0) := by
  obtain ⟨s1, s2, s3, s4⟩ := S
  refine ev_iload_n dX6_has_0 rfl ?_
  refine ev_if_ltF dX6_has_1 16 (by decide) (by first | assumption | exact nI_pos (by omega) | decide) ?_
  refine ev_iload_n dX6_has_4 rfl ?_
  first | refine ev_aload_n dX6_has_5 rfl ?_ | refine ev_aload_nN dX6_has_5 rfl ?_
  refine ev_getfield dX6_has_6 fl_RX6_15 (by repeat (first | assumption | exact up_s | refine (up_n (by omega)).trans ?_)) rfl ?_
  refine ev_icmp_geF dX6_has_9 16 (by decide) (by first | assumption | exact nI_ge (by omega) (by omega) | decide) ?_
  refine ev_iconst dX6_has_12 ci1 ?_
  refine ev_goto (tgt := 17) dX6_has_13 (by decide) ?_
  exact ev_zreturnE dX6_has_17 rfl (by first | exact Or.inl rfl | exact Or.inr rfl | assumption | exact z01 (bI_01 _) | exact z01 (by omega)) (by rfl)
theorem m6_hasF (S : Sn h a len w) {x : Int32} (hx : x < 0 ∨ ∃ j, len ≤ j ∧ j < 2 ^ 31 ∧ x = nI j) : Ev d MX6_has 0 (lv_args 0 [.ref a, .int x]) [] n h (.inl (some (.int (nI 0))), n, h, 0, 0) := by
  obtain ⟨s1, s2, s3, s4⟩ := S
  rcases hx with hx | ⟨j, hj, h31, rfl⟩
  · refine ev_iload_n dX6_has_0 rfl ?_
    refine ev_if_ltT (tgt := 16) dX6_has_1 (by decide) (by first | assumption | decide) ?_
    refine ev_iconst dX6_has_16 ci0 ?_
    exact ev_zreturnE dX6_has_17 rfl (by first | exact Or.inl rfl | exact Or.inr rfl | assumption | exact z01 (bI_01 _) | exact z01 (by omega)) (by rfl)
  · refine ev_iload_n dX6_has_0 rfl ?_
    refine ev_if_ltF dX6_has_1 16 (by decide) (by first | assumption | exact nI_pos (by omega) | decide) ?_
    refine ev_iload_n dX6_has_4 rfl ?_
    first | refine ev_aload_n dX6_has_5 rfl ?_ | refine ev_aload_nN dX6_has_5 rfl ?_
    refine ev_getfield dX6_has_6 fl_RX6_15 (by repeat (first | assumption | exact up_s | refine (up_n (by omega)).trans ?_)) rfl ?_
    refine ev_icmp_geT (tgt := 16) dX6_has_9 (by decide) (by first | assumption | exact nI_le (by omega) (by omega) | decide) ?_
    refine ev_iconst dX6_has_16 ci0 ?_
    exact ev_zreturnE dX6_has_17 rfl (by first | exact Or.inl rfl | exact Or.inr rfl | assumption | exact z01 (bI_01 _) | exact z01 (by omega)) (by rfl)
theorem m6_atT (S : Sn h a len w) {j : Nat} (hj : j < len) : Ev (d + 1) MX6_at 0 (lv_args 0 [.ref a, .int (nI j)]) [] n h (.inl (some (.int (nI (w j)))), n, h, 0, 0) := by
  have S1 := S
  obtain ⟨s1, s2, s3, s4⟩ := S
  first | refine ev_aload_n dX6_at_0 rfl ?_ | refine ev_aload_nN dX6_at_0 rfl ?_
  refine ev_iload_n dX6_at_1 rfl ?_
  refine ev_V1 dX6_at_2 st_RX6_19 na_X6_has (Nat.le_of_ble_eq_true rfl) (Nat.le_of_ble_eq_true rfl) (by repeat (first | assumption | exact up_s | refine (up_n (by omega)).trans ?_)) rfl (m6_hasT S1 hj) ?_
  refine ev_if_eqF dX6_at_5 26 (by decide) (by first | assumption | exact nI_ne0 (by omega) (by omega) | decide) ?_
  refine ev_iload_n dX6_at_8 rfl ?_
  first | refine ev_aload_n dX6_at_9 rfl ?_ | refine ev_aload_nN dX6_at_9 rfl ?_
  refine ev_getfield dX6_at_10 fl_RX6_9 (by repeat (first | assumption | exact up_s | refine (up_n (by omega)).trans ?_)) rfl ?_
  refine ev_alen dX6_at_13 (by repeat (first | assumption | exact up_s | refine (up_n (by omega)).trans ?_)) (by decide) ?_
  refine ev_icmp_geF dX6_at_14 26 (by decide) (by first | assumption | exact nI_ge (by omega) (by omega) | decide) ?_
  first | refine ev_aload_n dX6_at_17 rfl ?_ | refine ev_aload_nN dX6_at_17 rfl ?_
  refine ev_getfield dX6_at_18 fl_RX6_9 (by repeat (first | assumption | exact up_s | refine (up_n (by omega)).trans ?_)) rfl ?_
  refine ev_iload_n dX6_at_21 rfl ?_
  refine ev_iald dX6_at_22 (by repeat (first | assumption | exact up_s | refine (up_n (by omega)).trans ?_)) _ rfl (by omega) (by omega) ?_
  refine ev_goto (tgt := 27) dX6_at_23 (by decide) ?_
  exact ev_ireturnE dX6_at_27 rfl (by rfl)
theorem m6_atF (S : Sn h a len w) {x : Int32} (hx : x < 0 ∨ ∃ j, len ≤ j ∧ j < 2 ^ 31 ∧ x = nI j) : Ev (d + 1) MX6_at 0 (lv_args 0 [.ref a, .int x]) [] n h (.inl (some (.int (-1))), n, h, 0, 0) := by
  have S1 := S
  obtain ⟨s1, s2, s3, s4⟩ := S
  first | refine ev_aload_n dX6_at_0 rfl ?_ | refine ev_aload_nN dX6_at_0 rfl ?_
  refine ev_iload_n dX6_at_1 rfl ?_
  refine ev_V1 dX6_at_2 st_RX6_19 na_X6_has (Nat.le_of_ble_eq_true rfl) (Nat.le_of_ble_eq_true rfl) (by repeat (first | assumption | exact up_s | refine (up_n (by omega)).trans ?_)) rfl (m6_hasF S1 hx) ?_
  refine ev_if_eqT (tgt := 26) dX6_at_5 (by decide) (by first | assumption | exact z_eq (by omega) | decide) ?_
  refine ev_iconst dX6_at_26 cm1 ?_
  exact ev_ireturnE dX6_at_27 rfl (by rfl)
theorem m6_append (S : Sn h a len w) (ha : 2 ≤ a) (hl : len < 8) (v : Nat) : Ev d MX6_append 0 (lv_args 0 [.ref a, .int (nI v)]) [] n h (.inl none, n, va_up (va_up h (a + 1) (aI 8 (va_up w len v))) a (.inr (6, [.ref (a + 1), .int (nI (len + 1))])), 0, 0) := by
  obtain ⟨s1, s2, s3, s4⟩ := S
  first | refine ev_aload_n dX6_append_0 rfl ?_ | refine ev_aload_nN dX6_append_0 rfl ?_
  refine ev_getfield dX6_append_1 fl_RX6_15 (by repeat (first | assumption | exact up_s | refine (up_n (by omega)).trans ?_)) rfl ?_
  refine ev_if_ltF dX6_append_4 39 (by decide) (by first | assumption | exact nI_pos (by omega) | decide) ?_
  first | refine ev_aload_n dX6_append_7 rfl ?_ | refine ev_aload_nN dX6_append_7 rfl ?_
  refine ev_getfield dX6_append_8 fl_RX6_15 (by repeat (first | assumption | exact up_s | refine (up_n (by omega)).trans ?_)) rfl ?_
  first | refine ev_aload_n dX6_append_11 rfl ?_ | refine ev_aload_nN dX6_append_11 rfl ?_
  refine ev_getfield dX6_append_12 fl_RX6_9 (by repeat (first | assumption | exact up_s | refine (up_n (by omega)).trans ?_)) rfl ?_
  refine ev_alen dX6_append_15 (by repeat (first | assumption | exact up_s | refine (up_n (by omega)).trans ?_)) (by decide) ?_
  refine ev_icmp_geF dX6_append_16 39 (by decide) (by first | assumption | exact nI_ge (by omega) (by omega) | decide) ?_
  first | refine ev_aload_n dX6_append_19 rfl ?_ | refine ev_aload_nN dX6_append_19 rfl ?_
  refine ev_getfield dX6_append_20 fl_RX6_9 (by repeat (first | assumption | exact up_s | refine (up_n (by omega)).trans ?_)) rfl ?_
  first | refine ev_aload_n dX6_append_23 rfl ?_ | refine ev_aload_nN dX6_append_23 rfl ?_
  refine ev_getfield dX6_append_24 fl_RX6_15 (by repeat (first | assumption | exact up_s | refine (up_n (by omega)).trans ?_)) rfl ?_
  refine ev_iload_n dX6_append_27 rfl ?_
  refine ev_iast dX6_append_28 (by omega) (by repeat (first | assumption | exact up_s | refine (up_n (by omega)).trans ?_)) _ _ rfl rfl (by omega) (by omega) ?_
  first | refine ev_aload_n dX6_append_29 rfl ?_ | refine ev_aload_nN dX6_append_29 rfl ?_
  refine ev_dup dX6_append_30 rfl ?_
  refine ev_getfield dX6_append_31 fl_RX6_15 (by repeat (first | assumption | exact up_s | refine (up_n (by omega)).trans ?_)) rfl ?_
  refine ev_iconst dX6_append_34 ci1 ?_
  first | refine ev_iaddN dX6_append_35 ?_ | refine ev_iadd dX6_append_35 ?_
  refine ev_putfield dX6_append_36 fl_RX6_15 (fit_6_1 _) (fun q => absurd q (by decide)) (by repeat (first | assumption | exact up_s | refine (up_n (by omega)).trans ?_)) (Nat.le_of_ble_eq_true rfl) ?_
  exact ev_vreturnE dX6_append_39 rfl (by rfl)
theorem m6_clear (S : Sn h a len w) : Ev d MX6_clear 0 (lv_args 0 [.ref a]) [] n h (.inl none, n, va_up h a (.inr (6, [.ref (a + 1), .int (nI 0)])), 0, 0) := by
  obtain ⟨s1, s2, s3, s4⟩ := S
  first | refine ev_aload_n dX6_clear_0 rfl ?_ | refine ev_aload_nN dX6_clear_0 rfl ?_
  refine ev_iconst dX6_clear_1 ci0 ?_
  refine ev_putfield dX6_clear_2 fl_RX6_15 (fit_6_1 _) (fun q => absurd q (by decide)) (by repeat (first | assumption | exact up_s | refine (up_n (by omega)).trans ?_)) (Nat.le_of_ble_eq_true rfl) ?_
  exact ev_vreturnE dX6_clear_5 rfl (by rfl)
end M6
def Pr (h : Hp) (p t l0 : Nat) (w0 : Nat → Nat) (l1 : Nat) (w1 : Nat → Nat) : Prop := h p = .inr (7, [.ref (p + 1), .ref (p + 3), .int (nI t)]) ∧ Sn h (p + 1) l0 w0 ∧ Sn h (p + 3) l1 w1
section M7
variable {d n p t l0 l1 : Nat} {h : Hp} {w0 w1 : Nat → Nat}
theorem m7_of0 (S : Pr h p t l0 w0 l1 w1) : Ev d MX7_ofSide 0 (lv_args 0 [.ref p, .int (nI 0)]) [] n h (.inl (some (.ref (p + 1))), n, h, 0, 0) := by
  obtain ⟨s1, s2, s3⟩ := S
  refine ev_iload_n dX7_ofSide_0 rfl ?_
  refine ev_if_neF dX7_ofSide_1 11 (by decide) (by first | assumption | exact z_eq (by omega) | decide) ?_
  first | refine ev_aload_n dX7_ofSide_4 rfl ?_ | refine ev_aload_nN dX7_ofSide_4 rfl ?_
  refine ev_getfield dX7_ofSide_5 fl_RX7_10 (by repeat (first | assumption | exact up_s | refine (up_n (by omega)).trans ?_)) rfl ?_
  refine ev_goto (tgt := 15) dX7_ofSide_8 (by decide) ?_
  exact ev_areturnE dX7_ofSide_15 rfl (by first | exact Or.inl rfl | exact Or.inr ⟨_, rfl⟩) (by rfl)
theorem m7_of1 (S : Pr h p t l0 w0 l1 w1) : Ev d MX7_ofSide 0 (lv_args 0 [.ref p, .int (nI 1)]) [] n h (.inl (some (.ref (p + 3))), n, h, 0, 0) := by
  obtain ⟨s1, s2, s3⟩ := S
  refine ev_iload_n dX7_ofSide_0 rfl ?_
  refine ev_if_neT (tgt := 11) dX7_ofSide_1 (by decide) (by first | assumption | exact nI_ne0 (by omega) (by omega) | decide) ?_
  first | refine ev_aload_n dX7_ofSide_11 rfl ?_ | refine ev_aload_nN dX7_ofSide_11 rfl ?_
  refine ev_getfield dX7_ofSide_12 fl_RX7_16 (by repeat (first | assumption | exact up_s | refine (up_n (by omega)).trans ?_)) rfl ?_
  exact ev_areturnE dX7_ofSide_15 rfl (by first | exact Or.inl rfl | exact Or.inr ⟨_, rfl⟩) (by rfl)
theorem m7_isThere (S : Pr h p t l0 w0 l1 w1) (ht : t = 0 ∨ t = 1) : Ev d MX7_isThere 0 (lv_args 0 [.ref p]) [] n h (.inl (some (.int (nI t))), n, h, 0, 0) := by
  obtain ⟨s1, s2, s3⟩ := S
  first | refine ev_aload_n dX7_isThere_0 rfl ?_ | refine ev_aload_nN dX7_isThere_0 rfl ?_
  refine ev_getfield dX7_isThere_1 fl_RX7_19 (by repeat (first | assumption | exact up_s | refine (up_n (by omega)).trans ?_)) rfl ?_
  exact ev_zreturnE dX7_isThere_4 rfl (by first | exact Or.inl rfl | exact Or.inr rfl | assumption | exact z01 (bI_01 _) | exact z01 (by omega)) (by rfl)
theorem m7_setThere (S : Pr h p t l0 w0 l1 w1) (v : Nat) (hv : v = 0 ∨ v = 1) : Ev d MX7_setThere 0 (lv_args 0 [.ref p, .int (nI v)]) [] n h (.inl none, n, va_up h p (.inr (7, [.ref (p + 1), .ref (p + 3), .int (nI v)])), 0, 0) := by
  obtain ⟨s1, s2, s3⟩ := S
  first | refine ev_aload_n dX7_setThere_0 rfl ?_ | refine ev_aload_nN dX7_setThere_0 rfl ?_
  refine ev_iload_n dX7_setThere_1 rfl ?_
  refine ev_putfield dX7_setThere_2 fl_RX7_19 (fit_7_2 _ (by first | assumption | exact Or.inl rfl | exact Or.inr rfl | exact z01 (by omega))) (fun q => absurd q (by decide)) (by repeat (first | assumption | exact up_s | refine (up_n (by omega)).trans ?_)) (Nat.le_of_ble_eq_true rfl) ?_
  exact ev_vreturnE dX7_setThere_5 rfl (by rfl)
end M7
def Wt (h : Hp) (a : Nat) (W : Nat → Nat) : Prop := h a = .inr (8, [.ref (a + 1)]) ∧ h (a + 1) = aI 5 W ∧ ∀ k, W k ≤ 9
section M8
variable {d n a : Nat} {h : Hp} {W : Nat → Nat}
theorem m8_at (S : Wt h a W) {k : Nat} (hk : k < 5) : Ev d MX8_at 0 (lv_args 0 [.ref a, .int (nI k)]) [] n h (.inl (some (.int (nI (W k)))), n, h, 0, 0) := by
  obtain ⟨s1, s2, s3⟩ := S
  refine ev_iload_n dX8_at_0 rfl ?_
  refine ev_if_ltF dX8_at_1 22 (by decide) (by first | assumption | exact nI_pos (by omega) | decide) ?_
  refine ev_iload_n dX8_at_4 rfl ?_
  first | refine ev_aload_n dX8_at_5 rfl ?_ | refine ev_aload_nN dX8_at_5 rfl ?_
  refine ev_getfield dX8_at_6 fl_RX8_18 (by repeat (first | assumption | exact up_s | refine (up_n (by omega)).trans ?_)) rfl ?_
  refine ev_alen dX8_at_9 (by repeat (first | assumption | exact up_s | refine (up_n (by omega)).trans ?_)) (by decide) ?_
  refine ev_icmp_geF dX8_at_10 22 (by decide) (by first | assumption | exact nI_ge (by omega) (by omega) | decide) ?_
  first | refine ev_aload_n dX8_at_13 rfl ?_ | refine ev_aload_nN dX8_at_13 rfl ?_
  refine ev_getfield dX8_at_14 fl_RX8_18 (by repeat (first | assumption | exact up_s | refine (up_n (by omega)).trans ?_)) rfl ?_
  refine ev_iload_n dX8_at_17 rfl ?_
  refine ev_iald dX8_at_18 (by repeat (first | assumption | exact up_s | refine (up_n (by omega)).trans ?_)) _ rfl (by omega) (by omega) ?_
  refine ev_goto (tgt := 23) dX8_at_19 (by decide) ?_
  exact ev_ireturnE dX8_at_23 rfl (by rfl)
theorem m8_replace (S : Wt h a W) (ha : 2 ≤ a) {k : Nat} (hk : k < 5) (v : Nat) : Ev (d + 1) MX8_replace 0 (lv_args 0 [.ref a, .int (nI k), .int (nI v)]) [] n h (.inl (some (.int (nI (W k)))), n, va_up h (a + 1) (aI 5 (va_up W k v)), 0, 0) := by
  have S1 := S
  obtain ⟨s1, s2, s3⟩ := S
  first | refine ev_aload_n dX8_replace_0 rfl ?_ | refine ev_aload_nN dX8_replace_0 rfl ?_
  refine ev_iload_n dX8_replace_1 rfl ?_
  refine ev_V1 dX8_replace_2 st_RX8_23 na_X8_at (Nat.le_of_ble_eq_true rfl) (Nat.le_of_ble_eq_true rfl) (by repeat (first | assumption | exact up_s | refine (up_n (by omega)).trans ?_)) rfl (m8_at S1 hk) ?_
  refine ev_istore_n dX8_replace_5 (Nat.le_of_ble_eq_true rfl) ?_
  refine ev_iload_n dX8_replace_6 rfl ?_
  refine ev_if_ltF dX8_replace_7 26 (by decide) (by first | assumption | exact nI_pos (by omega) | decide) ?_
  refine ev_iload_n dX8_replace_10 rfl ?_
  first | refine ev_aload_n dX8_replace_11 rfl ?_ | refine ev_aload_nN dX8_replace_11 rfl ?_
  refine ev_getfield dX8_replace_12 fl_RX8_18 (by repeat (first | assumption | exact up_s | refine (up_n (by omega)).trans ?_)) rfl ?_
  refine ev_alen dX8_replace_15 (by repeat (first | assumption | exact up_s | refine (up_n (by omega)).trans ?_)) (by decide) ?_
  refine ev_icmp_geF dX8_replace_16 26 (by decide) (by first | assumption | exact nI_ge (by omega) (by omega) | decide) ?_
  first | refine ev_aload_n dX8_replace_19 rfl ?_ | refine ev_aload_nN dX8_replace_19 rfl ?_
  refine ev_getfield dX8_replace_20 fl_RX8_18 (by repeat (first | assumption | exact up_s | refine (up_n (by omega)).trans ?_)) rfl ?_
  refine ev_iload_n dX8_replace_23 rfl ?_
  refine ev_iload_n dX8_replace_24 rfl ?_
  refine ev_iast dX8_replace_25 (by omega) (by repeat (first | assumption | exact up_s | refine (up_n (by omega)).trans ?_)) _ _ rfl rfl (by omega) (by omega) ?_
  refine ev_iload_n dX8_replace_26 rfl ?_
  exact ev_ireturnE dX8_replace_27 rfl (by rfl)
theorem m8_ofEmpty (S : Wt h a W) : Ev (d + 1) MX8_ofEmpty 0 (lv_args 0 [.ref a]) [] n h (.inl (some (.int (nI (W 4)))), n, h, 0, 0) := by
  have S1 := S
  obtain ⟨s1, s2, s3⟩ := S
  first | refine ev_aload_n dX8_ofEmpty_0 rfl ?_ | refine ev_aload_nN dX8_ofEmpty_0 rfl ?_
  refine ev_iconst dX8_ofEmpty_1 ci4 ?_
  refine ev_V1 dX8_ofEmpty_2 st_RX8_23 na_X8_at (Nat.le_of_ble_eq_true rfl) (Nat.le_of_ble_eq_true rfl) (by repeat (first | assumption | exact up_s | refine (up_n (by omega)).trans ?_)) rfl (m8_at S1 (by omega)) ?_
  exact ev_ireturnE dX8_ofEmpty_5 rfl (by rfl)
/-- how far apart, at most 3 -/
def apart (i j : Nat) : Nat := min (if i < j then j - i else i - j) 3
theorem apart_lt (i j : Nat) : apart i j < 4 := by unfold apart; omega
theorem apart_eq {i j : Nat} (hi : i < 8) (hj : j < 8) : (if nI 3 < (if 0 ≤ nI i - nI j then nI i - nI j else 0 - (nI i - nI j)) then nI 3 else (if 0 ≤ nI i - nI j then nI i - nI j else 0 - (nI i - nI j))) = nI (apart i j) := by
  have h : ∀ i, i < 8 → ∀ j, j < 8 → (if nI 3 < (if 0 ≤ nI i - nI j then nI i - nI j else 0 - (nI i - nI j)) then nI 3 else (if 0 ≤ nI i - nI j then nI i - nI j else 0 - (nI i - nI j))) = nI (apart i j) := by decide +kernel
  exact h i hi j hj
theorem m8_between (S : Wt h a W) {i j : Nat} (hi : i < 8) (hj : j < 8) : Ev (d + 1) MX8_between 0 (lv_args 0 [.ref a, .int (nI i), .int (nI j)]) [] n h (.inl (some (.int (nI (W (apart i j))))), n, h, 0, 0) := by
  have S1 := S
  obtain ⟨s1, s2, s3⟩ := S
  first | refine ev_aload_n dX8_between_0 rfl ?_ | refine ev_aload_nN dX8_between_0 rfl ?_
  refine ev_iload_n dX8_between_1 rfl ?_
  refine ev_iload_n dX8_between_2 rfl ?_
  refine ev_isub dX8_between_3 ?_
  refine ev_callAbs dX8_between_4 st_RX8_27 (Nat.le_of_ble_eq_true rfl) ?_
  refine ev_iconst dX8_between_7 ci3 ?_
  refine ev_callMin dX8_between_8 st_RX8_32 (Nat.le_of_ble_eq_true rfl) ?_
  refine ev_top (congrArg Value.int (apart_eq hi hj)) ?_
  refine ev_V1 dX8_between_11 st_RX8_23 na_X8_at (Nat.le_of_ble_eq_true rfl) (Nat.le_of_ble_eq_true rfl) (by repeat (first | assumption | exact up_s | refine (up_n (by omega)).trans ?_)) rfl (m8_at S1 (by have := apart_lt i j; omega)) ?_
  exact ev_ireturnE dX8_between_14 rfl (by rfl)
end M8
