/-! the model: drafts, pairs, words, shares, weights -/
section MM2
variable {d n : Nat} {h h' : Hp} {made th : Nat} {t : Nat → Nat} {l : Nat → Nat → Nat} {w : Nat → Nat → Nat → Nat} {S : Nat → Nat → Nat} {W : Nat → Nat} {F : Nat → Nat}
theorem mm_putT (q : WF made t l w S W) (g : MS h th made t l w S W) {D x : Nat} (hD : D < 2) (hx : x < 15) (hl : l D made < 8) : ∃ h', Ev (d + 1) MX10_put 0 (lv_args 0 [.ref 31, .int (nI D), .int (nI x)]) [] n h (.inl (some (.int (nI (l D made + 1)))), n, h', 0, 0) ∧ MS h' 0 made t (lP l D made (l D made + 1)) (wP w D made (l D made) x) S W ∧ Fm h h' := by
  obtain ⟨⟨F, g31⟩, ⟨dd, b1, c1⟩, ⟨dr, b2, c2⟩, ⟨lo, b3, c3⟩, ⟨wo, b4, c4⟩, ⟨go, b5, c5⟩, ⟨ww, b6, c6⟩, ⟨sh, b7, c7⟩, ⟨a8, b8⟩, ⟨a9, b9⟩, ⟨a10, b10⟩, ⟨a11, b11⟩, ⟨a12, b12⟩⟩ := g
  have cd := c1 D hD
  refine ⟨va_up (va_up (va_up h 31 (MO made F 0)) 33 (aI 16 (va_up dr (8 * D + dd D) x))) 32 (aI 2 (va_up dd D (dd D + 1))), ?_, ⟨⟨F, (up_n (by omega)).trans ((up_n (by omega)).trans up_s)⟩, ⟨_, up_s, fun D' hD' => ?_⟩, ⟨_, (up_n (by omega)).trans up_s, fun D' j hD' hj => ?_⟩, ⟨lo, by exact (up_n (by omega)).trans ((up_n (by omega)).trans ((up_n (by omega)).trans b3)), fun D' i hD' hi => (c3 D' i hD' hi).trans (if_neg (by omega)).symm⟩, ⟨wo, by exact (up_n (by omega)).trans ((up_n (by omega)).trans ((up_n (by omega)).trans b4)), fun D' i j hD' hi hj => ?_⟩, ⟨go, (up_n (by omega)).trans ((up_n (by omega)).trans ((up_n (by omega)).trans b5)), c5⟩, ⟨ww, (up_n (by omega)).trans ((up_n (by omega)).trans ((up_n (by omega)).trans b6)), c6⟩, ⟨sh, (up_n (by omega)).trans ((up_n (by omega)).trans ((up_n (by omega)).trans b7)), c7⟩, ⟨a8, (up_n (by omega)).trans ((up_n (by omega)).trans ((up_n (by omega)).trans b8))⟩, ⟨a9, (up_n (by omega)).trans ((up_n (by omega)).trans ((up_n (by omega)).trans b9))⟩, ⟨a10, (up_n (by omega)).trans ((up_n (by omega)).trans ((up_n (by omega)).trans b10))⟩, ⟨a11, (up_n (by omega)).trans ((up_n (by omega)).trans ((up_n (by omega)).trans b11))⟩, ⟨a12, (up_n (by omega)).trans ((up_n (by omega)).trans ((up_n (by omega)).trans b12))⟩⟩, Fm_up (Fm_up (Fm_up Fm_rfl (by omega)) (by omega)) (by omega)⟩
  · rw [← cd]
    refine ev_iload_n dX10_put_0 rfl ?_
    refine ev_iconst dX10_put_1 ci0 ?_
    refine ev_iconst dX10_put_2 ci1 ?_
    refine ev_S3 dX10_put_3 st_RX10_55 na_X10_in (Nat.le_of_ble_eq_true rfl) (Nat.le_of_ble_eq_true rfl) (mm_inT (by omega) (show D ≤ 1 by omega) (by omega)) ?_
    refine ev_if_eqF dX10_put_6 23 (by decide) (by first | assumption | exact nI_ne0 (by omega) (by omega) | decide) ?_
    refine ev_iload_n dX10_put_9 rfl ?_
    refine ev_iconst dX10_put_10 ci0 ?_
    refine ev_bipush dX10_put_11 bp14 ?_
    refine ev_S3 dX10_put_13 st_RX10_55 na_X10_in (Nat.le_of_ble_eq_true rfl) (Nat.le_of_ble_eq_true rfl) (mm_inT (by omega) (show x ≤ 14 by omega) (by omega)) ?_
    refine ev_if_eqF dX10_put_16 23 (by decide) (by first | assumption | exact nI_ne0 (by omega) (by omega) | decide) ?_
    refine ev_iconst dX10_put_19 ci1 ?_
    refine ev_goto (tgt := 24) dX10_put_20 (by decide) ?_
    refine ev_istore_n dX10_put_24 (Nat.le_of_ble_eq_true rfl) ?_
    first | refine ev_aload_n dX10_put_25 rfl ?_ | refine ev_aload_nN dX10_put_25 rfl ?_
    refine ev_iload_n dX10_put_26 rfl ?_
    refine ev_iload_n dX10_put_27 rfl ?_
    refine ev_if_eqF dX10_put_28 46 (by decide) (by first | assumption | exact nI_ne0 (by omega) (by omega) | decide) ?_
    first | refine ev_aload_n dX10_put_31 rfl ?_ | refine ev_aload_nN dX10_put_31 rfl ?_
    refine ev_getfield dX10_put_32 fl_RX10_7 (by repeat (first | assumption | exact up_s | refine (up_n (by omega)).trans ?_)) rfl ?_
    refine ev_iload_n dX10_put_35 rfl ?_
    refine ev_iald dX10_put_36 (by repeat (first | assumption | exact up_s | refine (up_n (by omega)).trans ?_)) _ rfl (by omega) (by omega) ?_
    refine ev_bipush dX10_put_37 bp8 ?_
    refine ev_icmp_geF dX10_put_39 46 (by decide) (by first | assumption | exact nI_ge (by omega) (by omega) | decide) ?_
    refine ev_iconst dX10_put_42 ci1 ?_
    refine ev_goto (tgt := 47) dX10_put_43 (by decide) ?_
    refine ev_iconst dX10_put_47 ci1 ?_
    refine ev_V3 dX10_put_48 st_RX10_59 na_X10_goes (Nat.le_of_ble_eq_true rfl) (Nat.le_of_ble_eq_true rfl) (by repeat (first | assumption | exact up_s | refine (up_n (by omega)).trans ?_)) rfl (mm_goesT g31) ?_
    refine ev_if_neT (tgt := 56) dX10_put_51 (by decide) (by first | assumption | exact nI_ne0 (by omega) (by omega) | decide) ?_
    first | refine ev_aload_n dX10_put_56 rfl ?_ | refine ev_aload_nN dX10_put_56 rfl ?_
    refine ev_getfield dX10_put_57 fl_RX10_13 (by repeat (first | assumption | exact up_s | refine (up_n (by omega)).trans ?_)) rfl ?_
    refine ev_bipush dX10_put_60 bp8 ?_
    refine ev_iload_n dX10_put_62 rfl ?_
    first | refine ev_imulN dX10_put_63 ?_ | refine ev_imul dX10_put_63 ?_
    first | refine ev_aload_n dX10_put_64 rfl ?_ | refine ev_aload_nN dX10_put_64 rfl ?_
    refine ev_getfield dX10_put_65 fl_RX10_7 (by repeat (first | assumption | exact up_s | refine (up_n (by omega)).trans ?_)) rfl ?_
    refine ev_iload_n dX10_put_68 rfl ?_
    refine ev_iald dX10_put_69 (by repeat (first | assumption | exact up_s | refine (up_n (by omega)).trans ?_)) _ rfl (by omega) (by omega) ?_
    first | refine ev_iaddN dX10_put_70 ?_ | refine ev_iadd dX10_put_70 ?_
    refine ev_iload_n dX10_put_71 rfl ?_
    refine ev_iast dX10_put_72 (by omega) (by repeat (first | assumption | exact up_s | refine (up_n (by omega)).trans ?_)) _ _ rfl rfl (by omega) (by omega) ?_
    first | refine ev_aload_n dX10_put_73 rfl ?_ | refine ev_aload_nN dX10_put_73 rfl ?_
    refine ev_getfield dX10_put_74 fl_RX10_7 (by repeat (first | assumption | exact up_s | refine (up_n (by omega)).trans ?_)) rfl ?_
    refine ev_iload_n dX10_put_77 rfl ?_
    refine ev_dup2_11 dX10_put_78 rfl rfl ?_
    refine ev_iald dX10_put_79 (by repeat (first | assumption | exact up_s | refine (up_n (by omega)).trans ?_)) _ rfl (by omega) (by omega) ?_
    refine ev_iconst dX10_put_80 ci1 ?_
    first | refine ev_iaddN dX10_put_81 ?_ | refine ev_iadd dX10_put_81 ?_
    refine ev_iast dX10_put_82 (by omega) (by repeat (first | assumption | exact up_s | refine (up_n (by omega)).trans ?_)) _ _ rfl rfl (by omega) (by omega) ?_
    first | refine ev_aload_n dX10_put_83 rfl ?_ | refine ev_aload_nN dX10_put_83 rfl ?_
    refine ev_getfield dX10_put_84 fl_RX10_7 (by repeat (first | assumption | exact up_s | refine (up_n (by omega)).trans ?_)) rfl ?_
    refine ev_iload_n dX10_put_87 rfl ?_
    refine ev_iald dX10_put_88 (by repeat (first | assumption | exact up_s | refine (up_n (by omega)).trans ?_)) _ rfl (by omega) (by omega) ?_
    refine ev_top (v2 := .int (nI (dd D + 1))) (by rw [show va_up dd D (dd D + 1) D = dd D + 1 from if_pos rfl]) ?_
    exact ev_ireturnE dX10_put_89 rfl (by rfl)
  · unfold va_up lP
    by_cases e : D' = D
    · rw [if_pos e, if_pos ⟨e, rfl⟩, cd]
    · rw [if_neg e, if_neg (by omega)]; exact c1 D' hD'
  · by_cases e : D' = D
    · subst e
      have hj' : j < l D' made + 1 := by unfold lP at hj; rw [if_pos ⟨rfl, rfl⟩] at hj; exact hj
      rw [show wP w D' made (l D' made) x D' made = va_up (w D' made) (l D' made) x from if_pos ⟨rfl, rfl⟩, cd]
      by_cases e2 : j = l D' made
      · rw [e2, up_sN, up_sN]
      · rw [up_nN (by omega), up_nN e2]; exact c2 D' j hD' (by omega)
    · have hj' : j < l D' made := by unfold lP at hj; rw [if_neg (by omega)] at hj; exact hj
      have := q.2.2.1 D' made hD' (Nat.le_refl _)
      rw [show wP w D made (l D made) x D' made = w D' made from if_neg (by omega), up_nN (by omega)]
      exact c2 D' j hD' hj'
  · have hj : j < l D' i := by unfold lP at hj; rw [if_neg (by omega)] at hj; exact hj
    exact (c4 D' i j hD' hi hj).trans (congrFun (if_neg (by omega)).symm j)
theorem mm_put1 (g : MS h th made t l w S W) {x y : Int32} (hx : ¬ inN x 2 ∨ ¬ inN y 15) : ∃ h' v, Ev (d + 1) MX10_put 0 (lv_args 0 [.ref 31, .int x, .int y]) [] n h (.inl (some (.int v)), n, h', 0, 0) ∧ MS h' 1 made t l w S W ∧ Fm h h' := by
  obtain ⟨⟨F, g31⟩, ga⟩ := g
  refine ⟨va_up h 31 (MO made F 1), nI 0, ?_, ⟨⟨F, up_s⟩, MA_31 ga⟩, Fm_up Fm_rfl (by omega)⟩
  by_cases q : inN x 2
  · obtain ⟨D, hD, rfl⟩ := q
    have q2 := hx.resolve_left (fun c => c ⟨D, hD, rfl⟩)
    refine ev_iload_n dX10_put_0 rfl ?_
    refine ev_iconst dX10_put_1 ci0 ?_
    refine ev_iconst dX10_put_2 ci1 ?_
    refine ev_S3 dX10_put_3 st_RX10_55 na_X10_in (Nat.le_of_ble_eq_true rfl) (Nat.le_of_ble_eq_true rfl) (mm_inT (by omega) (show D ≤ 1 by omega) (by omega)) ?_
    refine ev_if_eqF dX10_put_6 23 (by decide) (by first | assumption | exact nI_ne0 (by omega) (by omega) | decide) ?_
    refine ev_iload_n dX10_put_9 rfl ?_
    refine ev_iconst dX10_put_10 ci0 ?_
    refine ev_bipush dX10_put_11 bp14 ?_
    refine ev_S3 dX10_put_13 st_RX10_55 na_X10_in (Nat.le_of_ble_eq_true rfl) (Nat.le_of_ble_eq_true rfl) (mm_inF (N := 15) (by omega) (by omega) q2) ?_
    refine ev_if_eqT (tgt := 23) dX10_put_16 (by decide) (by first | assumption | exact z_eq (by omega) | decide) ?_
    refine ev_iconst dX10_put_23 ci0 ?_
    refine ev_istore_n dX10_put_24 (Nat.le_of_ble_eq_true rfl) ?_
    first | refine ev_aload_n dX10_put_25 rfl ?_ | refine ev_aload_nN dX10_put_25 rfl ?_
    refine ev_iload_n dX10_put_26 rfl ?_
    refine ev_iload_n dX10_put_27 rfl ?_
    refine ev_if_eqT (tgt := 46) dX10_put_28 (by decide) (by first | assumption | exact z_eq (by omega) | decide) ?_
    refine ev_iconst dX10_put_46 ci0 ?_
    refine ev_iconst dX10_put_47 ci1 ?_
    refine ev_V3 dX10_put_48 st_RX10_59 na_X10_goes (Nat.le_of_ble_eq_true rfl) (Nat.le_of_ble_eq_true rfl) (by repeat (first | assumption | exact up_s | refine (up_n (by omega)).trans ?_)) rfl (mm_goes1 g31) ?_
    refine ev_if_neF dX10_put_51 56 (by decide) (by first | assumption | exact z_eq (by omega) | decide) ?_
    refine ev_iconst dX10_put_54 ci0 ?_
    exact ev_ireturnE dX10_put_55 rfl (by rfl)
  · refine ev_iload_n dX10_put_0 rfl ?_
    refine ev_iconst dX10_put_1 ci0 ?_
    refine ev_iconst dX10_put_2 ci1 ?_
    refine ev_S3 dX10_put_3 st_RX10_55 na_X10_in (Nat.le_of_ble_eq_true rfl) (Nat.le_of_ble_eq_true rfl) (mm_inF (N := 2) (by omega) (by omega) q) ?_
    refine ev_if_eqT (tgt := 23) dX10_put_6 (by decide) (by first | assumption | exact z_eq (by omega) | decide) ?_
    refine ev_iconst dX10_put_23 ci0 ?_
    refine ev_istore_n dX10_put_24 (Nat.le_of_ble_eq_true rfl) ?_
    first | refine ev_aload_n dX10_put_25 rfl ?_ | refine ev_aload_nN dX10_put_25 rfl ?_
    refine ev_iload_n dX10_put_26 rfl ?_
    refine ev_iload_n dX10_put_27 rfl ?_
    refine ev_if_eqT (tgt := 46) dX10_put_28 (by decide) (by first | assumption | exact z_eq (by omega) | decide) ?_
    refine ev_iconst dX10_put_46 ci0 ?_
    refine ev_iconst dX10_put_47 ci1 ?_
    refine ev_V3 dX10_put_48 st_RX10_59 na_X10_goes (Nat.le_of_ble_eq_true rfl) (Nat.le_of_ble_eq_true rfl) (by repeat (first | assumption | exact up_s | refine (up_n (by omega)).trans ?_)) rfl (mm_goes1 g31) ?_
    refine ev_if_neF dX10_put_51 56 (by decide) (by first | assumption | exact z_eq (by omega) | decide) ?_
    refine ev_iconst dX10_put_54 ci0 ?_
    exact ev_ireturnE dX10_put_55 rfl (by rfl)
theorem mm_put2 (g : MS h th made t l w S W) {D x : Nat} (hD : D < 2) (hx : x < 15) (q : WF made t l w S W) (hl : 8 ≤ l D made) : ∃ h' v, Ev (d + 1) MX10_put 0 (lv_args 0 [.ref 31, .int (nI D), .int (nI x)]) [] n h (.inl (some (.int v)), n, h', 0, 0) ∧ MS h' 2 made t l w S W ∧ Fm h h' := by
  obtain ⟨⟨F, g31⟩, ga⟩ := g
  obtain ⟨dd, b1, c1⟩ := ga.1
  have cd := c1 D hD
  have h8 := q.2.2.1 D made hD (Nat.le_refl _)
  refine ⟨va_up h 31 (MO made F 2), nI 0, ?_, ⟨⟨F, up_s⟩, MA_31 ga⟩, Fm_up Fm_rfl (by omega)⟩
  refine ev_iload_n dX10_put_0 rfl ?_
  refine ev_iconst dX10_put_1 ci0 ?_
  refine ev_iconst dX10_put_2 ci1 ?_
  refine ev_S3 dX10_put_3 st_RX10_55 na_X10_in (Nat.le_of_ble_eq_true rfl) (Nat.le_of_ble_eq_true rfl) (mm_inT (by omega) (show D ≤ 1 by omega) (by omega)) ?_
  refine ev_if_eqF dX10_put_6 23 (by decide) (by first | assumption | exact nI_ne0 (by omega) (by omega) | decide) ?_
  refine ev_iload_n dX10_put_9 rfl ?_
  refine ev_iconst dX10_put_10 ci0 ?_
  refine ev_bipush dX10_put_11 bp14 ?_
  refine ev_S3 dX10_put_13 st_RX10_55 na_X10_in (Nat.le_of_ble_eq_true rfl) (Nat.le_of_ble_eq_true rfl) (mm_inT (by omega) (show x ≤ 14 by omega) (by omega)) ?_
  refine ev_if_eqF dX10_put_16 23 (by decide) (by first | assumption | exact nI_ne0 (by omega) (by omega) | decide) ?_
  refine ev_iconst dX10_put_19 ci1 ?_
  refine ev_goto (tgt := 24) dX10_put_20 (by decide) ?_
  refine ev_istore_n dX10_put_24 (Nat.le_of_ble_eq_true rfl) ?_
  first | refine ev_aload_n dX10_put_25 rfl ?_ | refine ev_aload_nN dX10_put_25 rfl ?_
  refine ev_iload_n dX10_put_26 rfl ?_
  refine ev_iload_n dX10_put_27 rfl ?_
  refine ev_if_eqF dX10_put_28 46 (by decide) (by first | assumption | exact nI_ne0 (by omega) (by omega) | decide) ?_
  first | refine ev_aload_n dX10_put_31 rfl ?_ | refine ev_aload_nN dX10_put_31 rfl ?_
  refine ev_getfield dX10_put_32 fl_RX10_7 (by repeat (first | assumption | exact up_s | refine (up_n (by omega)).trans ?_)) rfl ?_
  refine ev_iload_n dX10_put_35 rfl ?_
  refine ev_iald dX10_put_36 (by repeat (first | assumption | exact up_s | refine (up_n (by omega)).trans ?_)) _ rfl (by omega) (by omega) ?_
  refine ev_bipush dX10_put_37 bp8 ?_
  refine ev_icmp_geT (tgt := 46) dX10_put_39 (by decide) (by first | assumption | exact nI_le (by omega) (by omega) | decide) ?_
  refine ev_iconst dX10_put_46 ci0 ?_
  refine ev_iconst dX10_put_47 ci1 ?_
  refine ev_V3 dX10_put_48 st_RX10_59 na_X10_goes (Nat.le_of_ble_eq_true rfl) (Nat.le_of_ble_eq_true rfl) (by repeat (first | assumption | exact up_s | refine (up_n (by omega)).trans ?_)) rfl (mm_goes2 g31) ?_
  refine ev_if_neF dX10_put_51 56 (by decide) (by first | assumption | exact z_eq (by omega) | decide) ?_
  refine ev_iconst dX10_put_54 ci0 ?_
  exact ev_ireturnE dX10_put_55 rfl (by rfl)
theorem mm_wipe0 (g31 : h 31 = MO made F th) {dd : Nat → Nat} (b1 : h 32 = aI 2 dd) : Ev d MX10_wipe 0 (lv_args 0 [.ref 31]) [] n h (.inl (some (.int (nI (dd 0 + dd 1)))), n, va_up (va_up h 31 (MO made F 0)) 32 (aI 2 (va_up (va_up dd 0 0) 1 0)), 0, 0) := by
  first | refine ev_aload_n dX10_wipe_0 rfl ?_ | refine ev_aload_nN dX10_wipe_0 rfl ?_
  refine ev_iconst dX10_wipe_1 ci0 ?_
  refine ev_putfield dX10_wipe_2 fl_RX10_48 (fit_10_17 _) (fun q => absurd q (by decide)) (by repeat (first | assumption | exact up_s | refine (up_n (by omega)).trans ?_)) (Nat.le_of_ble_eq_true rfl) ?_
  first | refine ev_aload_n dX10_wipe_5 rfl ?_ | refine ev_aload_nN dX10_wipe_5 rfl ?_
  refine ev_getfield dX10_wipe_6 fl_RX10_7 (by repeat (first | assumption | exact up_s | refine (up_n (by omega)).trans ?_)) rfl ?_
  refine ev_iconst dX10_wipe_9 ci0 ?_
  refine ev_iald dX10_wipe_10 (by repeat (first | assumption | exact up_s | refine (up_n (by omega)).trans ?_)) _ rfl (by omega) (by omega) ?_
  first | refine ev_aload_n dX10_wipe_11 rfl ?_ | refine ev_aload_nN dX10_wipe_11 rfl ?_
  refine ev_getfield dX10_wipe_12 fl_RX10_7 (by repeat (first | assumption | exact up_s | refine (up_n (by omega)).trans ?_)) rfl ?_
  refine ev_iconst dX10_wipe_15 ci1 ?_
  refine ev_iald dX10_wipe_16 (by repeat (first | assumption | exact up_s | refine (up_n (by omega)).trans ?_)) _ rfl (by omega) (by omega) ?_
  first | refine ev_iaddN dX10_wipe_17 ?_ | refine ev_iadd dX10_wipe_17 ?_
  refine ev_istore_n dX10_wipe_18 (Nat.le_of_ble_eq_true rfl) ?_
  first | refine ev_aload_n dX10_wipe_19 rfl ?_ | refine ev_aload_nN dX10_wipe_19 rfl ?_
  refine ev_getfield dX10_wipe_20 fl_RX10_7 (by repeat (first | assumption | exact up_s | refine (up_n (by omega)).trans ?_)) rfl ?_
  refine ev_iconst dX10_wipe_23 ci0 ?_
  refine ev_iconst dX10_wipe_24 ci0 ?_
  refine ev_iast dX10_wipe_25 (by omega) (by repeat (first | assumption | exact up_s | refine (up_n (by omega)).trans ?_)) _ _ rfl rfl (by omega) (by omega) ?_
  first | refine ev_aload_n dX10_wipe_26 rfl ?_ | refine ev_aload_nN dX10_wipe_26 rfl ?_
  refine ev_getfield dX10_wipe_27 fl_RX10_7 (by repeat (first | assumption | exact up_s | refine (up_n (by omega)).trans ?_)) rfl ?_
  refine ev_iconst dX10_wipe_30 ci1 ?_
  refine ev_iconst dX10_wipe_31 ci0 ?_
  refine ev_iast dX10_wipe_32 (by omega) (by repeat (first | assumption | exact up_s | refine (up_n (by omega)).trans ?_)) _ _ rfl rfl (by omega) (by omega) ?_
  refine ev_iload_n dX10_wipe_33 rfl ?_
  refine ev_heap up_u ?_
  exact ev_ireturnE dX10_wipe_34 rfl (by rfl)
theorem mm_wipe (g : MS h th made t l w S W) : ∃ h', Ev d MX10_wipe 0 (lv_args 0 [.ref 31]) [] n h (.inl (some (.int (nI (l 0 made + l 1 made)))), n, h', 0, 0) ∧ MS h' 0 made t (lW l made) w S W ∧ Fm h h' := by
  obtain ⟨⟨F, g31⟩, ⟨dd, b1, c1⟩, ⟨dr, b2, c2⟩, ⟨lo, b3, c3⟩, ⟨wo, b4, c4⟩, ⟨go, b5, c5⟩, ⟨ww, b6, c6⟩, ⟨sh, b7, c7⟩, ⟨a8, b8⟩, ⟨a9, b9⟩, ⟨a10, b10⟩, ⟨a11, b11⟩, ⟨a12, b12⟩⟩ := g
  have ev := mm_wipe0 (d := d) (n := n) g31 b1
  rw [c1 0 (by omega), c1 1 (by omega)] at ev
  refine ⟨_, ev, ⟨⟨F, (up_n (by omega)).trans up_s⟩, ⟨_, up_s, fun D hD => ?_⟩, ⟨dr, (up_n (by omega)).trans ((up_n (by omega)).trans b2), fun D j hD hj => ?_⟩, ⟨lo, (up_n (by omega)).trans ((up_n (by omega)).trans b3), fun D i hD hi => (c3 D i hD hi).trans (if_neg (by omega)).symm⟩, ⟨wo, (up_n (by omega)).trans ((up_n (by omega)).trans b4), fun D i j hD hi hj => ?_⟩, ⟨go, (up_n (by omega)).trans ((up_n (by omega)).trans b5), c5⟩, ⟨ww, (up_n (by omega)).trans ((up_n (by omega)).trans b6), c6⟩, ⟨sh, (up_n (by omega)).trans ((up_n (by omega)).trans b7), c7⟩, ⟨a8, (up_n (by omega)).trans ((up_n (by omega)).trans b8)⟩, ⟨a9, (up_n (by omega)).trans ((up_n (by omega)).trans b9)⟩, ⟨a10, (up_n (by omega)).trans ((up_n (by omega)).trans b10)⟩, ⟨a11, (up_n (by omega)).trans ((up_n (by omega)).trans b11)⟩, ⟨a12, (up_n (by omega)).trans ((up_n (by omega)).trans b12)⟩⟩, Fm_up (Fm_up Fm_rfl (by omega)) (by omega)⟩
  · rcases (show D = 0 ∨ D = 1 by omega) with rfl | rfl <;> simp [va_up, lW]
  · unfold lW at hj
    rw [if_pos rfl] at hj
    exact absurd hj (Nat.not_lt_zero _)
  · unfold lW at hj
    rw [if_neg (by omega)] at hj
    exact c4 D i j hD hi hj
theorem lp_th (g31 : h 31 = MO made F th) {go : Nat → Nat} (gg : h 36 = aZ 20 go) (hg : ∀ i, i < 20 → go i = if i < made ∧ t i = 0 then 1 else 0) (hm : made ≤ 20) (ht : ∀ i, t i = 0 ∨ t i = 1) :
    ∀ k i, i + k = made → Ev d MX10_there 4 [(0, .ref 31), (1, .int (nI (sumN t i))), (2, .int (nI i))] [] n h (.inl (some (.int (nI (sumN t made)))), n, h, 0, 0) := by
  intro k
  induction k with
  | zero =>
    intro i hi
    have e : i = made := by omega
    subst e
    refine ev_iload_n dX10_there_4 rfl ?_
    first | refine ev_aload_n dX10_there_5 rfl ?_ | refine ev_aload_nN dX10_there_5 rfl ?_
    refine ev_getfield dX10_there_6 fl_RX10_52 (by repeat (first | assumption | exact up_s | refine (up_n (by omega)).trans ?_)) rfl ?_
    refine ev_icmp_geT (tgt := 35) dX10_there_9 (by decide) (by first | assumption | exact nI_le (by omega) (by omega) | decide) ?_
    refine ev_iload_n dX10_there_35 rfl ?_
    exact ev_ireturnE dX10_there_36 rfl (by rfl)
  | succ k ih =>
    intro i hi
    have ih := ih (i + 1) (by omega)
    have e1 : sumN t (i + 1) = sumN t i + t i := rfl
    rw [e1] at ih
    rcases ht i with q | q
    · have e2 : go i = 1 := (hg i (by omega)).trans (if_pos ⟨by omega, q⟩)
      rw [q] at ih
      refine ev_iload_n dX10_there_4 rfl ?_
      first | refine ev_aload_n dX10_there_5 rfl ?_ | refine ev_aload_nN dX10_there_5 rfl ?_
      refine ev_getfield dX10_there_6 fl_RX10_52 (by repeat (first | assumption | exact up_s | refine (up_n (by omega)).trans ?_)) rfl ?_
      refine ev_icmp_geF dX10_there_9 35 (by decide) (by first | assumption | exact nI_ge (by omega) (by omega) | decide) ?_
      refine ev_iload_n dX10_there_12 rfl ?_
      first | refine ev_aload_n dX10_there_13 rfl ?_ | refine ev_aload_nN dX10_there_13 rfl ?_
      refine ev_getfield dX10_there_14 fl_RX10_22 (by repeat (first | assumption | exact up_s | refine (up_n (by omega)).trans ?_)) rfl ?_
      refine ev_iload_n dX10_there_17 rfl ?_
      refine ev_bald dX10_there_18 (by repeat (first | assumption | exact up_s | refine (up_n (by omega)).trans ?_)) _ rfl (by omega) (by omega) ?_
      refine ev_if_eqF dX10_there_19 26 (by decide) (by first | assumption | exact nI_ne0 (by omega) (by omega) | decide) ?_
      refine ev_iconst dX10_there_22 ci0 ?_
      refine ev_goto (tgt := 27) dX10_there_23 (by decide) ?_
      first | refine ev_iaddN dX10_there_27 ?_ | refine ev_iadd dX10_there_27 ?_
      refine ev_istore_n dX10_there_28 (Nat.le_of_ble_eq_true rfl) ?_
      refine ev_iincN (b := 1) dX10_there_29 rfl (Nat.le_of_ble_eq_true rfl) ?_
      refine ev_goto (tgt := 4) dX10_there_32 (by decide) ?_
      refine ev_sub ?_ (ih)
      repeat (first | exact trivial | refine ⟨rfl, ?_⟩)
    · have e2 : go i = 0 := (hg i (by omega)).trans (if_neg (by omega))
      rw [q] at ih
      refine ev_iload_n dX10_there_4 rfl ?_
      first | refine ev_aload_n dX10_there_5 rfl ?_ | refine ev_aload_nN dX10_there_5 rfl ?_
      refine ev_getfield dX10_there_6 fl_RX10_52 (by repeat (first | assumption | exact up_s | refine (up_n (by omega)).trans ?_)) rfl ?_
      refine ev_icmp_geF dX10_there_9 35 (by decide) (by first | assumption | exact nI_ge (by omega) (by omega) | decide) ?_
      refine ev_iload_n dX10_there_12 rfl ?_
      first | refine ev_aload_n dX10_there_13 rfl ?_ | refine ev_aload_nN dX10_there_13 rfl ?_
      refine ev_getfield dX10_there_14 fl_RX10_22 (by repeat (first | assumption | exact up_s | refine (up_n (by omega)).trans ?_)) rfl ?_
      refine ev_iload_n dX10_there_17 rfl ?_
      refine ev_bald dX10_there_18 (by repeat (first | assumption | exact up_s | refine (up_n (by omega)).trans ?_)) _ rfl (by omega) (by omega) ?_
      refine ev_if_eqT (tgt := 26) dX10_there_19 (by decide) (by first | assumption | exact z_eq (by omega) | decide) ?_
      refine ev_iconst dX10_there_26 ci1 ?_
      first | refine ev_iaddN dX10_there_27 ?_ | refine ev_iadd dX10_there_27 ?_
      refine ev_istore_n dX10_there_28 (Nat.le_of_ble_eq_true rfl) ?_
      refine ev_iincN (b := 1) dX10_there_29 rfl (Nat.le_of_ble_eq_true rfl) ?_
      refine ev_goto (tgt := 4) dX10_there_32 (by decide) ?_
      refine ev_sub ?_ (ih)
      repeat (first | exact trivial | refine ⟨rfl, ?_⟩)
theorem mm_there (g31 : h 31 = MO made F th) {go : Nat → Nat} (gg : h 36 = aZ 20 go) (hg : ∀ i, i < 20 → go i = if i < made ∧ t i = 0 then 1 else 0) (hm : made ≤ 20) (ht : ∀ i, t i = 0 ∨ t i = 1) : Ev d MX10_there 0 (lv_args 0 [.ref 31]) [] n h (.inl (some (.int (nI (sumN t made)))), n, h, 0, 0) := by
  refine ev_iconst dX10_there_0 ci0 ?_
  refine ev_istore_n dX10_there_1 (Nat.le_of_ble_eq_true rfl) ?_
  refine ev_iconst dX10_there_2 ci0 ?_
  refine ev_istore_n dX10_there_3 (Nat.le_of_ble_eq_true rfl) ?_
  refine ev_sub ?_ (lp_th g31 gg hg hm ht made 0 (by omega))
  repeat (first | exact trivial | refine ⟨rfl, ?_⟩)
theorem mm_pairs (q : WF made t l w S W) (g : MS h th made t l w S W) : ∃ h', Ev (d + 1) MX10_pairs 0 (lv_args 0 [.ref 31]) [] n h (.inl (some (.int (nI (sumN t made)))), n, h', 0, 0) ∧ MS h' 0 made t l w S W ∧ Fm h h' := by
  obtain ⟨⟨F, g31⟩, ga⟩ := g
  obtain ⟨go, b5, c5⟩ := ga.2.2.2.2.1
  refine ⟨va_up h 31 (MO made F 0), ?_, ⟨⟨F, up_s⟩, MA_31 ga⟩, Fm_up Fm_rfl (by omega)⟩
  first | refine ev_aload_n dX10_pairs_0 rfl ?_ | refine ev_aload_nN dX10_pairs_0 rfl ?_
  refine ev_iconst dX10_pairs_1 ci0 ?_
  refine ev_putfield dX10_pairs_2 fl_RX10_48 (fit_10_17 _) (fun q => absurd q (by decide)) (by repeat (first | assumption | exact up_s | refine (up_n (by omega)).trans ?_)) (Nat.le_of_ble_eq_true rfl) ?_
  first | refine ev_aload_n dX10_pairs_5 rfl ?_ | refine ev_aload_nN dX10_pairs_5 rfl ?_
  refine ev_V0 dX10_pairs_6 st_RX10_71 na_X10_there (Nat.le_of_ble_eq_true rfl) (Nat.le_of_ble_eq_true rfl) (by repeat (first | assumption | exact up_s | refine (up_n (by omega)).trans ?_)) rfl (mm_there (F := F) (th := 0) up_s ((up_n (by omega)).trans b5) c5 q.1 q.2.1) ?_
  exact ev_ireturnE dX10_pairs_9 rfl (by rfl)
theorem mm_takeBackT (q : WF made t l w S W) (g : MS h th made t l w S W) {i : Nat} (hi : i < made) (ht : t i = 1) : ∃ h', Ev (d + 2) MX10_takeBack 0 (lv_args 0 [.ref 31, .int (nI i)]) [] n h (.inl (some (.int (nI (sumN (va_up t i 0) made)))), n, h', 0, 0) ∧ MS h' 0 made (va_up t i 0) l w S W ∧ Fm h h' := by
  obtain ⟨⟨F, g31⟩, r1, r2, r3, r4, ⟨go, b5, c5⟩, ⟨a6, b6, c6⟩, ⟨a7, b7, c7⟩, ⟨a8, b8⟩, ⟨a9, b9⟩, ⟨a10, b10⟩, ⟨a11, b11⟩, ⟨a12, b12⟩⟩ := g
  obtain ⟨a1, b1, c1⟩ := r1
  obtain ⟨a2, b2, c2⟩ := r2
  obtain ⟨a3, b3, c3⟩ := r3
  obtain ⟨a4, b4, c4⟩ := r4
  have hm := q.1
  have c5' : ∀ j, j < 20 → va_up go i 1 j = if j < made ∧ va_up t i 0 j = 0 then 1 else 0 := fun j hj => by
    unfold va_up
    by_cases e : j = i
    · rw [if_pos e, if_pos e, if_pos ⟨by omega, rfl⟩]
    · rw [if_neg e, if_neg e]; exact c5 j hj
  have ht' : ∀ j, va_up t i 0 j = 0 ∨ va_up t i 0 j = 1 := fun j => by
    unfold va_up
    split
    · exact Or.inl rfl
    · exact q.2.1 j
  refine ⟨va_up (va_up h 31 (MO made F 0)) 36 (aZ 20 (va_up go i 1)), ?_, ⟨⟨F, (up_n (by omega)).trans up_s⟩, ⟨a1, (up_n (by omega)).trans ((up_n (by omega)).trans b1), c1⟩, ⟨a2, (up_n (by omega)).trans ((up_n (by omega)).trans b2), c2⟩, ⟨a3, (up_n (by omega)).trans ((up_n (by omega)).trans b3), c3⟩, ⟨a4, (up_n (by omega)).trans ((up_n (by omega)).trans b4), c4⟩, ⟨_, up_s, c5'⟩, ⟨a6, (up_n (by omega)).trans ((up_n (by omega)).trans b6), c6⟩, ⟨a7, (up_n (by omega)).trans ((up_n (by omega)).trans b7), c7⟩, ⟨a8, (up_n (by omega)).trans ((up_n (by omega)).trans b8)⟩, ⟨a9, (up_n (by omega)).trans ((up_n (by omega)).trans b9)⟩, ⟨a10, (up_n (by omega)).trans ((up_n (by omega)).trans b10)⟩, ⟨a11, (up_n (by omega)).trans ((up_n (by omega)).trans b11)⟩, ⟨a12, (up_n (by omega)).trans ((up_n (by omega)).trans b12)⟩⟩, Fm_up (Fm_up Fm_rfl (by omega)) (by omega)⟩
  first | refine ev_aload_n dX10_takeBack_0 rfl ?_ | refine ev_aload_nN dX10_takeBack_0 rfl ?_
  first | refine ev_aload_n dX10_takeBack_1 rfl ?_ | refine ev_aload_nN dX10_takeBack_1 rfl ?_
  refine ev_iload_n dX10_takeBack_2 rfl ?_
  refine ev_V1 dX10_takeBack_3 st_RX10_67 na_X10_isThere (Nat.le_of_ble_eq_true rfl) (Nat.le_of_ble_eq_true rfl) (by repeat (first | assumption | exact up_s | refine (up_n (by omega)).trans ?_)) rfl (mm_isThereT g31 b5 c5 hm hi ht) ?_
  refine ev_iconst dX10_takeBack_6 ci1 ?_
  refine ev_iconst dX10_takeBack_7 ci1 ?_
  refine ev_V3 dX10_takeBack_8 st_RX10_59 na_X10_goes (Nat.le_of_ble_eq_true rfl) (Nat.le_of_ble_eq_true rfl) (by repeat (first | assumption | exact up_s | refine (up_n (by omega)).trans ?_)) rfl (mm_goesT g31) ?_
  refine ev_if_neT (tgt := 16) dX10_takeBack_11 (by decide) (by first | assumption | exact nI_ne0 (by omega) (by omega) | decide) ?_
  first | refine ev_aload_n dX10_takeBack_16 rfl ?_ | refine ev_aload_nN dX10_takeBack_16 rfl ?_
  refine ev_getfield dX10_takeBack_17 fl_RX10_22 (by repeat (first | assumption | exact up_s | refine (up_n (by omega)).trans ?_)) rfl ?_
  refine ev_iload_n dX10_takeBack_20 rfl ?_
  refine ev_iconst dX10_takeBack_21 ci1 ?_
  refine ev_bast dX10_takeBack_22 (by omega) (by repeat (first | assumption | exact up_s | refine (up_n (by omega)).trans ?_)) _ _ rfl rfl (by omega) (by omega) (by omega) ?_
  first | refine ev_aload_n dX10_takeBack_23 rfl ?_ | refine ev_aload_nN dX10_takeBack_23 rfl ?_
  refine ev_V0 dX10_takeBack_24 st_RX10_71 na_X10_there (Nat.le_of_ble_eq_true rfl) (Nat.le_of_ble_eq_true rfl) (by repeat (first | assumption | exact up_s | refine (up_n (by omega)).trans ?_)) rfl (mm_there (F := F) (th := 0) ((up_n (by omega)).trans up_s) up_s c5' hm ht') ?_
  exact ev_ireturnE dX10_takeBack_27 rfl (by rfl)
theorem mm_takeBackF (q : WF made t l w S W) (g : MS h th made t l w S W) {x : Int32} (hx : ¬ itIs x made t) : ∃ h' v, Ev (d + 2) MX10_takeBack 0 (lv_args 0 [.ref 31, .int x]) [] n h (.inl (some (.int v)), n, h', 0, 0) ∧ MS h' 1 made t l w S W ∧ Fm h h' := by
  obtain ⟨⟨F, g31⟩, ga⟩ := g
  obtain ⟨go, b5, c5⟩ := ga.2.2.2.2.1
  refine ⟨va_up h 31 (MO made F 1), nI 0, ?_, ⟨⟨F, up_s⟩, MA_31 ga⟩, Fm_up Fm_rfl (by omega)⟩
  first | refine ev_aload_n dX10_takeBack_0 rfl ?_ | refine ev_aload_nN dX10_takeBack_0 rfl ?_
  first | refine ev_aload_n dX10_takeBack_1 rfl ?_ | refine ev_aload_nN dX10_takeBack_1 rfl ?_
  refine ev_iload_n dX10_takeBack_2 rfl ?_
  refine ev_V1 dX10_takeBack_3 st_RX10_67 na_X10_isThere (Nat.le_of_ble_eq_true rfl) (Nat.le_of_ble_eq_true rfl) (by repeat (first | assumption | exact up_s | refine (up_n (by omega)).trans ?_)) rfl (mm_isThereF g31 b5 c5 q.1 q.2.1 hx) ?_
  refine ev_iconst dX10_takeBack_6 ci1 ?_
  refine ev_iconst dX10_takeBack_7 ci1 ?_
  refine ev_V3 dX10_takeBack_8 st_RX10_59 na_X10_goes (Nat.le_of_ble_eq_true rfl) (Nat.le_of_ble_eq_true rfl) (by repeat (first | assumption | exact up_s | refine (up_n (by omega)).trans ?_)) rfl (mm_goes1 g31) ?_
  refine ev_if_neF dX10_takeBack_11 16 (by decide) (by first | assumption | exact z_eq (by omega) | decide) ?_
  refine ev_iconst dX10_takeBack_14 ci0 ?_
  exact ev_ireturnE dX10_takeBack_15 rfl (by rfl)
end MM2
