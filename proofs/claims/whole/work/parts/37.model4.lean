/-! the model: word, share, links -/
section MM4
variable {d n : Nat} {h h' : Hp} {made th : Nat} {t : Nat → Nat} {l : Nat → Nat → Nat} {w : Nat → Nat → Nat → Nat} {S : Nat → Nat → Nat} {W : Nat → Nat} {F : Nat → Nat}
theorem mm_inM {x : Int32} {N : Nat} (hN2 : N < 2 ^ 31) (hx : ¬ inN x N) : Ev d MX10_in 0 (lv_args 0 [.int x, .int (nI 0), .int (nI N - nI 1)]) [] n h (.inl (some (.int (nI 0))), n, h, 0, 0) := by
  by_cases hN : N = 0
  · subst hN
    rcases inN_not hx with q | ⟨i, q1, q2, rfl⟩
    · exact ev_iload_n dX10_in_0 rfl (ev_iload_n dX10_in_1 rfl (ev_icmp_ltT (tgt := 14) dX10_in_2 (by decide) (by rw [← nI_z]; exact q) (ev_iconst dX10_in_14 ci0 (ev_zreturnE dX10_in_15 rfl (Or.inl rfl) rfl))))
    · have e9 : nI 0 - nI 1 < nI i := by
        have e8 : nI 0 - nI 1 = -1 := by decide +kernel
        rw [e8]
        exact Int32.lt_of_lt_of_le (show (-1 : Int32) < 0 by decide) (nI_pos' (by omega))
      exact ev_iload_n dX10_in_0 rfl (ev_iload_n dX10_in_1 rfl (ev_icmp_ltF dX10_in_2 14 (by decide) (nI_nlt (by omega) (by omega)) (ev_iload_n dX10_in_5 rfl (ev_iload_n dX10_in_6 rfl (ev_icmp_gtT (tgt := 14) dX10_in_7 (by decide) e9 (ev_iconst dX10_in_14 ci0 (ev_zreturnE dX10_in_15 rfl (Or.inl rfl) rfl)))))))
  · rw [nI_sub (show 1 ≤ N by omega)]
    exact mm_inF (by omega) hN2 hx
theorem mm_wordT (q : WF made t l w S W) (g : MS h th made t l w S W) {i D j : Nat} (hi : i < made) (ht : t i = 1) (hD : D < 2) (hj : j < 2 ^ 31) : ∃ h', Ev (d + 2) MX10_word 0 (lv_args 0 [.ref 31, .int (nI i), .int (nI D), .int (nI j)]) [] n h (.inl (some (.int (if j < l D i then nI (w D i j) else -1))), n, h', 0, 0) ∧ MS h' 0 made t l w S W ∧ Fm h h' := by
  obtain ⟨⟨F, g31⟩, ga⟩ := g
  obtain ⟨go, b5, c5⟩ := ga.2.2.2.2.1
  obtain ⟨lo, b3, c3⟩ := ga.2.2.1
  obtain ⟨wo, b4, c4⟩ := ga.2.2.2.1
  have hm := q.1
  have cl := c3 D i hD hi
  have l8 := q.2.2.1 D i hD (by omega)
  have G31 : va_up h 31 (MO made F 0) 31 = MO made F 0 := up_s
  refine ⟨va_up h 31 (MO made F 0), ?_, ⟨⟨F, up_s⟩, MA_31 ga⟩, Fm_up Fm_rfl (by omega)⟩
  by_cases z : j < l D i
  · rw [if_pos z, ← c4 D i j hD hi z]
    first | refine ev_aload_n dX10_word_0 rfl ?_ | refine ev_aload_nN dX10_word_0 rfl ?_
    first | refine ev_aload_n dX10_word_1 rfl ?_ | refine ev_aload_nN dX10_word_1 rfl ?_
    refine ev_iload_n dX10_word_2 rfl ?_
    refine ev_V1 dX10_word_3 st_RX10_67 na_X10_isThere (Nat.le_of_ble_eq_true rfl) (Nat.le_of_ble_eq_true rfl) (by repeat (first | assumption | exact up_s | refine (up_n (by omega)).trans ?_)) rfl (mm_isThereT g31 b5 c5 hm hi ht) ?_
    refine ev_if_eqF dX10_word_6 26 (by decide) (by first | assumption | exact nI_ne0 (by omega) (by omega) | decide) ?_
    refine ev_iload_n dX10_word_9 rfl ?_
    refine ev_iconst dX10_word_10 ci0 ?_
    refine ev_iconst dX10_word_11 ci1 ?_
    refine ev_S3 dX10_word_12 st_RX10_55 na_X10_in (Nat.le_of_ble_eq_true rfl) (Nat.le_of_ble_eq_true rfl) (mm_inT (by omega) (show D ≤ 1 by omega) (by omega)) ?_
    refine ev_if_eqF dX10_word_15 26 (by decide) (by first | assumption | exact nI_ne0 (by omega) (by omega) | decide) ?_
    refine ev_iload_n dX10_word_18 rfl ?_
    refine ev_if_ltF dX10_word_19 26 (by decide) (fun c => absurd (nI_pos' hj) (Int32.not_le.mpr c)) ?_
    refine ev_iconst dX10_word_22 ci1 ?_
    refine ev_goto (tgt := 27) dX10_word_23 (by decide) ?_
    refine ev_iconst dX10_word_27 ci1 ?_
    refine ev_iconst dX10_word_28 ci1 ?_
    refine ev_V3 dX10_word_29 st_RX10_59 na_X10_goes (Nat.le_of_ble_eq_true rfl) (Nat.le_of_ble_eq_true rfl) (by repeat (first | assumption | exact up_s | refine (up_n (by omega)).trans ?_)) rfl (mm_goesT g31) ?_
    refine ev_if_neT (tgt := 37) dX10_word_32 (by decide) (by first | assumption | exact nI_ne0 (by omega) (by omega) | decide) ?_
    refine ev_iload_n dX10_word_37 rfl ?_
    first | refine ev_aload_n dX10_word_38 rfl ?_ | refine ev_aload_nN dX10_word_38 rfl ?_
    refine ev_iload_n dX10_word_39 rfl ?_
    refine ev_iload_n dX10_word_40 rfl ?_
    refine ev_V2 dX10_word_41 st_RX10_74 na_X10_longOf (Nat.le_of_ble_eq_true rfl) (Nat.le_of_ble_eq_true rfl) (by repeat (first | assumption | exact up_s | refine (up_n (by omega)).trans ?_)) rfl (mm_longOf G31 ((up_n (by omega)).trans b3) (show i < 20 by omega) hD) ?_
    refine ev_icmp_geF dX10_word_44 57 (by decide) (by first | assumption | exact nI_ge (by omega) (by omega) | decide) ?_
    first | refine ev_aload_n dX10_word_47 rfl ?_ | refine ev_aload_nN dX10_word_47 rfl ?_
    refine ev_iload_n dX10_word_48 rfl ?_
    refine ev_iload_n dX10_word_49 rfl ?_
    refine ev_iload_n dX10_word_50 rfl ?_
    refine ev_V3 dX10_word_51 st_RX10_77 na_X10_wordAt (Nat.le_of_ble_eq_true rfl) (Nat.le_of_ble_eq_true rfl) (by repeat (first | assumption | exact up_s | refine (up_n (by omega)).trans ?_)) rfl (mm_wordAt G31 ((up_n (by omega)).trans b4) (show i < 20 by omega) hD (show j < 8 by omega)) ?_
    refine ev_goto (tgt := 58) dX10_word_54 (by decide) ?_
    exact ev_ireturnE dX10_word_58 rfl (by rfl)
  · rw [if_neg z]
    first | refine ev_aload_n dX10_word_0 rfl ?_ | refine ev_aload_nN dX10_word_0 rfl ?_
    first | refine ev_aload_n dX10_word_1 rfl ?_ | refine ev_aload_nN dX10_word_1 rfl ?_
    refine ev_iload_n dX10_word_2 rfl ?_
    refine ev_V1 dX10_word_3 st_RX10_67 na_X10_isThere (Nat.le_of_ble_eq_true rfl) (Nat.le_of_ble_eq_true rfl) (by repeat (first | assumption | exact up_s | refine (up_n (by omega)).trans ?_)) rfl (mm_isThereT g31 b5 c5 hm hi ht) ?_
    refine ev_if_eqF dX10_word_6 26 (by decide) (by first | assumption | exact nI_ne0 (by omega) (by omega) | decide) ?_
    refine ev_iload_n dX10_word_9 rfl ?_
    refine ev_iconst dX10_word_10 ci0 ?_
    refine ev_iconst dX10_word_11 ci1 ?_
    refine ev_S3 dX10_word_12 st_RX10_55 na_X10_in (Nat.le_of_ble_eq_true rfl) (Nat.le_of_ble_eq_true rfl) (mm_inT (by omega) (show D ≤ 1 by omega) (by omega)) ?_
    refine ev_if_eqF dX10_word_15 26 (by decide) (by first | assumption | exact nI_ne0 (by omega) (by omega) | decide) ?_
    refine ev_iload_n dX10_word_18 rfl ?_
    refine ev_if_ltF dX10_word_19 26 (by decide) (fun c => absurd (nI_pos' hj) (Int32.not_le.mpr c)) ?_
    refine ev_iconst dX10_word_22 ci1 ?_
    refine ev_goto (tgt := 27) dX10_word_23 (by decide) ?_
    refine ev_iconst dX10_word_27 ci1 ?_
    refine ev_iconst dX10_word_28 ci1 ?_
    refine ev_V3 dX10_word_29 st_RX10_59 na_X10_goes (Nat.le_of_ble_eq_true rfl) (Nat.le_of_ble_eq_true rfl) (by repeat (first | assumption | exact up_s | refine (up_n (by omega)).trans ?_)) rfl (mm_goesT g31) ?_
    refine ev_if_neT (tgt := 37) dX10_word_32 (by decide) (by first | assumption | exact nI_ne0 (by omega) (by omega) | decide) ?_
    refine ev_iload_n dX10_word_37 rfl ?_
    first | refine ev_aload_n dX10_word_38 rfl ?_ | refine ev_aload_nN dX10_word_38 rfl ?_
    refine ev_iload_n dX10_word_39 rfl ?_
    refine ev_iload_n dX10_word_40 rfl ?_
    refine ev_V2 dX10_word_41 st_RX10_74 na_X10_longOf (Nat.le_of_ble_eq_true rfl) (Nat.le_of_ble_eq_true rfl) (by repeat (first | assumption | exact up_s | refine (up_n (by omega)).trans ?_)) rfl (mm_longOf G31 ((up_n (by omega)).trans b3) (show i < 20 by omega) hD) ?_
    refine ev_icmp_geT (tgt := 57) dX10_word_44 (by decide) (by first | assumption | exact nI_le (by omega) (by omega) | decide) ?_
    refine ev_iconst dX10_word_57 cm1 ?_
    exact ev_ireturnE dX10_word_58 rfl (by rfl)
theorem mm_wordF (q : WF made t l w S W) (g : MS h th made t l w S W) {x y z : Int32} (hx : ¬ itIs x made t ∨ ¬ inN y 2 ∨ z < 0) : ∃ h' v, Ev (d + 2) MX10_word 0 (lv_args 0 [.ref 31, .int x, .int y, .int z]) [] n h (.inl (some (.int v)), n, h', 0, 0) ∧ MS h' 1 made t l w S W ∧ Fm h h' := by
  obtain ⟨⟨F, g31⟩, ga⟩ := g
  obtain ⟨go, b5, c5⟩ := ga.2.2.2.2.1
  have hm := q.1
  refine ⟨va_up h 31 (MO made F 1), nI 0, ?_, ⟨⟨F, up_s⟩, MA_31 ga⟩, Fm_up Fm_rfl (by omega)⟩
  by_cases q1 : itIs x made t
  · obtain ⟨i, hi, ht, rfl⟩ := q1
    by_cases q2 : inN y 2
    · obtain ⟨D, hD, rfl⟩ := q2
      have q3 : z < 0 := hx.elim (fun c => absurd ⟨i, hi, ht, rfl⟩ c) (fun c => c.elim (fun c => absurd ⟨D, hD, rfl⟩ c) id)
      first | refine ev_aload_n dX10_word_0 rfl ?_ | refine ev_aload_nN dX10_word_0 rfl ?_
      first | refine ev_aload_n dX10_word_1 rfl ?_ | refine ev_aload_nN dX10_word_1 rfl ?_
      refine ev_iload_n dX10_word_2 rfl ?_
      refine ev_V1 dX10_word_3 st_RX10_67 na_X10_isThere (Nat.le_of_ble_eq_true rfl) (Nat.le_of_ble_eq_true rfl) (by repeat (first | assumption | exact up_s | refine (up_n (by omega)).trans ?_)) rfl (mm_isThereT g31 b5 c5 hm hi ht) ?_
      refine ev_if_eqF dX10_word_6 26 (by decide) (by first | assumption | exact nI_ne0 (by omega) (by omega) | decide) ?_
      refine ev_iload_n dX10_word_9 rfl ?_
      refine ev_iconst dX10_word_10 ci0 ?_
      refine ev_iconst dX10_word_11 ci1 ?_
      refine ev_S3 dX10_word_12 st_RX10_55 na_X10_in (Nat.le_of_ble_eq_true rfl) (Nat.le_of_ble_eq_true rfl) (mm_inT (by omega) (show D ≤ 1 by omega) (by omega)) ?_
      refine ev_if_eqF dX10_word_15 26 (by decide) (by first | assumption | exact nI_ne0 (by omega) (by omega) | decide) ?_
      refine ev_iload_n dX10_word_18 rfl ?_
      refine ev_if_ltT (tgt := 26) dX10_word_19 (by decide) q3 ?_
      refine ev_iconst dX10_word_26 ci0 ?_
      refine ev_iconst dX10_word_27 ci1 ?_
      refine ev_iconst dX10_word_28 ci1 ?_
      refine ev_V3 dX10_word_29 st_RX10_59 na_X10_goes (Nat.le_of_ble_eq_true rfl) (Nat.le_of_ble_eq_true rfl) (by repeat (first | assumption | exact up_s | refine (up_n (by omega)).trans ?_)) rfl (mm_goes1 g31) ?_
      refine ev_if_neF dX10_word_32 37 (by decide) (by first | assumption | exact z_eq (by omega) | decide) ?_
      refine ev_iconst dX10_word_35 ci0 ?_
      exact ev_ireturnE dX10_word_36 rfl (by rfl)
    · first | refine ev_aload_n dX10_word_0 rfl ?_ | refine ev_aload_nN dX10_word_0 rfl ?_
      first | refine ev_aload_n dX10_word_1 rfl ?_ | refine ev_aload_nN dX10_word_1 rfl ?_
      refine ev_iload_n dX10_word_2 rfl ?_
      refine ev_V1 dX10_word_3 st_RX10_67 na_X10_isThere (Nat.le_of_ble_eq_true rfl) (Nat.le_of_ble_eq_true rfl) (by repeat (first | assumption | exact up_s | refine (up_n (by omega)).trans ?_)) rfl (mm_isThereT g31 b5 c5 hm hi ht) ?_
      refine ev_if_eqF dX10_word_6 26 (by decide) (by first | assumption | exact nI_ne0 (by omega) (by omega) | decide) ?_
      refine ev_iload_n dX10_word_9 rfl ?_
      refine ev_iconst dX10_word_10 ci0 ?_
      refine ev_iconst dX10_word_11 ci1 ?_
      refine ev_S3 dX10_word_12 st_RX10_55 na_X10_in (Nat.le_of_ble_eq_true rfl) (Nat.le_of_ble_eq_true rfl) (mm_inF (N := 2) (by omega) (by omega) q2) ?_
      refine ev_if_eqT (tgt := 26) dX10_word_15 (by decide) (by first | assumption | exact z_eq (by omega) | decide) ?_
      refine ev_iconst dX10_word_26 ci0 ?_
      refine ev_iconst dX10_word_27 ci1 ?_
      refine ev_iconst dX10_word_28 ci1 ?_
      refine ev_V3 dX10_word_29 st_RX10_59 na_X10_goes (Nat.le_of_ble_eq_true rfl) (Nat.le_of_ble_eq_true rfl) (by repeat (first | assumption | exact up_s | refine (up_n (by omega)).trans ?_)) rfl (mm_goes1 g31) ?_
      refine ev_if_neF dX10_word_32 37 (by decide) (by first | assumption | exact z_eq (by omega) | decide) ?_
      refine ev_iconst dX10_word_35 ci0 ?_
      exact ev_ireturnE dX10_word_36 rfl (by rfl)
  · first | refine ev_aload_n dX10_word_0 rfl ?_ | refine ev_aload_nN dX10_word_0 rfl ?_
    first | refine ev_aload_n dX10_word_1 rfl ?_ | refine ev_aload_nN dX10_word_1 rfl ?_
    refine ev_iload_n dX10_word_2 rfl ?_
    refine ev_V1 dX10_word_3 st_RX10_67 na_X10_isThere (Nat.le_of_ble_eq_true rfl) (Nat.le_of_ble_eq_true rfl) (by repeat (first | assumption | exact up_s | refine (up_n (by omega)).trans ?_)) rfl (mm_isThereF g31 b5 c5 hm q.2.1 q1) ?_
    refine ev_if_eqT (tgt := 26) dX10_word_6 (by decide) (by first | assumption | exact z_eq (by omega) | decide) ?_
    refine ev_iconst dX10_word_26 ci0 ?_
    refine ev_iconst dX10_word_27 ci1 ?_
    refine ev_iconst dX10_word_28 ci1 ?_
    refine ev_V3 dX10_word_29 st_RX10_59 na_X10_goes (Nat.le_of_ble_eq_true rfl) (Nat.le_of_ble_eq_true rfl) (by repeat (first | assumption | exact up_s | refine (up_n (by omega)).trans ?_)) rfl (mm_goes1 g31) ?_
    refine ev_if_neF dX10_word_32 37 (by decide) (by first | assumption | exact z_eq (by omega) | decide) ?_
    refine ev_iconst dX10_word_35 ci0 ?_
    exact ev_ireturnE dX10_word_36 rfl (by rfl)
theorem mm_shareT (g : MS h th made t l w S W) {D wd o : Nat} (hD : D < 2) (hw : wd ≤ 15) (ho : o < 15) : ∃ h', Ev (d + 1) MX10_share 0 (lv_args 0 [.ref 31, .int (nI D), .int (nI wd), .int (nI o)]) [] n h (.inl (some (.int (nI (S D (15 * wd + o))))), n, h', 0, 0) ∧ MS h' 0 made t l w S W ∧ Fm h h' := by
  obtain ⟨⟨F, g31⟩, ga⟩ := g
  obtain ⟨sh, b7, c7⟩ := ga.2.2.2.2.2.2.1
  refine ⟨va_up h 31 (MO made F 0), ?_, ⟨⟨F, up_s⟩, MA_31 ga⟩, Fm_up Fm_rfl (by omega)⟩
  have e := c7 D (15 * wd + o) hD (by omega)
  rw [← e, show 240 * D + (15 * wd + o) = 240 * D + 15 * wd + o by omega]
  refine ev_iload_n dX10_share_0 rfl ?_
  refine ev_iconst dX10_share_1 ci0 ?_
  refine ev_iconst dX10_share_2 ci1 ?_
  refine ev_S3 dX10_share_3 st_RX10_55 na_X10_in (Nat.le_of_ble_eq_true rfl) (Nat.le_of_ble_eq_true rfl) (mm_inT (by omega) (show D ≤ 1 by omega) (by omega)) ?_
  refine ev_if_eqF dX10_share_6 33 (by decide) (by first | assumption | exact nI_ne0 (by omega) (by omega) | decide) ?_
  refine ev_iload_n dX10_share_9 rfl ?_
  refine ev_iconst dX10_share_10 ci0 ?_
  refine ev_bipush dX10_share_11 bp15 ?_
  refine ev_S3 dX10_share_13 st_RX10_55 na_X10_in (Nat.le_of_ble_eq_true rfl) (Nat.le_of_ble_eq_true rfl) (mm_inT (by omega) (show wd ≤ 15 by omega) (by omega)) ?_
  refine ev_if_eqF dX10_share_16 33 (by decide) (by first | assumption | exact nI_ne0 (by omega) (by omega) | decide) ?_
  refine ev_iload_n dX10_share_19 rfl ?_
  refine ev_iconst dX10_share_20 ci0 ?_
  refine ev_bipush dX10_share_21 bp14 ?_
  refine ev_S3 dX10_share_23 st_RX10_55 na_X10_in (Nat.le_of_ble_eq_true rfl) (Nat.le_of_ble_eq_true rfl) (mm_inT (by omega) (show o ≤ 14 by omega) (by omega)) ?_
  refine ev_if_eqF dX10_share_26 33 (by decide) (by first | assumption | exact nI_ne0 (by omega) (by omega) | decide) ?_
  refine ev_iconst dX10_share_29 ci1 ?_
  refine ev_goto (tgt := 34) dX10_share_30 (by decide) ?_
  refine ev_istore dX10_share_34 (Nat.le_of_ble_eq_true rfl) ?_
  first | refine ev_aload_n dX10_share_36 rfl ?_ | refine ev_aload_nN dX10_share_36 rfl ?_
  refine ev_iload dX10_share_37 rfl ?_
  refine ev_iconst dX10_share_39 ci1 ?_
  refine ev_iconst dX10_share_40 ci1 ?_
  refine ev_V3 dX10_share_41 st_RX10_59 na_X10_goes (Nat.le_of_ble_eq_true rfl) (Nat.le_of_ble_eq_true rfl) (by repeat (first | assumption | exact up_s | refine (up_n (by omega)).trans ?_)) rfl (mm_goesT g31) ?_
  refine ev_if_eqF dX10_share_44 61 (by decide) (by first | assumption | exact nI_ne0 (by omega) (by omega) | decide) ?_
  first | refine ev_aload_n dX10_share_47 rfl ?_ | refine ev_aload_nN dX10_share_47 rfl ?_
  refine ev_getfield dX10_share_48 fl_RX10_29 (by repeat (first | assumption | exact up_s | refine (up_n (by omega)).trans ?_)) rfl ?_
  refine ev_iload_n dX10_share_51 rfl ?_
  refine ev_iload_n dX10_share_52 rfl ?_
  refine ev_iload_n dX10_share_53 rfl ?_
  refine ev_S3 dX10_share_54 st_RX10_81 na_X10_at (Nat.le_of_ble_eq_true rfl) (Nat.le_of_ble_eq_true rfl) (mm_at) ?_
  refine ev_iald dX10_share_57 (by repeat (first | assumption | exact up_s | refine (up_n (by omega)).trans ?_)) _ rfl (by omega) (by omega) ?_
  refine ev_goto (tgt := 62) dX10_share_58 (by decide) ?_
  exact ev_ireturnE dX10_share_62 rfl (by rfl)
theorem mm_shareF (g : MS h th made t l w S W) {x y z : Int32} (hx : ¬ inN x 2 ∨ ¬ inN y 16 ∨ ¬ inN z 15) : ∃ h' v, Ev (d + 1) MX10_share 0 (lv_args 0 [.ref 31, .int x, .int y, .int z]) [] n h (.inl (some (.int v)), n, h', 0, 0) ∧ MS h' 1 made t l w S W ∧ Fm h h' := by
  obtain ⟨⟨F, g31⟩, ga⟩ := g
  refine ⟨va_up h 31 (MO made F 1), nI 0, ?_, ⟨⟨F, up_s⟩, MA_31 ga⟩, Fm_up Fm_rfl (by omega)⟩
  by_cases q : inN x 2
  · obtain ⟨D, hD, rfl⟩ := q
    by_cases q2 : inN y 16
    · obtain ⟨wd, hw, rfl⟩ := q2
      have q3 : ¬ inN z 15 := hx.elim (fun c => absurd ⟨D, hD, rfl⟩ c) (fun c => c.elim (fun c => absurd ⟨wd, hw, rfl⟩ c) id)
      refine ev_iload_n dX10_share_0 rfl ?_
      refine ev_iconst dX10_share_1 ci0 ?_
      refine ev_iconst dX10_share_2 ci1 ?_
      refine ev_S3 dX10_share_3 st_RX10_55 na_X10_in (Nat.le_of_ble_eq_true rfl) (Nat.le_of_ble_eq_true rfl) (mm_inT (by omega) (show D ≤ 1 by omega) (by omega)) ?_
      refine ev_if_eqF dX10_share_6 33 (by decide) (by first | assumption | exact nI_ne0 (by omega) (by omega) | decide) ?_
      refine ev_iload_n dX10_share_9 rfl ?_
      refine ev_iconst dX10_share_10 ci0 ?_
      refine ev_bipush dX10_share_11 bp15 ?_
      refine ev_S3 dX10_share_13 st_RX10_55 na_X10_in (Nat.le_of_ble_eq_true rfl) (Nat.le_of_ble_eq_true rfl) (mm_inT (by omega) (show wd ≤ 15 by omega) (by omega)) ?_
      refine ev_if_eqF dX10_share_16 33 (by decide) (by first | assumption | exact nI_ne0 (by omega) (by omega) | decide) ?_
      refine ev_iload_n dX10_share_19 rfl ?_
      refine ev_iconst dX10_share_20 ci0 ?_
      refine ev_bipush dX10_share_21 bp14 ?_
      refine ev_S3 dX10_share_23 st_RX10_55 na_X10_in (Nat.le_of_ble_eq_true rfl) (Nat.le_of_ble_eq_true rfl) (mm_inF (N := 15) (by omega) (by omega) q3) ?_
      refine ev_if_eqT (tgt := 33) dX10_share_26 (by decide) (by first | assumption | exact z_eq (by omega) | decide) ?_
      refine ev_iconst dX10_share_33 ci0 ?_
      refine ev_istore dX10_share_34 (Nat.le_of_ble_eq_true rfl) ?_
      first | refine ev_aload_n dX10_share_36 rfl ?_ | refine ev_aload_nN dX10_share_36 rfl ?_
      refine ev_iload dX10_share_37 rfl ?_
      refine ev_iconst dX10_share_39 ci1 ?_
      refine ev_iconst dX10_share_40 ci1 ?_
      refine ev_V3 dX10_share_41 st_RX10_59 na_X10_goes (Nat.le_of_ble_eq_true rfl) (Nat.le_of_ble_eq_true rfl) (by repeat (first | assumption | exact up_s | refine (up_n (by omega)).trans ?_)) rfl (mm_goes1 g31) ?_
      refine ev_if_eqT (tgt := 61) dX10_share_44 (by decide) (by first | assumption | exact z_eq (by omega) | decide) ?_
      refine ev_iconst dX10_share_61 ci0 ?_
      exact ev_ireturnE dX10_share_62 rfl (by rfl)
    · refine ev_iload_n dX10_share_0 rfl ?_
      refine ev_iconst dX10_share_1 ci0 ?_
      refine ev_iconst dX10_share_2 ci1 ?_
      refine ev_S3 dX10_share_3 st_RX10_55 na_X10_in (Nat.le_of_ble_eq_true rfl) (Nat.le_of_ble_eq_true rfl) (mm_inT (by omega) (show D ≤ 1 by omega) (by omega)) ?_
      refine ev_if_eqF dX10_share_6 33 (by decide) (by first | assumption | exact nI_ne0 (by omega) (by omega) | decide) ?_
      refine ev_iload_n dX10_share_9 rfl ?_
      refine ev_iconst dX10_share_10 ci0 ?_
      refine ev_bipush dX10_share_11 bp15 ?_
      refine ev_S3 dX10_share_13 st_RX10_55 na_X10_in (Nat.le_of_ble_eq_true rfl) (Nat.le_of_ble_eq_true rfl) (mm_inF (N := 16) (by omega) (by omega) q2) ?_
      refine ev_if_eqT (tgt := 33) dX10_share_16 (by decide) (by first | assumption | exact z_eq (by omega) | decide) ?_
      refine ev_iconst dX10_share_33 ci0 ?_
      refine ev_istore dX10_share_34 (Nat.le_of_ble_eq_true rfl) ?_
      first | refine ev_aload_n dX10_share_36 rfl ?_ | refine ev_aload_nN dX10_share_36 rfl ?_
      refine ev_iload dX10_share_37 rfl ?_
      refine ev_iconst dX10_share_39 ci1 ?_
      refine ev_iconst dX10_share_40 ci1 ?_
      refine ev_V3 dX10_share_41 st_RX10_59 na_X10_goes (Nat.le_of_ble_eq_true rfl) (Nat.le_of_ble_eq_true rfl) (by repeat (first | assumption | exact up_s | refine (up_n (by omega)).trans ?_)) rfl (mm_goes1 g31) ?_
      refine ev_if_eqT (tgt := 61) dX10_share_44 (by decide) (by first | assumption | exact z_eq (by omega) | decide) ?_
      refine ev_iconst dX10_share_61 ci0 ?_
      exact ev_ireturnE dX10_share_62 rfl (by rfl)
  · refine ev_iload_n dX10_share_0 rfl ?_
    refine ev_iconst dX10_share_1 ci0 ?_
    refine ev_iconst dX10_share_2 ci1 ?_
    refine ev_S3 dX10_share_3 st_RX10_55 na_X10_in (Nat.le_of_ble_eq_true rfl) (Nat.le_of_ble_eq_true rfl) (mm_inF (N := 2) (by omega) (by omega) q) ?_
    refine ev_if_eqT (tgt := 33) dX10_share_6 (by decide) (by first | assumption | exact z_eq (by omega) | decide) ?_
    refine ev_iconst dX10_share_33 ci0 ?_
    refine ev_istore dX10_share_34 (Nat.le_of_ble_eq_true rfl) ?_
    first | refine ev_aload_n dX10_share_36 rfl ?_ | refine ev_aload_nN dX10_share_36 rfl ?_
    refine ev_iload dX10_share_37 rfl ?_
    refine ev_iconst dX10_share_39 ci1 ?_
    refine ev_iconst dX10_share_40 ci1 ?_
    refine ev_V3 dX10_share_41 st_RX10_59 na_X10_goes (Nat.le_of_ble_eq_true rfl) (Nat.le_of_ble_eq_true rfl) (by repeat (first | assumption | exact up_s | refine (up_n (by omega)).trans ?_)) rfl (mm_goes1 g31) ?_
    refine ev_if_eqT (tgt := 61) dX10_share_44 (by decide) (by first | assumption | exact z_eq (by omega) | decide) ?_
    refine ev_iconst dX10_share_61 ci0 ?_
    exact ev_ireturnE dX10_share_62 rfl (by rfl)
theorem mm_isPlaceT (q : WF made t l w S W) (g31 : h 31 = MO made F th) (ga : MA h made t l w S W) {i D j : Nat} (hi : i < made) (ht : t i = 1) (hD : D < 2) (hj : j < l D i) : Ev (d + 2) MX10_isPlace 0 (lv_args 0 [.ref 31, .int (nI i), .int (nI D), .int (nI j)]) [] n h (.inl (some (.int (nI 1))), n, h, 0, 0) := by
  obtain ⟨go, b5, c5⟩ := ga.2.2.2.2.1
  obtain ⟨lo, b3, c3⟩ := ga.2.2.1
  have hm := q.1
  have cl := c3 D i hD hi
  have l8 := q.2.2.1 D i hD (by omega)
  first | refine ev_aload_n dX10_isPlace_0 rfl ?_ | refine ev_aload_nN dX10_isPlace_0 rfl ?_
  refine ev_iload_n dX10_isPlace_1 rfl ?_
  refine ev_V1 dX10_isPlace_2 st_RX10_67 na_X10_isThere (Nat.le_of_ble_eq_true rfl) (Nat.le_of_ble_eq_true rfl) (by repeat (first | assumption | exact up_s | refine (up_n (by omega)).trans ?_)) rfl (mm_isThereT g31 b5 c5 hm hi ht) ?_
  refine ev_if_eqF dX10_isPlace_5 28 (by decide) (by first | assumption | exact nI_ne0 (by omega) (by omega) | decide) ?_
  refine ev_iload_n dX10_isPlace_8 rfl ?_
  refine ev_iconst dX10_isPlace_9 ci0 ?_
  first | refine ev_aload_n dX10_isPlace_10 rfl ?_ | refine ev_aload_nN dX10_isPlace_10 rfl ?_
  refine ev_iload_n dX10_isPlace_11 rfl ?_
  refine ev_iload_n dX10_isPlace_12 rfl ?_
  refine ev_V2 dX10_isPlace_13 st_RX10_74 na_X10_longOf (Nat.le_of_ble_eq_true rfl) (Nat.le_of_ble_eq_true rfl) (by repeat (first | assumption | exact up_s | refine (up_n (by omega)).trans ?_)) rfl (mm_longOf g31 b3 (show i < 20 by omega) hD) ?_
  refine ev_iconst dX10_isPlace_16 ci1 ?_
  first | refine ev_isubN dX10_isPlace_17 (by omega) ?_ | refine ev_isub dX10_isPlace_17 ?_
  refine ev_S3 dX10_isPlace_18 st_RX10_55 na_X10_in (Nat.le_of_ble_eq_true rfl) (Nat.le_of_ble_eq_true rfl) (mm_inT (by omega) (show j ≤ lo (2 * i + D) - 1 by omega) (by omega)) ?_
  refine ev_if_eqF dX10_isPlace_21 28 (by decide) (by first | assumption | exact nI_ne0 (by omega) (by omega) | decide) ?_
  refine ev_iconst dX10_isPlace_24 ci1 ?_
  refine ev_goto (tgt := 29) dX10_isPlace_25 (by decide) ?_
  exact ev_zreturnE dX10_isPlace_29 rfl (by first | exact Or.inl rfl | exact Or.inr rfl | assumption | exact z01 (bI_01 _) | exact z01 (by omega)) (by rfl)
theorem mm_isPlaceF (q : WF made t l w S W) (g31 : h 31 = MO made F th) (ga : MA h made t l w S W) {x z : Int32} {D : Nat} (hD : D < 2) (hx : ¬ itIs x made t ∨ ∀ i, i < made → x = nI i → ¬ inN z (l D i)) : Ev (d + 2) MX10_isPlace 0 (lv_args 0 [.ref 31, .int x, .int (nI D), .int z]) [] n h (.inl (some (.int (nI 0))), n, h, 0, 0) := by
  obtain ⟨go, b5, c5⟩ := ga.2.2.2.2.1
  obtain ⟨lo, b3, c3⟩ := ga.2.2.1
  have hm := q.1
  by_cases q1 : itIs x made t
  · obtain ⟨i, hi, ht, rfl⟩ := q1
    have hx := hx.elim (fun c => absurd ⟨i, hi, ht, rfl⟩ c) (fun c => c i hi rfl)
    have cl := c3 D i hD hi
    have l8 := q.2.2.1 D i hD (by omega)
    rw [← cl] at hx
    first | refine ev_aload_n dX10_isPlace_0 rfl ?_ | refine ev_aload_nN dX10_isPlace_0 rfl ?_
    refine ev_iload_n dX10_isPlace_1 rfl ?_
    refine ev_V1 dX10_isPlace_2 st_RX10_67 na_X10_isThere (Nat.le_of_ble_eq_true rfl) (Nat.le_of_ble_eq_true rfl) (by repeat (first | assumption | exact up_s | refine (up_n (by omega)).trans ?_)) rfl (mm_isThereT g31 b5 c5 hm hi ht) ?_
    refine ev_if_eqF dX10_isPlace_5 28 (by decide) (by first | assumption | exact nI_ne0 (by omega) (by omega) | decide) ?_
    refine ev_iload_n dX10_isPlace_8 rfl ?_
    refine ev_iconst dX10_isPlace_9 ci0 ?_
    first | refine ev_aload_n dX10_isPlace_10 rfl ?_ | refine ev_aload_nN dX10_isPlace_10 rfl ?_
    refine ev_iload_n dX10_isPlace_11 rfl ?_
    refine ev_iload_n dX10_isPlace_12 rfl ?_
    refine ev_V2 dX10_isPlace_13 st_RX10_74 na_X10_longOf (Nat.le_of_ble_eq_true rfl) (Nat.le_of_ble_eq_true rfl) (by repeat (first | assumption | exact up_s | refine (up_n (by omega)).trans ?_)) rfl (mm_longOf g31 b3 (show i < 20 by omega) hD) ?_
    refine ev_iconst dX10_isPlace_16 ci1 ?_
    first | refine ev_isubN dX10_isPlace_17 (by omega) ?_ | refine ev_isub dX10_isPlace_17 ?_
    refine ev_S3 dX10_isPlace_18 st_RX10_55 na_X10_in (Nat.le_of_ble_eq_true rfl) (Nat.le_of_ble_eq_true rfl) (mm_inM (N := lo (2 * i + D)) (by omega) hx) ?_
    refine ev_if_eqT (tgt := 28) dX10_isPlace_21 (by decide) (by first | assumption | exact z_eq (by omega) | decide) ?_
    refine ev_iconst dX10_isPlace_28 ci0 ?_
    exact ev_zreturnE dX10_isPlace_29 rfl (by first | exact Or.inl rfl | exact Or.inr rfl | assumption | exact z01 (bI_01 _) | exact z01 (by omega)) (by rfl)
  · first | refine ev_aload_n dX10_isPlace_0 rfl ?_ | refine ev_aload_nN dX10_isPlace_0 rfl ?_
    refine ev_iload_n dX10_isPlace_1 rfl ?_
    refine ev_V1 dX10_isPlace_2 st_RX10_67 na_X10_isThere (Nat.le_of_ble_eq_true rfl) (Nat.le_of_ble_eq_true rfl) (by repeat (first | assumption | exact up_s | refine (up_n (by omega)).trans ?_)) rfl (mm_isThereF g31 b5 c5 hm q.2.1 q1) ?_
    refine ev_if_eqT (tgt := 28) dX10_isPlace_5 (by decide) (by first | assumption | exact z_eq (by omega) | decide) ?_
    refine ev_iconst dX10_isPlace_28 ci0 ?_
    exact ev_zreturnE dX10_isPlace_29 rfl (by first | exact Or.inl rfl | exact Or.inr rfl | assumption | exact z01 (bI_01 _) | exact z01 (by omega)) (by rfl)
end MM4
