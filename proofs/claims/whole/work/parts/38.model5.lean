/-! the model: the link of a place -/
section MM5
variable {d n : Nat} {h h' : Hp} {made th : Nat} {t : Nat → Nat} {l : Nat → Nat → Nat} {w : Nat → Nat → Nat → Nat} {S : Nat → Nat → Nat} {W : Nat → Nat} {F : Nat → Nat}
/-- how far apart -/
def btw (a b : Nat) : Nat := if a < b then b - a else a - b
theorem mm_between {a b : Nat} (ha : a < 2 ^ 31) (hb : b < 2 ^ 31) : Ev d MX10_between 0 (lv_args 0 [.int (nI a), .int (nI b)]) [] n h (.inl (some (.int (nI (btw a b)))), n, h, 0, 0) := by
  by_cases q : a < b
  · rw [show btw a b = b - a from if_pos q]
    refine ev_iload_n dX10_between_0 rfl ?_
    refine ev_iload_n dX10_between_1 rfl ?_
    refine ev_icmp_geF dX10_between_2 11 (by decide) (by first | assumption | exact nI_ge (by omega) (by omega) | decide) ?_
    refine ev_iload_n dX10_between_5 rfl ?_
    refine ev_iload_n dX10_between_6 rfl ?_
    first | refine ev_isubN dX10_between_7 (by omega) ?_ | refine ev_isub dX10_between_7 ?_
    refine ev_goto (tgt := 14) dX10_between_8 (by decide) ?_
    exact ev_ireturnE dX10_between_14 rfl (by rfl)
  · rw [show btw a b = a - b from if_neg q]
    refine ev_iload_n dX10_between_0 rfl ?_
    refine ev_iload_n dX10_between_1 rfl ?_
    refine ev_icmp_geT (tgt := 11) dX10_between_2 (by decide) (by first | assumption | exact nI_le (by omega) (by omega) | decide) ?_
    refine ev_iload_n dX10_between_11 rfl ?_
    refine ev_iload_n dX10_between_12 rfl ?_
    first | refine ev_isubN dX10_between_13 (by omega) ?_ | refine ev_isub dX10_between_13 ?_
    exact ev_ireturnE dX10_between_14 rfl (by rfl)
theorem lm_lo (q : WF made t l w S W) (g31 : h 31 = MO made F th) (ga : MA h made t l w S W) {i D j : Nat} (hi : i < made) (hD : D < 2) (hj : j < l (1 - D) i) :
    ∀ k p, p + k = l D i → Ev (d + 1) MX10_linkOf 20 [(0, .ref 31), (1, .int (nI D)), (2, .int (nI i)), (3, .int (nI j)), (4, .int (nI (w (1 - D) i j))), (5, .int (bo (bsF (fun x => S D (15 * w D i x + w (1 - D) i j) * W (apart x j)) p).1)), (6, .int (nI (bsF (fun x => S D (15 * w D i x + w (1 - D) i j) * W (apart x j)) p).2)), (7, .int (nI p))] [] n h (.inl (some (.int (bo (lkF S W l w i D j)))), n, h, 0, 0) := by
  obtain ⟨lo, b3, c3⟩ := ga.2.2.1
  obtain ⟨wo, b4, c4⟩ := ga.2.2.2.1
  obtain ⟨ww, b6, c6⟩ := ga.2.2.2.2.2.1
  obtain ⟨sh, b7, c7⟩ := ga.2.2.2.2.2.2.1
  have hm := q.1
  have l8 := q.2.2.1 D i hD (by omega)
  have l81 := q.2.2.1 (1 - D) i (by omega) (by omega)
  have o15 := q.2.2.2.1 (1 - D) i j (by omega) (by omega) hj
  have cl := c3 D i hD hi
  have hSB := q.2.2.2.2.1 D hD
  have hW := q.2.2.2.2.2
  have hv : ∀ x, S D (15 * w D i x + w (1 - D) i j) * W (apart x j) ≤ 9000000 := fun x => Nat.le_trans (Nat.mul_le_mul (hSB _) (hW _)) (by omega)
  have hmo : ∀ p, (bsF (fun x => S D (15 * w D i x + w (1 - D) i j) * W (apart x j)) p).2 ≤ 9000000 := fun p => bsF_bd p (fun x _ => hv x)
  intro k
  induction k with
  | zero =>
    intro p hp
    have e : p = l D i := by omega
    subst e
    have s1 := c7 D (15 * 15 + w (1 - D) i j) hD (by omega)
    have w4 := c6 4 (by omega)
    have e4 : S D (15 * 15 + w (1 - D) i j) * W 4 ≤ 9000000 := Nat.le_trans (Nat.mul_le_mul (hSB _) (hW _)) (by omega)
    have em : sh (240 * D + 15 * 15 + w (1 - D) i j) * ww 4 = S D (15 * 15 + w (1 - D) i j) * W 4 := by rw [← s1, w4, show 240 * D + (15 * 15 + w (1 - D) i j) = 240 * D + 15 * 15 + w (1 - D) i j by omega]
    have hm9 := hmo (l D i)
    by_cases z : (bsF (fun x => S D (15 * w D i x + w (1 - D) i j) * W (apart x j)) (l D i)).2 < S D (15 * 15 + w (1 - D) i j) * W 4
    · rw [show lkF S W l w i D j = 0 from if_pos z]
      refine ev_iload dX10_linkOf_20 rfl ?_
      first | refine ev_aload_n dX10_linkOf_22 rfl ?_ | refine ev_aload_nN dX10_linkOf_22 rfl ?_
      refine ev_iload_n dX10_linkOf_23 rfl ?_
      refine ev_iload_n dX10_linkOf_24 rfl ?_
      refine ev_V2 dX10_linkOf_25 st_RX10_74 na_X10_longOf (Nat.le_of_ble_eq_true rfl) (Nat.le_of_ble_eq_true rfl) (by repeat (first | assumption | exact up_s | refine (up_n (by omega)).trans ?_)) rfl (mm_longOf g31 b3 (show i < 20 by omega) hD) ?_
      refine ev_icmp_geT (tgt := 116) dX10_linkOf_28 (by decide) (by first | assumption | exact nI_le (by omega) (by omega) | decide) ?_
      first | refine ev_aload_n dX10_linkOf_116 rfl ?_ | refine ev_aload_nN dX10_linkOf_116 rfl ?_
      refine ev_getfield dX10_linkOf_117 fl_RX10_29 (by repeat (first | assumption | exact up_s | refine (up_n (by omega)).trans ?_)) rfl ?_
      refine ev_iload_n dX10_linkOf_120 rfl ?_
      refine ev_bipush dX10_linkOf_121 bp15 ?_
      refine ev_iload dX10_linkOf_123 rfl ?_
      refine ev_S3 dX10_linkOf_125 st_RX10_81 na_X10_at (Nat.le_of_ble_eq_true rfl) (Nat.le_of_ble_eq_true rfl) (mm_at) ?_
      refine ev_iald dX10_linkOf_128 (by repeat (first | assumption | exact up_s | refine (up_n (by omega)).trans ?_)) _ rfl (by omega) (by omega) ?_
      first | refine ev_aload_n dX10_linkOf_129 rfl ?_ | refine ev_aload_nN dX10_linkOf_129 rfl ?_
      refine ev_getfield dX10_linkOf_130 fl_RX10_26 (by repeat (first | assumption | exact up_s | refine (up_n (by omega)).trans ?_)) rfl ?_
      refine ev_iconst dX10_linkOf_133 ci4 ?_
      refine ev_iald dX10_linkOf_134 (by repeat (first | assumption | exact up_s | refine (up_n (by omega)).trans ?_)) _ rfl (by omega) (by omega) ?_
      first | refine ev_imulN dX10_linkOf_135 ?_ | refine ev_imul dX10_linkOf_135 ?_
      refine ev_iload dX10_linkOf_136 rfl ?_
      refine ev_icmp_leF dX10_linkOf_138 145 (by decide) (by rw [em]; exact fun c => absurd z (fun c2 => nI_ge c2 (by omega) c)) ?_
      refine ev_iconst dX10_linkOf_141 cm1 ?_
      refine ev_goto (tgt := 147) dX10_linkOf_142 (by decide) ?_
      exact ev_ireturnE dX10_linkOf_147 rfl (by rfl)
    · rw [show lkF S W l w i D j = (bsF (fun x => S D (15 * w D i x + w (1 - D) i j) * W (apart x j)) (l D i)).1 from if_neg z]
      refine ev_iload dX10_linkOf_20 rfl ?_
      first | refine ev_aload_n dX10_linkOf_22 rfl ?_ | refine ev_aload_nN dX10_linkOf_22 rfl ?_
      refine ev_iload_n dX10_linkOf_23 rfl ?_
      refine ev_iload_n dX10_linkOf_24 rfl ?_
      refine ev_V2 dX10_linkOf_25 st_RX10_74 na_X10_longOf (Nat.le_of_ble_eq_true rfl) (Nat.le_of_ble_eq_true rfl) (by repeat (first | assumption | exact up_s | refine (up_n (by omega)).trans ?_)) rfl (mm_longOf g31 b3 (show i < 20 by omega) hD) ?_
      refine ev_icmp_geT (tgt := 116) dX10_linkOf_28 (by decide) (by first | assumption | exact nI_le (by omega) (by omega) | decide) ?_
      first | refine ev_aload_n dX10_linkOf_116 rfl ?_ | refine ev_aload_nN dX10_linkOf_116 rfl ?_
      refine ev_getfield dX10_linkOf_117 fl_RX10_29 (by repeat (first | assumption | exact up_s | refine (up_n (by omega)).trans ?_)) rfl ?_
      refine ev_iload_n dX10_linkOf_120 rfl ?_
      refine ev_bipush dX10_linkOf_121 bp15 ?_
      refine ev_iload dX10_linkOf_123 rfl ?_
      refine ev_S3 dX10_linkOf_125 st_RX10_81 na_X10_at (Nat.le_of_ble_eq_true rfl) (Nat.le_of_ble_eq_true rfl) (mm_at) ?_
      refine ev_iald dX10_linkOf_128 (by repeat (first | assumption | exact up_s | refine (up_n (by omega)).trans ?_)) _ rfl (by omega) (by omega) ?_
      first | refine ev_aload_n dX10_linkOf_129 rfl ?_ | refine ev_aload_nN dX10_linkOf_129 rfl ?_
      refine ev_getfield dX10_linkOf_130 fl_RX10_26 (by repeat (first | assumption | exact up_s | refine (up_n (by omega)).trans ?_)) rfl ?_
      refine ev_iconst dX10_linkOf_133 ci4 ?_
      refine ev_iald dX10_linkOf_134 (by repeat (first | assumption | exact up_s | refine (up_n (by omega)).trans ?_)) _ rfl (by omega) (by omega) ?_
      first | refine ev_imulN dX10_linkOf_135 ?_ | refine ev_imul dX10_linkOf_135 ?_
      refine ev_iload dX10_linkOf_136 rfl ?_
      refine ev_icmp_leT (tgt := 145) dX10_linkOf_138 (by decide) (by rw [em]; exact nI_le (by omega) (by omega)) ?_
      refine ev_iload dX10_linkOf_145 rfl ?_
      exact ev_ireturnE dX10_linkOf_147 rfl (by rfl)
  | succ k ih =>
    intro p hp
    have ih := ih (p + 1) (by omega)
    have p15 := q.2.2.2.1 D i p hD (by omega) (by omega)
    have cw := c4 D i p hD hi (by omega)
    have s1 := c7 D (15 * w D i p + w (1 - D) i j) hD (by omega)
    have hm9 := hmo p
    have hvp := hv p
    have hsp := hSB (15 * w D i p + w (1 - D) i j)
    have ap : apart p j = if 3 < btw p j then 3 else btw p j := by
      unfold apart btw
      split <;> split <;> omega
    have hap : apart p j < 5 := by rw [ap]; split <;> omega
    have wp := c6 (apart p j) hap
    have hbt : btw p j < 8 := by unfold btw; split <;> omega
    have em : sh (240 * D + 15 * wo (16 * i + 8 * D + p) + w (1 - D) i j) * ww (apart p j) = S D (15 * w D i p + w (1 - D) i j) * W (apart p j) := by rw [cw, ← s1, wp, show 240 * D + (15 * w D i p + w (1 - D) i j) = 240 * D + 15 * w D i p + w (1 - D) i j by omega]
    have e1 : bsF (fun x => S D (15 * w D i x + w (1 - D) i j) * W (apart x j)) (p + 1) = if (bsF (fun x => S D (15 * w D i x + w (1 - D) i j) * W (apart x j)) p).2 < S D (15 * w D i p + w (1 - D) i j) * W (apart p j) then (p + 1, S D (15 * w D i p + w (1 - D) i j) * W (apart p j)) else bsF (fun x => S D (15 * w D i x + w (1 - D) i j) * W (apart x j)) p := rfl
    rw [e1] at ih
    have lt31 : (bsF (fun x => S D (15 * w D i x + w (1 - D) i j) * W (apart x j)) p).2 < 2 ^ 31 := by omega
    by_cases z : (bsF (fun x => S D (15 * w D i x + w (1 - D) i j) * W (apart x j)) p).2 < S D (15 * w D i p + w (1 - D) i j) * W (apart p j)
    · rw [if_pos z] at ih
      by_cases far : 3 < btw p j
      · have e3 : apart p j = 3 := ap.trans (if_pos far)
        rw [e3] at em z hvp ih
        rw [← em] at z hvp ih
        rw [bo_s] at ih
        refine ev_iload dX10_linkOf_20 rfl ?_
        first | refine ev_aload_n dX10_linkOf_22 rfl ?_ | refine ev_aload_nN dX10_linkOf_22 rfl ?_
        refine ev_iload_n dX10_linkOf_23 rfl ?_
        refine ev_iload_n dX10_linkOf_24 rfl ?_
        refine ev_V2 dX10_linkOf_25 st_RX10_74 na_X10_longOf (Nat.le_of_ble_eq_true rfl) (Nat.le_of_ble_eq_true rfl) (by repeat (first | assumption | exact up_s | refine (up_n (by omega)).trans ?_)) rfl (mm_longOf g31 b3 (show i < 20 by omega) hD) ?_
        refine ev_icmp_geF dX10_linkOf_28 116 (by decide) (by first | assumption | exact nI_ge (by omega) (by omega) | decide) ?_
        refine ev_iload dX10_linkOf_31 rfl ?_
        refine ev_iload_n dX10_linkOf_33 rfl ?_
        refine ev_S2 dX10_linkOf_34 st_RX10_107 na_X10_between (Nat.le_of_ble_eq_true rfl) (Nat.le_of_ble_eq_true rfl) (mm_between (show p < 2 ^ 31 by omega) (show j < 2 ^ 31 by omega)) ?_
        refine ev_istore dX10_linkOf_37 (Nat.le_of_ble_eq_true rfl) ?_
        first | refine ev_aload_n dX10_linkOf_39 rfl ?_ | refine ev_aload_nN dX10_linkOf_39 rfl ?_
        refine ev_getfield dX10_linkOf_40 fl_RX10_29 (by repeat (first | assumption | exact up_s | refine (up_n (by omega)).trans ?_)) rfl ?_
        refine ev_iload_n dX10_linkOf_43 rfl ?_
        first | refine ev_aload_n dX10_linkOf_44 rfl ?_ | refine ev_aload_nN dX10_linkOf_44 rfl ?_
        refine ev_iload_n dX10_linkOf_45 rfl ?_
        refine ev_iload_n dX10_linkOf_46 rfl ?_
        refine ev_iload dX10_linkOf_47 rfl ?_
        refine ev_V3 dX10_linkOf_49 st_RX10_77 na_X10_wordAt (Nat.le_of_ble_eq_true rfl) (Nat.le_of_ble_eq_true rfl) (by repeat (first | assumption | exact up_s | refine (up_n (by omega)).trans ?_)) rfl (mm_wordAt g31 b4 (show i < 20 by omega) hD (show p < 8 by omega)) ?_
        refine ev_iload dX10_linkOf_52 rfl ?_
        refine ev_S3 dX10_linkOf_54 st_RX10_81 na_X10_at (Nat.le_of_ble_eq_true rfl) (Nat.le_of_ble_eq_true rfl) (mm_at) ?_
        refine ev_iald dX10_linkOf_57 (by repeat (first | assumption | exact up_s | refine (up_n (by omega)).trans ?_)) _ rfl (by omega) (by omega) ?_
        first | refine ev_aload_n dX10_linkOf_58 rfl ?_ | refine ev_aload_nN dX10_linkOf_58 rfl ?_
        refine ev_getfield dX10_linkOf_59 fl_RX10_26 (by repeat (first | assumption | exact up_s | refine (up_n (by omega)).trans ?_)) rfl ?_
        refine ev_iload dX10_linkOf_62 rfl ?_
        refine ev_iconst dX10_linkOf_64 ci3 ?_
        refine ev_icmp_leF dX10_linkOf_65 72 (by decide) (by first | assumption | exact nI_ge (by omega) (by omega) | decide) ?_
        refine ev_iconst dX10_linkOf_68 ci3 ?_
        refine ev_goto (tgt := 74) dX10_linkOf_69 (by decide) ?_
        refine ev_iald dX10_linkOf_74 (by repeat (first | assumption | exact up_s | refine (up_n (by omega)).trans ?_)) _ rfl (by omega) (by omega) ?_
        first | refine ev_imulN dX10_linkOf_75 ?_ | refine ev_imul dX10_linkOf_75 ?_
        refine ev_istore dX10_linkOf_76 (Nat.le_of_ble_eq_true rfl) ?_
        refine ev_iload dX10_linkOf_78 rfl ?_
        refine ev_iload dX10_linkOf_80 rfl ?_
        refine ev_icmp_leF dX10_linkOf_82 90 (by decide) (by first | assumption | exact nI_ge (by omega) (by omega) | decide) ?_
        refine ev_iload dX10_linkOf_85 rfl ?_
        refine ev_goto (tgt := 92) dX10_linkOf_87 (by decide) ?_
        refine ev_istore dX10_linkOf_92 (Nat.le_of_ble_eq_true rfl) ?_
        refine ev_iload dX10_linkOf_94 rfl ?_
        refine ev_iload dX10_linkOf_96 rfl ?_
        refine ev_icmp_leF dX10_linkOf_98 106 (by decide) (by first | assumption | exact nI_ge (by omega) (by omega) | decide) ?_
        refine ev_iload dX10_linkOf_101 rfl ?_
        refine ev_goto (tgt := 108) dX10_linkOf_103 (by decide) ?_
        refine ev_istore dX10_linkOf_108 (Nat.le_of_ble_eq_true rfl) ?_
        refine ev_iincN (b := 1) dX10_linkOf_110 rfl (Nat.le_of_ble_eq_true rfl) ?_
        refine ev_goto (tgt := 20) dX10_linkOf_113 (by decide) ?_
        refine ev_sub ?_ (ih)
        repeat (first | exact trivial | refine ⟨rfl, ?_⟩)
      · have e3 : apart p j = btw p j := ap.trans (if_neg far)
        rw [e3] at em z hvp ih
        rw [← em] at z hvp ih
        rw [bo_s] at ih
        refine ev_iload dX10_linkOf_20 rfl ?_
        first | refine ev_aload_n dX10_linkOf_22 rfl ?_ | refine ev_aload_nN dX10_linkOf_22 rfl ?_
        refine ev_iload_n dX10_linkOf_23 rfl ?_
        refine ev_iload_n dX10_linkOf_24 rfl ?_
        refine ev_V2 dX10_linkOf_25 st_RX10_74 na_X10_longOf (Nat.le_of_ble_eq_true rfl) (Nat.le_of_ble_eq_true rfl) (by repeat (first | assumption | exact up_s | refine (up_n (by omega)).trans ?_)) rfl (mm_longOf g31 b3 (show i < 20 by omega) hD) ?_
        refine ev_icmp_geF dX10_linkOf_28 116 (by decide) (by first | assumption | exact nI_ge (by omega) (by omega) | decide) ?_
        refine ev_iload dX10_linkOf_31 rfl ?_
        refine ev_iload_n dX10_linkOf_33 rfl ?_
        refine ev_S2 dX10_linkOf_34 st_RX10_107 na_X10_between (Nat.le_of_ble_eq_true rfl) (Nat.le_of_ble_eq_true rfl) (mm_between (show p < 2 ^ 31 by omega) (show j < 2 ^ 31 by omega)) ?_
        refine ev_istore dX10_linkOf_37 (Nat.le_of_ble_eq_true rfl) ?_
        first | refine ev_aload_n dX10_linkOf_39 rfl ?_ | refine ev_aload_nN dX10_linkOf_39 rfl ?_
        refine ev_getfield dX10_linkOf_40 fl_RX10_29 (by repeat (first | assumption | exact up_s | refine (up_n (by omega)).trans ?_)) rfl ?_
        refine ev_iload_n dX10_linkOf_43 rfl ?_
        first | refine ev_aload_n dX10_linkOf_44 rfl ?_ | refine ev_aload_nN dX10_linkOf_44 rfl ?_
        refine ev_iload_n dX10_linkOf_45 rfl ?_
        refine ev_iload_n dX10_linkOf_46 rfl ?_
        refine ev_iload dX10_linkOf_47 rfl ?_
        refine ev_V3 dX10_linkOf_49 st_RX10_77 na_X10_wordAt (Nat.le_of_ble_eq_true rfl) (Nat.le_of_ble_eq_true rfl) (by repeat (first | assumption | exact up_s | refine (up_n (by omega)).trans ?_)) rfl (mm_wordAt g31 b4 (show i < 20 by omega) hD (show p < 8 by omega)) ?_
        refine ev_iload dX10_linkOf_52 rfl ?_
        refine ev_S3 dX10_linkOf_54 st_RX10_81 na_X10_at (Nat.le_of_ble_eq_true rfl) (Nat.le_of_ble_eq_true rfl) (mm_at) ?_
        refine ev_iald dX10_linkOf_57 (by repeat (first | assumption | exact up_s | refine (up_n (by omega)).trans ?_)) _ rfl (by omega) (by omega) ?_
        first | refine ev_aload_n dX10_linkOf_58 rfl ?_ | refine ev_aload_nN dX10_linkOf_58 rfl ?_
        refine ev_getfield dX10_linkOf_59 fl_RX10_26 (by repeat (first | assumption | exact up_s | refine (up_n (by omega)).trans ?_)) rfl ?_
        refine ev_iload dX10_linkOf_62 rfl ?_
        refine ev_iconst dX10_linkOf_64 ci3 ?_
        refine ev_icmp_leT (tgt := 72) dX10_linkOf_65 (by decide) (by first | assumption | exact nI_le (by omega) (by omega) | decide) ?_
        refine ev_iload dX10_linkOf_72 rfl ?_
        refine ev_iald dX10_linkOf_74 (by repeat (first | assumption | exact up_s | refine (up_n (by omega)).trans ?_)) _ rfl (by omega) (by omega) ?_
        first | refine ev_imulN dX10_linkOf_75 ?_ | refine ev_imul dX10_linkOf_75 ?_
        refine ev_istore dX10_linkOf_76 (Nat.le_of_ble_eq_true rfl) ?_
        refine ev_iload dX10_linkOf_78 rfl ?_
        refine ev_iload dX10_linkOf_80 rfl ?_
        refine ev_icmp_leF dX10_linkOf_82 90 (by decide) (by first | assumption | exact nI_ge (by omega) (by omega) | decide) ?_
        refine ev_iload dX10_linkOf_85 rfl ?_
        refine ev_goto (tgt := 92) dX10_linkOf_87 (by decide) ?_
        refine ev_istore dX10_linkOf_92 (Nat.le_of_ble_eq_true rfl) ?_
        refine ev_iload dX10_linkOf_94 rfl ?_
        refine ev_iload dX10_linkOf_96 rfl ?_
        refine ev_icmp_leF dX10_linkOf_98 106 (by decide) (by first | assumption | exact nI_ge (by omega) (by omega) | decide) ?_
        refine ev_iload dX10_linkOf_101 rfl ?_
        refine ev_goto (tgt := 108) dX10_linkOf_103 (by decide) ?_
        refine ev_istore dX10_linkOf_108 (Nat.le_of_ble_eq_true rfl) ?_
        refine ev_iincN (b := 1) dX10_linkOf_110 rfl (Nat.le_of_ble_eq_true rfl) ?_
        refine ev_goto (tgt := 20) dX10_linkOf_113 (by decide) ?_
        refine ev_sub ?_ (ih)
        repeat (first | exact trivial | refine ⟨rfl, ?_⟩)
    · rw [if_neg z] at ih
      by_cases far : 3 < btw p j
      · have e3 : apart p j = 3 := ap.trans (if_pos far)
        rw [e3] at em z hvp
        rw [← em] at z hvp
        refine ev_iload dX10_linkOf_20 rfl ?_
        first | refine ev_aload_n dX10_linkOf_22 rfl ?_ | refine ev_aload_nN dX10_linkOf_22 rfl ?_
        refine ev_iload_n dX10_linkOf_23 rfl ?_
        refine ev_iload_n dX10_linkOf_24 rfl ?_
        refine ev_V2 dX10_linkOf_25 st_RX10_74 na_X10_longOf (Nat.le_of_ble_eq_true rfl) (Nat.le_of_ble_eq_true rfl) (by repeat (first | assumption | exact up_s | refine (up_n (by omega)).trans ?_)) rfl (mm_longOf g31 b3 (show i < 20 by omega) hD) ?_
        refine ev_icmp_geF dX10_linkOf_28 116 (by decide) (by first | assumption | exact nI_ge (by omega) (by omega) | decide) ?_
        refine ev_iload dX10_linkOf_31 rfl ?_
        refine ev_iload_n dX10_linkOf_33 rfl ?_
        refine ev_S2 dX10_linkOf_34 st_RX10_107 na_X10_between (Nat.le_of_ble_eq_true rfl) (Nat.le_of_ble_eq_true rfl) (mm_between (show p < 2 ^ 31 by omega) (show j < 2 ^ 31 by omega)) ?_
        refine ev_istore dX10_linkOf_37 (Nat.le_of_ble_eq_true rfl) ?_
        first | refine ev_aload_n dX10_linkOf_39 rfl ?_ | refine ev_aload_nN dX10_linkOf_39 rfl ?_
        refine ev_getfield dX10_linkOf_40 fl_RX10_29 (by repeat (first | assumption | exact up_s | refine (up_n (by omega)).trans ?_)) rfl ?_
        refine ev_iload_n dX10_linkOf_43 rfl ?_
        first | refine ev_aload_n dX10_linkOf_44 rfl ?_ | refine ev_aload_nN dX10_linkOf_44 rfl ?_
        refine ev_iload_n dX10_linkOf_45 rfl ?_
        refine ev_iload_n dX10_linkOf_46 rfl ?_
        refine ev_iload dX10_linkOf_47 rfl ?_
        refine ev_V3 dX10_linkOf_49 st_RX10_77 na_X10_wordAt (Nat.le_of_ble_eq_true rfl) (Nat.le_of_ble_eq_true rfl) (by repeat (first | assumption | exact up_s | refine (up_n (by omega)).trans ?_)) rfl (mm_wordAt g31 b4 (show i < 20 by omega) hD (show p < 8 by omega)) ?_
        refine ev_iload dX10_linkOf_52 rfl ?_
        refine ev_S3 dX10_linkOf_54 st_RX10_81 na_X10_at (Nat.le_of_ble_eq_true rfl) (Nat.le_of_ble_eq_true rfl) (mm_at) ?_
        refine ev_iald dX10_linkOf_57 (by repeat (first | assumption | exact up_s | refine (up_n (by omega)).trans ?_)) _ rfl (by omega) (by omega) ?_
        first | refine ev_aload_n dX10_linkOf_58 rfl ?_ | refine ev_aload_nN dX10_linkOf_58 rfl ?_
        refine ev_getfield dX10_linkOf_59 fl_RX10_26 (by repeat (first | assumption | exact up_s | refine (up_n (by omega)).trans ?_)) rfl ?_
        refine ev_iload dX10_linkOf_62 rfl ?_
        refine ev_iconst dX10_linkOf_64 ci3 ?_
        refine ev_icmp_leF dX10_linkOf_65 72 (by decide) (by first | assumption | exact nI_ge (by omega) (by omega) | decide) ?_
        refine ev_iconst dX10_linkOf_68 ci3 ?_
        refine ev_goto (tgt := 74) dX10_linkOf_69 (by decide) ?_
        refine ev_iald dX10_linkOf_74 (by repeat (first | assumption | exact up_s | refine (up_n (by omega)).trans ?_)) _ rfl (by omega) (by omega) ?_
        first | refine ev_imulN dX10_linkOf_75 ?_ | refine ev_imul dX10_linkOf_75 ?_
        refine ev_istore dX10_linkOf_76 (Nat.le_of_ble_eq_true rfl) ?_
        refine ev_iload dX10_linkOf_78 rfl ?_
        refine ev_iload dX10_linkOf_80 rfl ?_
        refine ev_icmp_leT (tgt := 90) dX10_linkOf_82 (by decide) (by first | assumption | exact nI_le (by omega) (by omega) | decide) ?_
        refine ev_iload dX10_linkOf_90 rfl ?_
        refine ev_istore dX10_linkOf_92 (Nat.le_of_ble_eq_true rfl) ?_
        refine ev_iload dX10_linkOf_94 rfl ?_
        refine ev_iload dX10_linkOf_96 rfl ?_
        refine ev_icmp_leT (tgt := 106) dX10_linkOf_98 (by decide) (by first | assumption | exact nI_le (by omega) (by omega) | decide) ?_
        refine ev_iload dX10_linkOf_106 rfl ?_
        refine ev_istore dX10_linkOf_108 (Nat.le_of_ble_eq_true rfl) ?_
        refine ev_iincN (b := 1) dX10_linkOf_110 rfl (Nat.le_of_ble_eq_true rfl) ?_
        refine ev_goto (tgt := 20) dX10_linkOf_113 (by decide) ?_
        refine ev_sub ?_ (ih)
        repeat (first | exact trivial | refine ⟨rfl, ?_⟩)
      · have e3 : apart p j = btw p j := ap.trans (if_neg far)
        rw [e3] at em z hvp
        rw [← em] at z hvp
        refine ev_iload dX10_linkOf_20 rfl ?_
        first | refine ev_aload_n dX10_linkOf_22 rfl ?_ | refine ev_aload_nN dX10_linkOf_22 rfl ?_
        refine ev_iload_n dX10_linkOf_23 rfl ?_
        refine ev_iload_n dX10_linkOf_24 rfl ?_
        refine ev_V2 dX10_linkOf_25 st_RX10_74 na_X10_longOf (Nat.le_of_ble_eq_true rfl) (Nat.le_of_ble_eq_true rfl) (by repeat (first | assumption | exact up_s | refine (up_n (by omega)).trans ?_)) rfl (mm_longOf g31 b3 (show i < 20 by omega) hD) ?_
        refine ev_icmp_geF dX10_linkOf_28 116 (by decide) (by first | assumption | exact nI_ge (by omega) (by omega) | decide) ?_
        refine ev_iload dX10_linkOf_31 rfl ?_
        refine ev_iload_n dX10_linkOf_33 rfl ?_
        refine ev_S2 dX10_linkOf_34 st_RX10_107 na_X10_between (Nat.le_of_ble_eq_true rfl) (Nat.le_of_ble_eq_true rfl) (mm_between (show p < 2 ^ 31 by omega) (show j < 2 ^ 31 by omega)) ?_
        refine ev_istore dX10_linkOf_37 (Nat.le_of_ble_eq_true rfl) ?_
        first | refine ev_aload_n dX10_linkOf_39 rfl ?_ | refine ev_aload_nN dX10_linkOf_39 rfl ?_
        refine ev_getfield dX10_linkOf_40 fl_RX10_29 (by repeat (first | assumption | exact up_s | refine (up_n (by omega)).trans ?_)) rfl ?_
        refine ev_iload_n dX10_linkOf_43 rfl ?_
        first | refine ev_aload_n dX10_linkOf_44 rfl ?_ | refine ev_aload_nN dX10_linkOf_44 rfl ?_
        refine ev_iload_n dX10_linkOf_45 rfl ?_
        refine ev_iload_n dX10_linkOf_46 rfl ?_
        refine ev_iload dX10_linkOf_47 rfl ?_
        refine ev_V3 dX10_linkOf_49 st_RX10_77 na_X10_wordAt (Nat.le_of_ble_eq_true rfl) (Nat.le_of_ble_eq_true rfl) (by repeat (first | assumption | exact up_s | refine (up_n (by omega)).trans ?_)) rfl (mm_wordAt g31 b4 (show i < 20 by omega) hD (show p < 8 by omega)) ?_
        refine ev_iload dX10_linkOf_52 rfl ?_
        refine ev_S3 dX10_linkOf_54 st_RX10_81 na_X10_at (Nat.le_of_ble_eq_true rfl) (Nat.le_of_ble_eq_true rfl) (mm_at) ?_
        refine ev_iald dX10_linkOf_57 (by repeat (first | assumption | exact up_s | refine (up_n (by omega)).trans ?_)) _ rfl (by omega) (by omega) ?_
        first | refine ev_aload_n dX10_linkOf_58 rfl ?_ | refine ev_aload_nN dX10_linkOf_58 rfl ?_
        refine ev_getfield dX10_linkOf_59 fl_RX10_26 (by repeat (first | assumption | exact up_s | refine (up_n (by omega)).trans ?_)) rfl ?_
        refine ev_iload dX10_linkOf_62 rfl ?_
        refine ev_iconst dX10_linkOf_64 ci3 ?_
        refine ev_icmp_leT (tgt := 72) dX10_linkOf_65 (by decide) (by first | assumption | exact nI_le (by omega) (by omega) | decide) ?_
        refine ev_iload dX10_linkOf_72 rfl ?_
        refine ev_iald dX10_linkOf_74 (by repeat (first | assumption | exact up_s | refine (up_n (by omega)).trans ?_)) _ rfl (by omega) (by omega) ?_
        first | refine ev_imulN dX10_linkOf_75 ?_ | refine ev_imul dX10_linkOf_75 ?_
        refine ev_istore dX10_linkOf_76 (Nat.le_of_ble_eq_true rfl) ?_
        refine ev_iload dX10_linkOf_78 rfl ?_
        refine ev_iload dX10_linkOf_80 rfl ?_
        refine ev_icmp_leT (tgt := 90) dX10_linkOf_82 (by decide) (by first | assumption | exact nI_le (by omega) (by omega) | decide) ?_
        refine ev_iload dX10_linkOf_90 rfl ?_
        refine ev_istore dX10_linkOf_92 (Nat.le_of_ble_eq_true rfl) ?_
        refine ev_iload dX10_linkOf_94 rfl ?_
        refine ev_iload dX10_linkOf_96 rfl ?_
        refine ev_icmp_leT (tgt := 106) dX10_linkOf_98 (by decide) (by first | assumption | exact nI_le (by omega) (by omega) | decide) ?_
        refine ev_iload dX10_linkOf_106 rfl ?_
        refine ev_istore dX10_linkOf_108 (Nat.le_of_ble_eq_true rfl) ?_
        refine ev_iincN (b := 1) dX10_linkOf_110 rfl (Nat.le_of_ble_eq_true rfl) ?_
        refine ev_goto (tgt := 20) dX10_linkOf_113 (by decide) ?_
        refine ev_sub ?_ (ih)
        repeat (first | exact trivial | refine ⟨rfl, ?_⟩)
theorem mm_linkOf (q : WF made t l w S W) (g31 : h 31 = MO made F th) (ga : MA h made t l w S W) {i D j : Nat} (hi : i < made) (hD : D < 2) (hj : j < l (1 - D) i) : Ev (d + 1) MX10_linkOf 0 (lv_args 0 [.ref 31, .int (nI D), .int (nI i), .int (nI j)]) [] n h (.inl (some (.int (bo (lkF S W l w i D j)))), n, h, 0, 0) := by
  obtain ⟨wo, b4, c4⟩ := ga.2.2.2.1
  have hm := q.1
  have l81 := q.2.2.1 (1 - D) i (by omega) (by omega)
  have cw := c4 (1 - D) i j (by omega) hi hj
  first | refine ev_aload_n dX10_linkOf_0 rfl ?_ | refine ev_aload_nN dX10_linkOf_0 rfl ?_
  refine ev_iload_n dX10_linkOf_1 rfl ?_
  refine ev_iconst dX10_linkOf_2 ci1 ?_
  refine ev_iload_n dX10_linkOf_3 rfl ?_
  first | refine ev_isubN dX10_linkOf_4 (by omega) ?_ | refine ev_isub dX10_linkOf_4 ?_
  refine ev_iload_n dX10_linkOf_5 rfl ?_
  refine ev_V3 dX10_linkOf_6 st_RX10_77 na_X10_wordAt (Nat.le_of_ble_eq_true rfl) (Nat.le_of_ble_eq_true rfl) (by repeat (first | assumption | exact up_s | refine (up_n (by omega)).trans ?_)) rfl (mm_wordAt g31 b4 (show i < 20 by omega) (show 1 - D < 2 by omega) (show j < 8 by omega)) ?_
  refine ev_istore dX10_linkOf_9 (Nat.le_of_ble_eq_true rfl) ?_
  refine ev_iconst dX10_linkOf_11 cm1 ?_
  refine ev_istore dX10_linkOf_12 (Nat.le_of_ble_eq_true rfl) ?_
  refine ev_iconst dX10_linkOf_14 ci0 ?_
  refine ev_istore dX10_linkOf_15 (Nat.le_of_ble_eq_true rfl) ?_
  refine ev_iconst dX10_linkOf_17 ci0 ?_
  refine ev_istore dX10_linkOf_18 (Nat.le_of_ble_eq_true rfl) ?_
  rw [cw]
  refine ev_sub ?_ (lm_lo q g31 ga hi hD hj (l D i) 0 (by omega))
  repeat (first | exact trivial | refine ⟨rfl, ?_⟩)
theorem mm_linkT (q : WF made t l w S W) (g : MS h th made t l w S W) {i D j : Nat} (hi : i < made) (ht : t i = 1) (hD : D < 2) (hj : j < l (1 - D) i) : ∃ h', Ev (d + 3) MX10_link 0 (lv_args 0 [.ref 31, .int (nI D), .int (nI i), .int (nI j)]) [] n h (.inl (some (.int (bo (lkF S W l w i D j)))), n, h', 0, 0) ∧ MS h' 0 made t l w S W ∧ Fm h h' := by
  obtain ⟨⟨F, g31⟩, ga⟩ := g
  refine ⟨va_up h 31 (MO made F 0), ?_, ⟨⟨F, up_s⟩, MA_31 ga⟩, Fm_up Fm_rfl (by omega)⟩
  have G31 : va_up h 31 (MO made F 0) 31 = MO made F 0 := up_s
  rcases (show D = 0 ∨ D = 1 by omega) with rfl | rfl
  · refine ev_iload_n dX10_link_0 rfl ?_
    refine ev_iconst dX10_link_1 ci0 ?_
    refine ev_iconst dX10_link_2 ci1 ?_
    refine ev_S3 dX10_link_3 st_RX10_55 na_X10_in (Nat.le_of_ble_eq_true rfl) (Nat.le_of_ble_eq_true rfl) (mm_inT (by omega) (show 0 ≤ 1 by omega) (by omega)) ?_
    refine ev_if_eqF dX10_link_6 31 (by decide) (by first | assumption | exact nI_ne0 (by omega) (by omega) | decide) ?_
    first | refine ev_aload_n dX10_link_9 rfl ?_ | refine ev_aload_nN dX10_link_9 rfl ?_
    refine ev_iload_n dX10_link_10 rfl ?_
    refine ev_iload_n dX10_link_11 rfl ?_
    refine ev_if_neF dX10_link_12 19 (by decide) (by first | assumption | exact z_eq (by omega) | decide) ?_
    refine ev_iconst dX10_link_15 ci1 ?_
    refine ev_goto (tgt := 20) dX10_link_16 (by decide) ?_
    refine ev_iload_n dX10_link_20 rfl ?_
    refine ev_V3 dX10_link_21 st_RX10_138 na_X10_isPlace (Nat.le_of_ble_eq_true rfl) (Nat.le_of_ble_eq_true rfl) (by repeat (first | assumption | exact up_s | refine (up_n (by omega)).trans ?_)) rfl (mm_isPlaceT q g31 ga hi ht (show 1 < 2 by omega) hj) ?_
    refine ev_if_eqF dX10_link_24 31 (by decide) (by first | assumption | exact nI_ne0 (by omega) (by omega) | decide) ?_
    refine ev_iconst dX10_link_27 ci1 ?_
    refine ev_goto (tgt := 32) dX10_link_28 (by decide) ?_
    refine ev_istore dX10_link_32 (Nat.le_of_ble_eq_true rfl) ?_
    first | refine ev_aload_n dX10_link_34 rfl ?_ | refine ev_aload_nN dX10_link_34 rfl ?_
    refine ev_iload dX10_link_35 rfl ?_
    refine ev_iconst dX10_link_37 ci1 ?_
    refine ev_iconst dX10_link_38 ci1 ?_
    refine ev_V3 dX10_link_39 st_RX10_59 na_X10_goes (Nat.le_of_ble_eq_true rfl) (Nat.le_of_ble_eq_true rfl) (by repeat (first | assumption | exact up_s | refine (up_n (by omega)).trans ?_)) rfl (mm_goesT g31) ?_
    refine ev_if_eqF dX10_link_42 55 (by decide) (by first | assumption | exact nI_ne0 (by omega) (by omega) | decide) ?_
    first | refine ev_aload_n dX10_link_45 rfl ?_ | refine ev_aload_nN dX10_link_45 rfl ?_
    refine ev_iload_n dX10_link_46 rfl ?_
    refine ev_iload_n dX10_link_47 rfl ?_
    refine ev_iload_n dX10_link_48 rfl ?_
    refine ev_V3 dX10_link_49 st_RX10_110 na_X10_linkOf (Nat.le_of_ble_eq_true rfl) (Nat.le_of_ble_eq_true rfl) (by repeat (first | assumption | exact up_s | refine (up_n (by omega)).trans ?_)) rfl (mm_linkOf q G31 (MA_31 ga) hi hD hj) ?_
    refine ev_goto (tgt := 56) dX10_link_52 (by decide) ?_
    exact ev_ireturnE dX10_link_56 rfl (by rfl)
  · refine ev_iload_n dX10_link_0 rfl ?_
    refine ev_iconst dX10_link_1 ci0 ?_
    refine ev_iconst dX10_link_2 ci1 ?_
    refine ev_S3 dX10_link_3 st_RX10_55 na_X10_in (Nat.le_of_ble_eq_true rfl) (Nat.le_of_ble_eq_true rfl) (mm_inT (by omega) (show 1 ≤ 1 by omega) (by omega)) ?_
    refine ev_if_eqF dX10_link_6 31 (by decide) (by first | assumption | exact nI_ne0 (by omega) (by omega) | decide) ?_
    first | refine ev_aload_n dX10_link_9 rfl ?_ | refine ev_aload_nN dX10_link_9 rfl ?_
    refine ev_iload_n dX10_link_10 rfl ?_
    refine ev_iload_n dX10_link_11 rfl ?_
    refine ev_if_neT (tgt := 19) dX10_link_12 (by decide) (by first | assumption | exact nI_ne0 (by omega) (by omega) | decide) ?_
    refine ev_iconst dX10_link_19 ci0 ?_
    refine ev_iload_n dX10_link_20 rfl ?_
    refine ev_V3 dX10_link_21 st_RX10_138 na_X10_isPlace (Nat.le_of_ble_eq_true rfl) (Nat.le_of_ble_eq_true rfl) (by repeat (first | assumption | exact up_s | refine (up_n (by omega)).trans ?_)) rfl (mm_isPlaceT q g31 ga hi ht (show 0 < 2 by omega) hj) ?_
    refine ev_if_eqF dX10_link_24 31 (by decide) (by first | assumption | exact nI_ne0 (by omega) (by omega) | decide) ?_
    refine ev_iconst dX10_link_27 ci1 ?_
    refine ev_goto (tgt := 32) dX10_link_28 (by decide) ?_
    refine ev_istore dX10_link_32 (Nat.le_of_ble_eq_true rfl) ?_
    first | refine ev_aload_n dX10_link_34 rfl ?_ | refine ev_aload_nN dX10_link_34 rfl ?_
    refine ev_iload dX10_link_35 rfl ?_
    refine ev_iconst dX10_link_37 ci1 ?_
    refine ev_iconst dX10_link_38 ci1 ?_
    refine ev_V3 dX10_link_39 st_RX10_59 na_X10_goes (Nat.le_of_ble_eq_true rfl) (Nat.le_of_ble_eq_true rfl) (by repeat (first | assumption | exact up_s | refine (up_n (by omega)).trans ?_)) rfl (mm_goesT g31) ?_
    refine ev_if_eqF dX10_link_42 55 (by decide) (by first | assumption | exact nI_ne0 (by omega) (by omega) | decide) ?_
    first | refine ev_aload_n dX10_link_45 rfl ?_ | refine ev_aload_nN dX10_link_45 rfl ?_
    refine ev_iload_n dX10_link_46 rfl ?_
    refine ev_iload_n dX10_link_47 rfl ?_
    refine ev_iload_n dX10_link_48 rfl ?_
    refine ev_V3 dX10_link_49 st_RX10_110 na_X10_linkOf (Nat.le_of_ble_eq_true rfl) (Nat.le_of_ble_eq_true rfl) (by repeat (first | assumption | exact up_s | refine (up_n (by omega)).trans ?_)) rfl (mm_linkOf q G31 (MA_31 ga) hi hD hj) ?_
    refine ev_goto (tgt := 56) dX10_link_52 (by decide) ?_
    exact ev_ireturnE dX10_link_56 rfl (by rfl)
theorem mm_linkF (q : WF made t l w S W) (g : MS h th made t l w S W) {x y z : Int32} (hx : ¬ itIs y made t ∨ ¬ inN x 2 ∨ ∀ D i, D < 2 → i < made → x = nI D → y = nI i → ¬ inN z (l (1 - D) i)) : ∃ h' v, Ev (d + 3) MX10_link 0 (lv_args 0 [.ref 31, .int x, .int y, .int z]) [] n h (.inl (some (.int v)), n, h', 0, 0) ∧ MS h' 1 made t l w S W ∧ Fm h h' := by
  obtain ⟨⟨F, g31⟩, ga⟩ := g
  refine ⟨va_up h 31 (MO made F 1), nI 0, ?_, ⟨⟨F, up_s⟩, MA_31 ga⟩, Fm_up Fm_rfl (by omega)⟩
  by_cases q1 : inN x 2
  · obtain ⟨D, hD, rfl⟩ := q1
    rcases (show D = 0 ∨ D = 1 by omega) with rfl | rfl
    · refine ev_iload_n dX10_link_0 rfl ?_
      refine ev_iconst dX10_link_1 ci0 ?_
      refine ev_iconst dX10_link_2 ci1 ?_
      refine ev_S3 dX10_link_3 st_RX10_55 na_X10_in (Nat.le_of_ble_eq_true rfl) (Nat.le_of_ble_eq_true rfl) (mm_inT (by omega) (show 0 ≤ 1 by omega) (by omega)) ?_
      refine ev_if_eqF dX10_link_6 31 (by decide) (by first | assumption | exact nI_ne0 (by omega) (by omega) | decide) ?_
      first | refine ev_aload_n dX10_link_9 rfl ?_ | refine ev_aload_nN dX10_link_9 rfl ?_
      refine ev_iload_n dX10_link_10 rfl ?_
      refine ev_iload_n dX10_link_11 rfl ?_
      refine ev_if_neF dX10_link_12 19 (by decide) (by first | assumption | exact z_eq (by omega) | decide) ?_
      refine ev_iconst dX10_link_15 ci1 ?_
      refine ev_goto (tgt := 20) dX10_link_16 (by decide) ?_
      refine ev_iload_n dX10_link_20 rfl ?_
      refine ev_V3 dX10_link_21 st_RX10_138 na_X10_isPlace (Nat.le_of_ble_eq_true rfl) (Nat.le_of_ble_eq_true rfl) (by repeat (first | assumption | exact up_s | refine (up_n (by omega)).trans ?_)) rfl (mm_isPlaceF q g31 ga (show 1 < 2 by omega) (hx.elim Or.inl (fun c => c.elim (fun c => absurd ⟨0, hD, rfl⟩ c) (fun c => Or.inr fun i hi e => c 0 i hD hi rfl e)))) ?_
      refine ev_if_eqT (tgt := 31) dX10_link_24 (by decide) (by first | assumption | exact z_eq (by omega) | decide) ?_
      refine ev_iconst dX10_link_31 ci0 ?_
      refine ev_istore dX10_link_32 (Nat.le_of_ble_eq_true rfl) ?_
      first | refine ev_aload_n dX10_link_34 rfl ?_ | refine ev_aload_nN dX10_link_34 rfl ?_
      refine ev_iload dX10_link_35 rfl ?_
      refine ev_iconst dX10_link_37 ci1 ?_
      refine ev_iconst dX10_link_38 ci1 ?_
      refine ev_V3 dX10_link_39 st_RX10_59 na_X10_goes (Nat.le_of_ble_eq_true rfl) (Nat.le_of_ble_eq_true rfl) (by repeat (first | assumption | exact up_s | refine (up_n (by omega)).trans ?_)) rfl (mm_goes1 g31) ?_
      refine ev_if_eqT (tgt := 55) dX10_link_42 (by decide) (by first | assumption | exact z_eq (by omega) | decide) ?_
      refine ev_iconst dX10_link_55 ci0 ?_
      exact ev_ireturnE dX10_link_56 rfl (by rfl)
    · refine ev_iload_n dX10_link_0 rfl ?_
      refine ev_iconst dX10_link_1 ci0 ?_
      refine ev_iconst dX10_link_2 ci1 ?_
      refine ev_S3 dX10_link_3 st_RX10_55 na_X10_in (Nat.le_of_ble_eq_true rfl) (Nat.le_of_ble_eq_true rfl) (mm_inT (by omega) (show 1 ≤ 1 by omega) (by omega)) ?_
      refine ev_if_eqF dX10_link_6 31 (by decide) (by first | assumption | exact nI_ne0 (by omega) (by omega) | decide) ?_
      first | refine ev_aload_n dX10_link_9 rfl ?_ | refine ev_aload_nN dX10_link_9 rfl ?_
      refine ev_iload_n dX10_link_10 rfl ?_
      refine ev_iload_n dX10_link_11 rfl ?_
      refine ev_if_neT (tgt := 19) dX10_link_12 (by decide) (by first | assumption | exact nI_ne0 (by omega) (by omega) | decide) ?_
      refine ev_iconst dX10_link_19 ci0 ?_
      refine ev_iload_n dX10_link_20 rfl ?_
      refine ev_V3 dX10_link_21 st_RX10_138 na_X10_isPlace (Nat.le_of_ble_eq_true rfl) (Nat.le_of_ble_eq_true rfl) (by repeat (first | assumption | exact up_s | refine (up_n (by omega)).trans ?_)) rfl (mm_isPlaceF q g31 ga (show 0 < 2 by omega) (hx.elim Or.inl (fun c => c.elim (fun c => absurd ⟨1, hD, rfl⟩ c) (fun c => Or.inr fun i hi e => c 1 i hD hi rfl e)))) ?_
      refine ev_if_eqT (tgt := 31) dX10_link_24 (by decide) (by first | assumption | exact z_eq (by omega) | decide) ?_
      refine ev_iconst dX10_link_31 ci0 ?_
      refine ev_istore dX10_link_32 (Nat.le_of_ble_eq_true rfl) ?_
      first | refine ev_aload_n dX10_link_34 rfl ?_ | refine ev_aload_nN dX10_link_34 rfl ?_
      refine ev_iload dX10_link_35 rfl ?_
      refine ev_iconst dX10_link_37 ci1 ?_
      refine ev_iconst dX10_link_38 ci1 ?_
      refine ev_V3 dX10_link_39 st_RX10_59 na_X10_goes (Nat.le_of_ble_eq_true rfl) (Nat.le_of_ble_eq_true rfl) (by repeat (first | assumption | exact up_s | refine (up_n (by omega)).trans ?_)) rfl (mm_goes1 g31) ?_
      refine ev_if_eqT (tgt := 55) dX10_link_42 (by decide) (by first | assumption | exact z_eq (by omega) | decide) ?_
      refine ev_iconst dX10_link_55 ci0 ?_
      exact ev_ireturnE dX10_link_56 rfl (by rfl)
  · refine ev_iload_n dX10_link_0 rfl ?_
    refine ev_iconst dX10_link_1 ci0 ?_
    refine ev_iconst dX10_link_2 ci1 ?_
    refine ev_S3 dX10_link_3 st_RX10_55 na_X10_in (Nat.le_of_ble_eq_true rfl) (Nat.le_of_ble_eq_true rfl) (mm_inF (N := 2) (by omega) (by omega) q1) ?_
    refine ev_if_eqT (tgt := 31) dX10_link_6 (by decide) (by first | assumption | exact z_eq (by omega) | decide) ?_
    refine ev_iconst dX10_link_31 ci0 ?_
    refine ev_istore dX10_link_32 (Nat.le_of_ble_eq_true rfl) ?_
    first | refine ev_aload_n dX10_link_34 rfl ?_ | refine ev_aload_nN dX10_link_34 rfl ?_
    refine ev_iload dX10_link_35 rfl ?_
    refine ev_iconst dX10_link_37 ci1 ?_
    refine ev_iconst dX10_link_38 ci1 ?_
    refine ev_V3 dX10_link_39 st_RX10_59 na_X10_goes (Nat.le_of_ble_eq_true rfl) (Nat.le_of_ble_eq_true rfl) (by repeat (first | assumption | exact up_s | refine (up_n (by omega)).trans ?_)) rfl (mm_goes1 g31) ?_
    refine ev_if_eqT (tgt := 55) dX10_link_42 (by decide) (by first | assumption | exact z_eq (by omega) | decide) ?_
    refine ev_iconst dX10_link_55 ci0 ?_
    exact ev_ireturnE dX10_link_56 rfl (by rfl)
end MM5
