/-! the model: totals -/
section MT
variable {d n : Nat} {h h' : Hp} {made th : Nat} {t : Nat → Nat} {l : Nat → Nat → Nat} {w : Nat → Nat → Nat → Nat} {S : Nat → Nat → Nat} {W : Nat → Nat} {F : Nat → Nat}
theorem ptF_0 {S w0 w1 : Nat → Nat} {j : Nat} : ptF S w0 w1 j 0 = S (15 * 15 + w1 j) / 1000 := rfl
theorem ptF_s {S w0 w1 : Nat → Nat} {j x : Nat} : ptF S w0 w1 j (x + 1) = S (15 * w0 x + w1 j) / 1000 := by
  unfold ptF
  rw [if_neg (by omega), Nat.add_sub_cancel]
theorem lm_toI (q : WF made t l w S W) (g31 : h 31 = MO made F th) (ga : MA h made t l w S W) {i j x9 : Nat} (hi : i < made) (hj : j < l 1 i) {o9 : Out} (K : Ev (d + 2) MX10_total 133 [(0, .ref 31), (1, .int (nI i)), (2, .long (lN x9)), (4, .int (nI j)), (5, .int (nI (w 1 i j))), (6, .long (lN (sumN (ptF (S 0) (w 0 i) (w 1 i) j) (l 0 i + 1)))), (8, .int (nI (l 0 i)))] [] n h o9) :
    ∀ k x, x + k = l 0 i → Ev (d + 2) MX10_total 87 [(0, .ref 31), (1, .int (nI i)), (2, .long (lN x9)), (4, .int (nI j)), (5, .int (nI (w 1 i j))), (6, .long (lN (sumN (ptF (S 0) (w 0 i) (w 1 i) j) (x + 1)))), (8, .int (nI x))] [] n h o9 := by
  have hm := q.1
  obtain ⟨lo, b3, c3⟩ := ga.2.2.1
  obtain ⟨wo, b4, c4⟩ := ga.2.2.2.1
  obtain ⟨sh, b7, c7⟩ := ga.2.2.2.2.2.2.1
  have h0 := q.2.2.1 0 i (by omega) (by omega)
  have h1 := q.2.2.1 1 i (by omega) (by omega)
  have o15 := q.2.2.2.1 1 i j (by omega) (by omega) hj
  have lo0 := mm_longOf (d := d + 1) (n := n) g31 b3 (show i < 20 by omega) (show 0 < 2 by omega)
  rw [show lo (2 * i + 0) = l 0 i from c3 0 i (by omega) hi] at lo0
  intro k
  induction k with
  | zero =>
    intro x hx
    have e : x = l 0 i := by omega
    subst e
    refine ev_iload dX10_total_87 rfl ?_
    first | refine ev_aload_n dX10_total_89 rfl ?_ | refine ev_aload_nN dX10_total_89 rfl ?_
    refine ev_iload_n dX10_total_90 rfl ?_
    refine ev_iconst dX10_total_91 ci0 ?_
    refine ev_V2 dX10_total_92 st_RX10_74 na_X10_longOf (Nat.le_of_ble_eq_true rfl) (Nat.le_of_ble_eq_true rfl) (by repeat (first | assumption | exact up_s | refine (up_n (by omega)).trans ?_)) rfl (lo0) ?_
    refine ev_icmp_geT (tgt := 133) dX10_total_95 (by decide) (by first | assumption | exact nI_le (by omega) (by omega) | decide) ?_
    refine ev_sub ?_ (K)
    repeat (first | exact trivial | refine ⟨rfl, ?_⟩)
  | succ k ih =>
    intro x hx
    have ih := ih (x + 1) (by omega)
    clear K
    have w15 := q.2.2.2.1 0 i x (by omega) (by omega) (by omega)
    have wa := mm_wordAt (d := d + 1) (n := n) g31 b4 (show i < 20 by omega) (show 0 < 2 by omega) (show x < 8 by omega)
    rw [show wo (16 * i + 8 * 0 + x) = w 0 i x from c4 0 i x (by omega) hi (by omega)] at wa
    have es : sh (240 * 0 + 15 * w 0 i x + w 1 i j) = S 0 (15 * w 0 i x + w 1 i j) := (congrArg sh (Nat.add_assoc _ _ _)).trans (c7 0 (15 * w 0 i x + w 1 i j) (by omega) (by omega))
    have hsb : S 0 (15 * w 0 i x + w 1 i j) ≤ 1000000 := q.2.2.2.2.1 0 (by omega) _
    have e1 : sumN (ptF (S 0) (w 0 i) (w 1 i) j) (x + 1 + 1) = sumN (ptF (S 0) (w 0 i) (w 1 i) j) (x + 1) + sh (240 * 0 + 15 * w 0 i x + w 1 i j) / 1000 := by
      rw [es, ← ptF_s]; rfl
    rw [e1] at ih
    clear e1
    refine ev_iload dX10_total_87 rfl ?_
    first | refine ev_aload_n dX10_total_89 rfl ?_ | refine ev_aload_nN dX10_total_89 rfl ?_
    refine ev_iload_n dX10_total_90 rfl ?_
    refine ev_iconst dX10_total_91 ci0 ?_
    refine ev_V2 dX10_total_92 st_RX10_74 na_X10_longOf (Nat.le_of_ble_eq_true rfl) (Nat.le_of_ble_eq_true rfl) (by repeat (first | assumption | exact up_s | refine (up_n (by omega)).trans ?_)) rfl (lo0) ?_
    refine ev_icmp_geF dX10_total_95 133 (by decide) (by first | assumption | exact nI_ge (by omega) (by omega) | decide) ?_
    refine ev_lload dX10_total_98 rfl ?_
    first | refine ev_aload_n dX10_total_100 rfl ?_ | refine ev_aload_nN dX10_total_100 rfl ?_
    refine ev_getfield dX10_total_101 fl_RX10_29 (by repeat (first | assumption | exact up_s | refine (up_n (by omega)).trans ?_)) rfl ?_
    refine ev_iconst dX10_total_104 ci0 ?_
    first | refine ev_aload_n dX10_total_105 rfl ?_ | refine ev_aload_nN dX10_total_105 rfl ?_
    refine ev_iload_n dX10_total_106 rfl ?_
    refine ev_iconst dX10_total_107 ci0 ?_
    refine ev_iload dX10_total_108 rfl ?_
    refine ev_V3 dX10_total_110 st_RX10_77 na_X10_wordAt (Nat.le_of_ble_eq_true rfl) (Nat.le_of_ble_eq_true rfl) (by repeat (first | assumption | exact up_s | refine (up_n (by omega)).trans ?_)) rfl (wa) ?_
    refine ev_iload dX10_total_113 rfl ?_
    refine ev_S3 dX10_total_115 st_RX10_81 na_X10_at (Nat.le_of_ble_eq_true rfl) (Nat.le_of_ble_eq_true rfl) (mm_at) ?_
    refine ev_iald dX10_total_118 (by repeat (first | assumption | exact up_s | refine (up_n (by omega)).trans ?_)) _ rfl (by omega) (by omega) ?_
    refine ev_sipush dX10_total_119 sp1000 ?_
    refine ev_idivN dX10_total_122 (by omega) (by omega) (by omega) ?_
    refine ev_i2lN dX10_total_123 (by omega) ?_
    first | refine ev_laddN dX10_total_124 ?_ | refine ev_ladd dX10_total_124 ?_
    refine ev_lstore dX10_total_125 (Nat.le_of_ble_eq_true rfl) ?_
    refine ev_iincN (b := 1) dX10_total_127 rfl (Nat.le_of_ble_eq_true rfl) ?_
    refine ev_goto (tgt := 87) dX10_total_130 (by decide) ?_
    refine ev_sub ?_ (ih)
    repeat (first | exact trivial | refine ⟨rfl, ?_⟩)
theorem lm_toJ (q : WF made t l w S W) (g31 : h 31 = MO made F th) (ga : MA h made t l w S W) {i : Nat} (hi : i < made) :
    ∀ k j, j + k = l 1 i → Ev (d + 2) MX10_total 43 [(0, .ref 31), (1, .int (nI i)), (2, .long (lN (prD (ptF (S 0) (w 0 i) (w 1 i)) (l 0 i + 1) j))), (4, .int (nI j))] [] n h (.inl (some (.long (lN (toN S l w i)))), n, h, 0, 0) := by
  have hm := q.1
  obtain ⟨lo, b3, c3⟩ := ga.2.2.1
  obtain ⟨wo, b4, c4⟩ := ga.2.2.2.1
  obtain ⟨sh, b7, c7⟩ := ga.2.2.2.2.2.2.1
  have h0 := q.2.2.1 0 i (by omega) (by omega)
  have h1 := q.2.2.1 1 i (by omega) (by omega)
  have lo1 := mm_longOf (d := d + 1) (n := n) g31 b3 (show i < 20 by omega) (show 1 < 2 by omega)
  rw [show lo (2 * i + 1) = l 1 i from c3 1 i (by omega) hi] at lo1
  intro k
  induction k with
  | zero =>
    intro j hj
    have e : j = l 1 i := by omega
    subst e
    refine ev_iload dX10_total_43 rfl ?_
    first | refine ev_aload_n dX10_total_45 rfl ?_ | refine ev_aload_nN dX10_total_45 rfl ?_
    refine ev_iload_n dX10_total_46 rfl ?_
    refine ev_iconst dX10_total_47 ci1 ?_
    refine ev_V2 dX10_total_48 st_RX10_74 na_X10_longOf (Nat.le_of_ble_eq_true rfl) (Nat.le_of_ble_eq_true rfl) (by repeat (first | assumption | exact up_s | refine (up_n (by omega)).trans ?_)) rfl (lo1) ?_
    refine ev_icmp_geT (tgt := 144) dX10_total_51 (by decide) (by first | assumption | exact nI_le (by omega) (by omega) | decide) ?_
    refine ev_lload_n dX10_total_144 rfl ?_
    exact ev_lreturnE dX10_total_145 rfl (by rfl)
  | succ k ih =>
    intro j hj
    have ih := ih (j + 1) (by omega)
    have o15 := q.2.2.2.1 1 i j (by omega) (by omega) (by omega)
    have wa := mm_wordAt (d := d + 1) (n := n) g31 b4 (show i < 20 by omega) (show 1 < 2 by omega) (show j < 8 by omega)
    rw [show wo (16 * i + 8 * 1 + j) = w 1 i j from c4 1 i j (by omega) hi (by omega)] at wa
    have es : sh (240 * 0 + 15 * 15 + w 1 i j) = S 0 (15 * 15 + w 1 i j) := (congrArg sh (Nat.add_assoc _ _ _)).trans (c7 0 (15 * 15 + w 1 i j) (by omega) (by omega))
    have hsb : S 0 (15 * 15 + w 1 i j) ≤ 1000000 := q.2.2.2.2.1 0 (by omega) _
    have s1 : sumN (ptF (S 0) (w 0 i) (w 1 i) j) (0 + 1) = sh (240 * 0 + 15 * 15 + w 1 i j) / 1000 := by
      rw [es]; exact Nat.zero_add _
    have lI := fun {o9 : Out} K => lm_toI (d := d) (n := n) (x9 := prD (ptF (S 0) (w 0 i) (w 1 i)) (l 0 i + 1) j) (o9 := o9) q g31 ga hi (show j < l 1 i by omega) K (l 0 i) 0 (by omega)
    rw [s1] at lI
    clear s1
    refine ev_iload dX10_total_43 rfl ?_
    first | refine ev_aload_n dX10_total_45 rfl ?_ | refine ev_aload_nN dX10_total_45 rfl ?_
    refine ev_iload_n dX10_total_46 rfl ?_
    refine ev_iconst dX10_total_47 ci1 ?_
    refine ev_V2 dX10_total_48 st_RX10_74 na_X10_longOf (Nat.le_of_ble_eq_true rfl) (Nat.le_of_ble_eq_true rfl) (by repeat (first | assumption | exact up_s | refine (up_n (by omega)).trans ?_)) rfl (lo1) ?_
    refine ev_icmp_geF dX10_total_51 144 (by decide) (by first | assumption | exact nI_ge (by omega) (by omega) | decide) ?_
    first | refine ev_aload_n dX10_total_54 rfl ?_ | refine ev_aload_nN dX10_total_54 rfl ?_
    refine ev_iload_n dX10_total_55 rfl ?_
    refine ev_iconst dX10_total_56 ci1 ?_
    refine ev_iload dX10_total_57 rfl ?_
    refine ev_V3 dX10_total_59 st_RX10_77 na_X10_wordAt (Nat.le_of_ble_eq_true rfl) (Nat.le_of_ble_eq_true rfl) (by repeat (first | assumption | exact up_s | refine (up_n (by omega)).trans ?_)) rfl (wa) ?_
    refine ev_istore dX10_total_62 (Nat.le_of_ble_eq_true rfl) ?_
    first | refine ev_aload_n dX10_total_64 rfl ?_ | refine ev_aload_nN dX10_total_64 rfl ?_
    refine ev_getfield dX10_total_65 fl_RX10_29 (by repeat (first | assumption | exact up_s | refine (up_n (by omega)).trans ?_)) rfl ?_
    refine ev_iconst dX10_total_68 ci0 ?_
    refine ev_bipush dX10_total_69 bp15 ?_
    refine ev_iload dX10_total_71 rfl ?_
    refine ev_S3 dX10_total_73 st_RX10_81 na_X10_at (Nat.le_of_ble_eq_true rfl) (Nat.le_of_ble_eq_true rfl) (mm_at) ?_
    refine ev_iald dX10_total_76 (by repeat (first | assumption | exact up_s | refine (up_n (by omega)).trans ?_)) _ rfl (by omega) (by omega) ?_
    refine ev_sipush dX10_total_77 sp1000 ?_
    refine ev_idivN dX10_total_80 (by omega) (by omega) (by omega) ?_
    refine ev_i2lN dX10_total_81 (by omega) ?_
    refine ev_lstore dX10_total_82 (Nat.le_of_ble_eq_true rfl) ?_
    refine ev_iconst dX10_total_84 ci0 ?_
    refine ev_istore dX10_total_85 (Nat.le_of_ble_eq_true rfl) ?_
    refine ev_sub ?_ (lI ?_)
    · repeat (first | exact trivial | refine ⟨rfl, ?_⟩)
    · refine ev_lload_n dX10_total_133 rfl ?_
      refine ev_lload dX10_total_134 rfl ?_
      first | refine ev_lmulN dX10_total_136 ?_ | refine ev_lmul dX10_total_136 ?_
      refine ev_lstore_n dX10_total_137 (Nat.le_of_ble_eq_true rfl) ?_
      refine ev_iincN (b := 1) dX10_total_138 rfl (Nat.le_of_ble_eq_true rfl) ?_
      refine ev_goto (tgt := 43) dX10_total_141 (by decide) ?_
      refine ev_sub ?_ (ih)
      repeat (first | exact trivial | refine ⟨rfl, ?_⟩)
theorem mm_totalT (q : WF made t l w S W) (g : MS h th made t l w S W) {i : Nat} (hi : i < made) (ht : t i = 1) (hl : l 1 i ≤ 4) : ∃ h', Ev (d + 2) MX10_total 0 (lv_args 0 [.ref 31, .int (nI i)]) [] n h (.inl (some (.long (lN (toN S l w i)))), n, h', 0, 0) ∧ MS h' 0 made t l w S W ∧ Fm h h' := by
  obtain ⟨⟨F, g31⟩, ga⟩ := g
  obtain ⟨go, b5, c5⟩ := ga.2.2.2.2.1
  obtain ⟨lo, b3, c3⟩ := ga.2.2.1
  have hm := q.1
  have lo1 := mm_longOf (d := d + 1) (n := n) g31 b3 (show i < 20 by omega) (show 1 < 2 by omega)
  rw [show lo (2 * i + 1) = l 1 i from c3 1 i (by omega) hi] at lo1
  refine ⟨va_up h 31 (MO made F 0), ?_, ⟨⟨F, up_s⟩, MA_31 ga⟩, Fm_up Fm_rfl (by omega)⟩
  first | refine ev_aload_n dX10_total_0 rfl ?_ | refine ev_aload_nN dX10_total_0 rfl ?_
  first | refine ev_aload_n dX10_total_1 rfl ?_ | refine ev_aload_nN dX10_total_1 rfl ?_
  refine ev_iload_n dX10_total_2 rfl ?_
  refine ev_V1 dX10_total_3 st_RX10_67 na_X10_isThere (Nat.le_of_ble_eq_true rfl) (Nat.le_of_ble_eq_true rfl) (by repeat (first | assumption | exact up_s | refine (up_n (by omega)).trans ?_)) rfl (mm_isThereT g31 b5 c5 q.1 hi ht) ?_
  first | refine ev_aload_n dX10_total_6 rfl ?_ | refine ev_aload_nN dX10_total_6 rfl ?_
  refine ev_iload_n dX10_total_7 rfl ?_
  refine ev_V1 dX10_total_8 st_RX10_67 na_X10_isThere (Nat.le_of_ble_eq_true rfl) (Nat.le_of_ble_eq_true rfl) (by repeat (first | assumption | exact up_s | refine (up_n (by omega)).trans ?_)) rfl (mm_isThereT g31 b5 c5 q.1 hi ht) ?_
  refine ev_if_eqF dX10_total_11 28 (by decide) (by first | assumption | exact nI_ne0 (by omega) (by omega) | decide) ?_
  first | refine ev_aload_n dX10_total_14 rfl ?_ | refine ev_aload_nN dX10_total_14 rfl ?_
  refine ev_iload_n dX10_total_15 rfl ?_
  refine ev_iconst dX10_total_16 ci1 ?_
  refine ev_V2 dX10_total_17 st_RX10_74 na_X10_longOf (Nat.le_of_ble_eq_true rfl) (Nat.le_of_ble_eq_true rfl) (by repeat (first | assumption | exact up_s | refine (up_n (by omega)).trans ?_)) rfl (lo1) ?_
  refine ev_iconst dX10_total_20 ci4 ?_
  refine ev_icmp_gtF dX10_total_21 28 (by decide) (by first | assumption | exact nI_nlt (by omega) (by omega) | decide) ?_
  refine ev_iconst dX10_total_24 ci1 ?_
  refine ev_goto (tgt := 29) dX10_total_25 (by decide) ?_
  refine ev_iconst dX10_total_29 ci1 ?_
  refine ev_V3 dX10_total_30 st_RX10_59 na_X10_goes (Nat.le_of_ble_eq_true rfl) (Nat.le_of_ble_eq_true rfl) (by repeat (first | assumption | exact up_s | refine (up_n (by omega)).trans ?_)) rfl (mm_goesT g31) ?_
  refine ev_if_neT (tgt := 38) dX10_total_33 (by decide) (by first | assumption | exact nI_ne0 (by omega) (by omega) | decide) ?_
  refine ev_lconst dX10_total_38 lc1 ?_
  refine ev_lstore_n dX10_total_39 (Nat.le_of_ble_eq_true rfl) ?_
  refine ev_iconst dX10_total_40 ci0 ?_
  refine ev_istore dX10_total_41 (Nat.le_of_ble_eq_true rfl) ?_
  refine ev_sub ?_ (lm_toJ (F := F) (th := 0) q up_s (MA_31 ga) hi (l 1 i) 0 (by omega))
  repeat (first | exact trivial | refine ⟨rfl, ?_⟩)
theorem mm_total2 (q : WF made t l w S W) (g : MS h th made t l w S W) {i : Nat} (hi : i < made) (ht : t i = 1) (hl : 4 < l 1 i) : ∃ h' v, Ev (d + 2) MX10_total 0 (lv_args 0 [.ref 31, .int (nI i)]) [] n h (.inl (some (.long v)), n, h', 0, 0) ∧ MS h' 2 made t l w S W ∧ Fm h h' := by
  obtain ⟨⟨F, g31⟩, ga⟩ := g
  obtain ⟨go, b5, c5⟩ := ga.2.2.2.2.1
  obtain ⟨lo, b3, c3⟩ := ga.2.2.1
  have hm := q.1
  have h1 := q.2.2.1 1 i (by omega) (by omega)
  have lo1 := mm_longOf (d := d + 1) (n := n) g31 b3 (show i < 20 by omega) (show 1 < 2 by omega)
  rw [show lo (2 * i + 1) = l 1 i from c3 1 i (by omega) hi] at lo1
  refine ⟨va_up h 31 (MO made F 2), lN 0, ?_, ⟨⟨F, up_s⟩, MA_31 ga⟩, Fm_up Fm_rfl (by omega)⟩
  first | refine ev_aload_n dX10_total_0 rfl ?_ | refine ev_aload_nN dX10_total_0 rfl ?_
  first | refine ev_aload_n dX10_total_1 rfl ?_ | refine ev_aload_nN dX10_total_1 rfl ?_
  refine ev_iload_n dX10_total_2 rfl ?_
  refine ev_V1 dX10_total_3 st_RX10_67 na_X10_isThere (Nat.le_of_ble_eq_true rfl) (Nat.le_of_ble_eq_true rfl) (by repeat (first | assumption | exact up_s | refine (up_n (by omega)).trans ?_)) rfl (mm_isThereT g31 b5 c5 q.1 hi ht) ?_
  first | refine ev_aload_n dX10_total_6 rfl ?_ | refine ev_aload_nN dX10_total_6 rfl ?_
  refine ev_iload_n dX10_total_7 rfl ?_
  refine ev_V1 dX10_total_8 st_RX10_67 na_X10_isThere (Nat.le_of_ble_eq_true rfl) (Nat.le_of_ble_eq_true rfl) (by repeat (first | assumption | exact up_s | refine (up_n (by omega)).trans ?_)) rfl (mm_isThereT g31 b5 c5 q.1 hi ht) ?_
  refine ev_if_eqF dX10_total_11 28 (by decide) (by first | assumption | exact nI_ne0 (by omega) (by omega) | decide) ?_
  first | refine ev_aload_n dX10_total_14 rfl ?_ | refine ev_aload_nN dX10_total_14 rfl ?_
  refine ev_iload_n dX10_total_15 rfl ?_
  refine ev_iconst dX10_total_16 ci1 ?_
  refine ev_V2 dX10_total_17 st_RX10_74 na_X10_longOf (Nat.le_of_ble_eq_true rfl) (Nat.le_of_ble_eq_true rfl) (by repeat (first | assumption | exact up_s | refine (up_n (by omega)).trans ?_)) rfl (lo1) ?_
  refine ev_iconst dX10_total_20 ci4 ?_
  refine ev_icmp_gtT (tgt := 28) dX10_total_21 (by decide) (by first | assumption | exact nI_lt (by omega) (by omega) | decide) ?_
  refine ev_iconst dX10_total_28 ci0 ?_
  refine ev_iconst dX10_total_29 ci1 ?_
  refine ev_V3 dX10_total_30 st_RX10_59 na_X10_goes (Nat.le_of_ble_eq_true rfl) (Nat.le_of_ble_eq_true rfl) (by repeat (first | assumption | exact up_s | refine (up_n (by omega)).trans ?_)) rfl (mm_goes2 g31) ?_
  refine ev_if_neF dX10_total_33 38 (by decide) (by first | assumption | exact z_eq (by omega) | decide) ?_
  refine ev_lconst dX10_total_36 lc0 ?_
  exact ev_lreturnE dX10_total_37 rfl (by rfl)
theorem mm_totalF (q : WF made t l w S W) (g : MS h th made t l w S W) {x : Int32} (hx : ¬ itIs x made t) : ∃ h' v, Ev (d + 2) MX10_total 0 (lv_args 0 [.ref 31, .int x]) [] n h (.inl (some (.long v)), n, h', 0, 0) ∧ MS h' 1 made t l w S W ∧ Fm h h' := by
  obtain ⟨⟨F, g31⟩, ga⟩ := g
  obtain ⟨go, b5, c5⟩ := ga.2.2.2.2.1
  refine ⟨va_up h 31 (MO made F 1), lN 0, ?_, ⟨⟨F, up_s⟩, MA_31 ga⟩, Fm_up Fm_rfl (by omega)⟩
  first | refine ev_aload_n dX10_total_0 rfl ?_ | refine ev_aload_nN dX10_total_0 rfl ?_
  first | refine ev_aload_n dX10_total_1 rfl ?_ | refine ev_aload_nN dX10_total_1 rfl ?_
  refine ev_iload_n dX10_total_2 rfl ?_
  refine ev_V1 dX10_total_3 st_RX10_67 na_X10_isThere (Nat.le_of_ble_eq_true rfl) (Nat.le_of_ble_eq_true rfl) (by repeat (first | assumption | exact up_s | refine (up_n (by omega)).trans ?_)) rfl (mm_isThereF g31 b5 c5 q.1 q.2.1 hx) ?_
  first | refine ev_aload_n dX10_total_6 rfl ?_ | refine ev_aload_nN dX10_total_6 rfl ?_
  refine ev_iload_n dX10_total_7 rfl ?_
  refine ev_V1 dX10_total_8 st_RX10_67 na_X10_isThere (Nat.le_of_ble_eq_true rfl) (Nat.le_of_ble_eq_true rfl) (by repeat (first | assumption | exact up_s | refine (up_n (by omega)).trans ?_)) rfl (mm_isThereF g31 b5 c5 q.1 q.2.1 hx) ?_
  refine ev_if_eqT (tgt := 28) dX10_total_11 (by decide) (by first | assumption | exact z_eq (by omega) | decide) ?_
  refine ev_iconst dX10_total_28 ci0 ?_
  refine ev_iconst dX10_total_29 ci1 ?_
  refine ev_V3 dX10_total_30 st_RX10_59 na_X10_goes (Nat.le_of_ble_eq_true rfl) (Nat.le_of_ble_eq_true rfl) (by repeat (first | assumption | exact up_s | refine (up_n (by omega)).trans ?_)) rfl (mm_goes1 g31) ?_
  refine ev_if_neF dX10_total_33 38 (by decide) (by first | assumption | exact z_eq (by omega) | decide) ?_
  refine ev_lconst dX10_total_36 lc0 ?_
  exact ev_lreturnE dX10_total_37 rfl (by rfl)
theorem mm_totalAnewT (q : WF made t l w S W) (g : MS h th made t l w S W) {i : Nat} (hi : i < made) (ht : t i = 1) (hl : l 1 i ≤ 4) : ∃ h', Ev (d + 3) MX10_totalAnew 0 (lv_args 0 [.ref 31, .int (nI i)]) [] n h (.inl (some (.long (lN (toN S l w i)))), n, h', 0, 0) ∧ MS h' 0 made t l w S W ∧ Fm h h' := by
  obtain ⟨h', ev, r⟩ := mm_totalT (d := d) (n := n) q g hi ht hl
  obtain ⟨⟨F, g31⟩, ga⟩ := g
  refine ⟨h', ?_, r⟩
  first | refine ev_aload_n dX10_totalAnew_0 rfl ?_ | refine ev_aload_nN dX10_totalAnew_0 rfl ?_
  refine ev_iload_n dX10_totalAnew_1 rfl ?_
  refine ev_V1 dX10_totalAnew_2 st_RX10_148 na_X10_total (Nat.le_of_ble_eq_true rfl) (Nat.le_of_ble_eq_true rfl) (by repeat (first | assumption | exact up_s | refine (up_n (by omega)).trans ?_)) rfl (ev) ?_
  exact ev_lreturnE dX10_totalAnew_5 rfl (by rfl)
theorem mm_totalAnew2 (q : WF made t l w S W) (g : MS h th made t l w S W) {i : Nat} (hi : i < made) (ht : t i = 1) (hl : 4 < l 1 i) : ∃ h' v, Ev (d + 3) MX10_totalAnew 0 (lv_args 0 [.ref 31, .int (nI i)]) [] n h (.inl (some (.long v)), n, h', 0, 0) ∧ MS h' 2 made t l w S W ∧ Fm h h' := by
  obtain ⟨h', v, ev, r⟩ := mm_total2 (d := d) (n := n) q g hi ht hl
  obtain ⟨⟨F, g31⟩, ga⟩ := g
  refine ⟨h', v, ?_, r⟩
  first | refine ev_aload_n dX10_totalAnew_0 rfl ?_ | refine ev_aload_nN dX10_totalAnew_0 rfl ?_
  refine ev_iload_n dX10_totalAnew_1 rfl ?_
  refine ev_V1 dX10_totalAnew_2 st_RX10_148 na_X10_total (Nat.le_of_ble_eq_true rfl) (Nat.le_of_ble_eq_true rfl) (by repeat (first | assumption | exact up_s | refine (up_n (by omega)).trans ?_)) rfl (ev) ?_
  exact ev_lreturnE dX10_totalAnew_5 rfl (by rfl)
theorem mm_totalAnewF (q : WF made t l w S W) (g : MS h th made t l w S W) {x : Int32} (hx : ¬ itIs x made t) : ∃ h' v, Ev (d + 3) MX10_totalAnew 0 (lv_args 0 [.ref 31, .int x]) [] n h (.inl (some (.long v)), n, h', 0, 0) ∧ MS h' 1 made t l w S W ∧ Fm h h' := by
  obtain ⟨h', v, ev, r⟩ := mm_totalF (d := d) (n := n) q g hx
  obtain ⟨⟨F, g31⟩, ga⟩ := g
  refine ⟨h', v, ?_, r⟩
  first | refine ev_aload_n dX10_totalAnew_0 rfl ?_ | refine ev_aload_nN dX10_totalAnew_0 rfl ?_
  refine ev_iload_n dX10_totalAnew_1 rfl ?_
  refine ev_V1 dX10_totalAnew_2 st_RX10_148 na_X10_total (Nat.le_of_ble_eq_true rfl) (Nat.le_of_ble_eq_true rfl) (by repeat (first | assumption | exact up_s | refine (up_n (by omega)).trans ?_)) rfl (ev) ?_
  exact ev_lreturnE dX10_totalAnew_5 rfl (by rfl)
end MT
