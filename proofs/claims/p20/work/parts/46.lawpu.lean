/-! the law: words put, pairs made -/
section LPU
variable {d n L gc : Nat} {xs : Nat → Int32} {h : Hp}
theorem LR_put {made D : Nat} {t : Nat → Nat} {l : Nat → Nat → Nat} {W G Z Lc Wc : Nat → Nat} (r : LR made gc t l W G Z Lc Wc) (hD : D < 2) : LR made gc t (lP l D made (l D made + 1)) W (va_up G D (G D + 1)) Z Lc Wc := by
  obtain ⟨⟨r1, r2, r3, r4⟩, r5, r6, r7, r8⟩ := r
  refine ⟨?_, r5, r6, fun i hi => ?_, r8⟩
  · rcases (show D = 0 ∨ D = 1 by omega) with rfl | rfl
    · refine ⟨?_, ?_, ?_, ?_⟩
      · rw [up_sN, r1]; exact (if_pos ⟨rfl, rfl⟩).symm
      · rw [up_nN (by omega), r2]; exact (if_neg (by omega)).symm
      · rw [up_nN (by omega), r3]
      · rw [up_nN (by omega), r4]
    · refine ⟨?_, ?_, ?_, ?_⟩
      · rw [up_nN (by omega), r1]; exact (if_neg (by omega)).symm
      · rw [up_sN, r2]; exact (if_pos ⟨rfl, rfl⟩).symm
      · rw [up_nN (by omega), r3]
      · rw [up_nN (by omega), r4]
  · have e : ∀ D', lP l D made (l D made + 1) D' i = l D' i := fun D' => if_neg (by omega)
    rw [e, e]
    exact r7 i hi
theorem up_same {G : Nat → Nat} {D : Nat} : va_up G D (G D + 0) = G := up_idN rfl
theorem LR_G {made : Nat} {t : Nat → Nat} {l : Nat → Nat → Nat} {W G Z Lc Wc : Nat → Nat} (r : LR made gc t l W G Z Lc Wc) {D : Nat} (hD : D < 2) : G D = l D made := by
  rcases (show D = 0 ∨ D = 1 by omega) with rfl | rfl
  · exact r.1.1
  · exact r.1.2.1
theorem lp_pu82 {x y : Int32} {many k D wd : Nat} (hk : k < 16) (hD : D < 2) (hw : wd < 15) (I : LI L xs n h gc) {m : Nat} (ih : ∀ h, LI L xs n h gc → ∃ h' c e, Ev (d + 9) ML_puts 15 [(0, .ref 2), (1, .ref 31), (2, .int x), (3, .int y), (4, .int (nI 1)), (5, .int (nI many)), (6, .int (nI (k + 1)))] [] n h (.inl (some (.int (nI 1))), n, h', c, e) ∧ LI L xs n h' gc ∧ c ≤ m ∧ e ≤ 6 * m) :
    ∃ h' c e, Ev (d + 9) ML_puts 82 [(0, .ref 2), (1, .ref 31), (2, .int x), (3, .int y), (4, .int (nI 1)), (5, .int (nI many)), (6, .int (nI k)), (7, .int (nI D)), (8, .int (nI wd))] [] n h (.inl (some (.int (nI 1))), n, h', c, e) ∧ LI L xs n h' gc ∧ c ≤ m + 1 ∧ e ≤ 6 * (m + 1) := by
  obtain ⟨made, t, l, w, S, W, G, Z, Lc, Wc, hn, g, v, rs, z, r⟩ := I
  have hG := LR_G r hD
  have hs := (Pr_side g.2.2.2.1 (show D ≤ 1 by omega)).2.2.1
  have v1 := v.1
  rcases Nat.lt_or_ge (l D made) 8 with q | q
  · obtain ⟨h1, e1, g', f1⟩ := m9_putT (d := d + 4) (n := n) g hD hw q
    have e1 := hl_putR g.1 e1
    rw [← hG] at e1
    have v1' := (LW_Fr f1 v).1
    obtain ⟨h', c, e, ev, I', b1, b2⟩ := ih (va_up h1 31 (aI 4 (va_up G D (G D + 1)))) ⟨made, t, _, _, S, W, _, Z, Lc, Wc, hn, GS_upL g' (by omega) (by omega), LW_31 _ (LW_Fr f1 v), rs, H01_up (by omega) (H01_Fr f1 z), LR_put r hD⟩
    refine ⟨h', c, e, ?_, I', by omega, by omega⟩
    first | refine ev_aload_n dL_puts_82 rfl ?_ | refine ev_aload_nN dL_puts_82 rfl ?_
    refine ev_iload dL_puts_83 rfl ?_
    refine ev_iload dL_puts_85 rfl ?_
    refine ev_callT (as := [_, _, _]) dL_puts_87 st_RL_93 na_L_put (Nat.le_of_ble_eq_true rfl) (Nat.le_of_ble_eq_true rfl) (Nat.zero_add _) (Nat.zero_add _) (e1) ?_
    first | refine ev_aload_n dL_puts_90 rfl ?_ | refine ev_aload_nN dL_puts_90 rfl ?_
    refine ev_iload dL_puts_91 rfl ?_
    refine ev_iald dL_puts_93 (by repeat (first | assumption | exact up_s | refine (up_n (by omega)).trans ?_)) _ rfl (by omega) (by omega) ?_
    refine ev_bipush dL_puts_94 bp8 ?_
    refine ev_icmp_neT (tgt := 104) dL_puts_96 (by decide) (by first | assumption | exact n_ne (by omega) (by omega) (by omega) | decide) ?_
    first | refine ev_aload_n dL_puts_104 rfl ?_ | refine ev_aload_nN dL_puts_104 rfl ?_
    refine ev_iload dL_puts_105 rfl ?_
    refine ev_iald dL_puts_107 (by repeat (first | assumption | exact up_s | refine (up_n (by omega)).trans ?_)) _ rfl (by omega) (by omega) ?_
    refine ev_iconst dL_puts_108 ci1 ?_
    first | refine ev_iaddN dL_puts_109 ?_ | refine ev_iadd dL_puts_109 ?_
    refine ev_icmp_neF dL_puts_110 117 (by decide) (by first | assumption | exact n_eq (by omega) | decide) ?_
    refine ev_iconst dL_puts_113 ci1 ?_
    refine ev_goto (tgt := 118) dL_puts_114 (by decide) ?_
    refine ev_istore dL_puts_118 (Nat.le_of_ble_eq_true rfl) ?_
    first | refine ev_aload_n dL_puts_120 rfl ?_ | refine ev_aload_nN dL_puts_120 rfl ?_
    refine ev_iload dL_puts_121 rfl ?_
    refine ev_dup2_11 dL_puts_123 rfl rfl ?_
    refine ev_iald dL_puts_124 (by repeat (first | assumption | exact up_s | refine (up_n (by omega)).trans ?_)) _ rfl (by omega) (by omega) ?_
    first | refine ev_aload_n dL_puts_125 rfl ?_ | refine ev_aload_nN dL_puts_125 rfl ?_
    refine ev_iload dL_puts_126 rfl ?_
    refine ev_iald dL_puts_128 (by repeat (first | assumption | exact up_s | refine (up_n (by omega)).trans ?_)) _ rfl (by omega) (by omega) ?_
    refine ev_bipush dL_puts_129 bp8 ?_
    refine ev_icmp_geF dL_puts_131 138 (by decide) (by first | assumption | exact nI_ge (by omega) (by omega) | decide) ?_
    refine ev_iconst dL_puts_134 ci1 ?_
    refine ev_goto (tgt := 139) dL_puts_135 (by decide) ?_
    first | refine ev_iaddN dL_puts_139 ?_ | refine ev_iadd dL_puts_139 ?_
    refine ev_iast dL_puts_140 (by omega) (by repeat (first | assumption | exact up_s | refine (up_n (by omega)).trans ?_)) _ _ rfl rfl (by omega) (by omega) ?_
    refine ev_iincN (b := 1) dL_puts_141 rfl (Nat.le_of_ble_eq_true rfl) ?_
    refine ev_goto (tgt := 15) dL_puts_144 (by decide) ?_
    refine ev_sub ?_ (ev)
    repeat (first | exact trivial | refine ⟨rfl, ?_⟩)
  · have e1 := hl_putE2 g.1 (m9_put2 (d := d + 4) (n := n) g hD hw q)
    obtain ⟨h', c, e, ev, I', b1, b2⟩ := ih (va_up h 31 (aI 4 (va_up G D (G D + 0)))) ⟨made, t, l, w, S, W, G, Z, Lc, Wc, hn, GS_upL g (by omega) (by omega), by rw [up_same]; exact LW_31 _ v, rs, H01_up (by omega) z, r⟩
    refine ⟨h', 1 + c, 6 + e, ?_, I', by omega, by omega⟩
    first | refine ev_aload_n dL_puts_82 rfl ?_ | refine ev_aload_nN dL_puts_82 rfl ?_
    refine ev_iload dL_puts_83 rfl ?_
    refine ev_iload dL_puts_85 rfl ?_
    refine ev_callT (as := [_, _, _]) dL_puts_87 st_RL_93 na_L_put (Nat.le_of_ble_eq_true rfl) (Nat.le_of_ble_eq_true rfl) rfl rfl (e1) ?_
    first | refine ev_aload_n dL_puts_90 rfl ?_ | refine ev_aload_nN dL_puts_90 rfl ?_
    refine ev_iload dL_puts_91 rfl ?_
    refine ev_iald dL_puts_93 (by repeat (first | assumption | exact up_s | refine (up_n (by omega)).trans ?_)) _ rfl (by omega) (by omega) ?_
    refine ev_bipush dL_puts_94 bp8 ?_
    refine ev_icmp_neF dL_puts_96 104 (by decide) (by first | assumption | exact n_eq (by omega) | decide) ?_
    refine ev_ldc (v := -1000003) dL_puts_99 (am_in 515 (by decide +kernel) rfl) ?_
    refine ev_goto (tgt := 110) dL_puts_101 (by decide) ?_
    refine ev_icmp_neF dL_puts_110 117 (by decide) rfl ?_
    refine ev_iconst dL_puts_113 ci1 ?_
    refine ev_goto (tgt := 118) dL_puts_114 (by decide) ?_
    refine ev_istore dL_puts_118 (Nat.le_of_ble_eq_true rfl) ?_
    first | refine ev_aload_n dL_puts_120 rfl ?_ | refine ev_aload_nN dL_puts_120 rfl ?_
    refine ev_iload dL_puts_121 rfl ?_
    refine ev_dup2_11 dL_puts_123 rfl rfl ?_
    refine ev_iald dL_puts_124 (by repeat (first | assumption | exact up_s | refine (up_n (by omega)).trans ?_)) _ rfl (by omega) (by omega) ?_
    first | refine ev_aload_n dL_puts_125 rfl ?_ | refine ev_aload_nN dL_puts_125 rfl ?_
    refine ev_iload dL_puts_126 rfl ?_
    refine ev_iald dL_puts_128 (by repeat (first | assumption | exact up_s | refine (up_n (by omega)).trans ?_)) _ rfl (by omega) (by omega) ?_
    refine ev_bipush dL_puts_129 bp8 ?_
    refine ev_icmp_geT (tgt := 138) dL_puts_131 (by decide) (by first | assumption | exact nI_le (by omega) (by omega) | decide) ?_
    refine ev_iconst dL_puts_138 ci0 ?_
    first | refine ev_iaddN dL_puts_139 ?_ | refine ev_iadd dL_puts_139 ?_
    refine ev_iast dL_puts_140 (by omega) (by repeat (first | assumption | exact up_s | refine (up_n (by omega)).trans ?_)) _ _ rfl rfl (by omega) (by omega) ?_
    refine ev_iincN (b := 1) dL_puts_141 rfl (Nat.le_of_ble_eq_true rfl) ?_
    refine ev_goto (tgt := 15) dL_puts_144 (by decide) ?_
    refine ev_sub ?_ (ev)
    repeat (first | exact trivial | refine ⟨rfl, ?_⟩)
theorem lp_pu {x y : Int32} {many : Nat} (hm : many < 16) : ∀ m k h, k + m = many → LI L xs n h gc → ∃ h' c e, Ev (d + 9) ML_puts 15 [(0, .ref 2), (1, .ref 31), (2, .int x), (3, .int y), (4, .int (nI 1)), (5, .int (nI many)), (6, .int (nI k))] [] n h (.inl (some (.int (nI 1))), n, h', c, e) ∧ LI L xs n h' gc ∧ c ≤ m ∧ e ≤ 6 * m := by
  intro m
  induction m with
  | zero =>
    intro k h hk I
    have e : k = many := by omega
    subst e
    refine ⟨h, 0, 0, ?_, I, by omega, by omega⟩
    refine ev_iload dL_puts_15 rfl ?_
    refine ev_iload dL_puts_17 rfl ?_
    refine ev_icmp_geT (tgt := 147) dL_puts_19 (by decide) (by first | assumption | exact nI_le (by omega) (by omega) | decide) ?_
    refine ev_iload dL_puts_147 rfl ?_
    exact ev_zreturnE dL_puts_149 rfl (by first | exact Or.inl rfl | exact Or.inr rfl | assumption | exact z01 (bI_01 _) | exact z01 (by omega)) (by rfl)
  | succ m ih =>
    intro k h hk I
    obtain ⟨D, hD, eD⟩ := l_low (x >>> (nI (4 + k) &&& 31)) (N := 2) (by omega) (by omega)
    obtain ⟨j3, hj3, e3⟩ := l_low (y >>> (nI (3 * k) &&& 31)) (N := 3) (by omega) (by omega)
    by_cases q : j3 = 0
    · obtain ⟨wd, hw, ew⟩ := l_low (y >>> (nI (3 * k + 1) &&& 31)) (N := 15) (by omega) (by omega)
      obtain ⟨h', c, e, ev, I', b1, b2⟩ := lp_pu82 (d := d) (x := x) (y := y) (many := many) (m := m) (show k < 16 by omega) hD hw I (fun h I => ih (k + 1) h (by omega) I)
      refine ⟨h', c, e, ?_, I', b1, b2⟩
      refine ev_iload dL_puts_15 rfl ?_
      refine ev_iload dL_puts_17 rfl ?_
      refine ev_icmp_geF dL_puts_19 147 (by decide) (by first | assumption | exact nI_ge (by omega) (by omega) | decide) ?_
      refine ev_iload dL_puts_22 rfl ?_
      refine ev_if_eqF dL_puts_24 147 (by decide) (by first | assumption | exact nI_ne0 (by omega) (by omega) | decide) ?_
      refine ev_iload_n dL_puts_27 rfl ?_
      refine ev_iconst dL_puts_28 ci4 ?_
      refine ev_iload dL_puts_29 rfl ?_
      first | refine ev_iaddN dL_puts_31 ?_ | refine ev_iadd dL_puts_31 ?_
      refine ev_ishr dL_puts_32 ?_
      refine ev_iconst dL_puts_33 ci2 ?_
      refine ev_S2 dL_puts_34 st_RL_90 na_L_low (Nat.le_of_ble_eq_true rfl) (Nat.le_of_ble_eq_true rfl) (eD _ _ _) ?_
      refine ev_istore dL_puts_37 (Nat.le_of_ble_eq_true rfl) ?_
      refine ev_iload_n dL_puts_39 rfl ?_
      refine ev_iconst dL_puts_40 ci3 ?_
      refine ev_iload dL_puts_41 rfl ?_
      first | refine ev_imulN dL_puts_43 ?_ | refine ev_imul dL_puts_43 ?_
      refine ev_ishr dL_puts_44 ?_
      refine ev_iconst dL_puts_45 ci3 ?_
      refine ev_S2 dL_puts_46 st_RL_90 na_L_low (Nat.le_of_ble_eq_true rfl) (Nat.le_of_ble_eq_true rfl) (e3 _ _ _) ?_
      refine ev_if_neF dL_puts_49 68 (by decide) (by first | assumption | exact z_eq (by omega) | decide) ?_
      refine ev_iload_n dL_puts_52 rfl ?_
      refine ev_iconst dL_puts_53 ci3 ?_
      refine ev_iload dL_puts_54 rfl ?_
      first | refine ev_imulN dL_puts_56 ?_ | refine ev_imul dL_puts_56 ?_
      refine ev_iconst dL_puts_57 ci1 ?_
      first | refine ev_iaddN dL_puts_58 ?_ | refine ev_iadd dL_puts_58 ?_
      refine ev_ishr dL_puts_59 ?_
      refine ev_bipush dL_puts_60 bp15 ?_
      refine ev_S2 dL_puts_62 st_RL_90 na_L_low (Nat.le_of_ble_eq_true rfl) (Nat.le_of_ble_eq_true rfl) (ew _ _ _) ?_
      refine ev_goto (tgt := 80) dL_puts_65 (by decide) ?_
      refine ev_istore dL_puts_80 (Nat.le_of_ble_eq_true rfl) ?_
      refine ev_sub ?_ (ev)
      repeat (first | exact trivial | refine ⟨rfl, ?_⟩)
    · obtain ⟨wd, hw, ew⟩ := l_low (y >>> (nI (3 * k + 1) &&& 31)) (N := 4) (by omega) (by omega)
      obtain ⟨h', c, e, ev, I', b1, b2⟩ := lp_pu82 (d := d) (x := x) (y := y) (many := many) (m := m) (wd := wd) (show k < 16 by omega) hD (by omega) I (fun h I => ih (k + 1) h (by omega) I)
      refine ⟨h', c, e, ?_, I', b1, b2⟩
      refine ev_iload dL_puts_15 rfl ?_
      refine ev_iload dL_puts_17 rfl ?_
      refine ev_icmp_geF dL_puts_19 147 (by decide) (by first | assumption | exact nI_ge (by omega) (by omega) | decide) ?_
      refine ev_iload dL_puts_22 rfl ?_
      refine ev_if_eqF dL_puts_24 147 (by decide) (by first | assumption | exact nI_ne0 (by omega) (by omega) | decide) ?_
      refine ev_iload_n dL_puts_27 rfl ?_
      refine ev_iconst dL_puts_28 ci4 ?_
      refine ev_iload dL_puts_29 rfl ?_
      first | refine ev_iaddN dL_puts_31 ?_ | refine ev_iadd dL_puts_31 ?_
      refine ev_ishr dL_puts_32 ?_
      refine ev_iconst dL_puts_33 ci2 ?_
      refine ev_S2 dL_puts_34 st_RL_90 na_L_low (Nat.le_of_ble_eq_true rfl) (Nat.le_of_ble_eq_true rfl) (eD _ _ _) ?_
      refine ev_istore dL_puts_37 (Nat.le_of_ble_eq_true rfl) ?_
      refine ev_iload_n dL_puts_39 rfl ?_
      refine ev_iconst dL_puts_40 ci3 ?_
      refine ev_iload dL_puts_41 rfl ?_
      first | refine ev_imulN dL_puts_43 ?_ | refine ev_imul dL_puts_43 ?_
      refine ev_ishr dL_puts_44 ?_
      refine ev_iconst dL_puts_45 ci3 ?_
      refine ev_S2 dL_puts_46 st_RL_90 na_L_low (Nat.le_of_ble_eq_true rfl) (Nat.le_of_ble_eq_true rfl) (e3 _ _ _) ?_
      refine ev_if_neT (tgt := 68) dL_puts_49 (by decide) (by first | assumption | exact nI_ne0 (by omega) (by omega) | decide) ?_
      refine ev_iload_n dL_puts_68 rfl ?_
      refine ev_iconst dL_puts_69 ci3 ?_
      refine ev_iload dL_puts_70 rfl ?_
      first | refine ev_imulN dL_puts_72 ?_ | refine ev_imul dL_puts_72 ?_
      refine ev_iconst dL_puts_73 ci1 ?_
      first | refine ev_iaddN dL_puts_74 ?_ | refine ev_iadd dL_puts_74 ?_
      refine ev_ishr dL_puts_75 ?_
      refine ev_iconst dL_puts_76 ci4 ?_
      refine ev_S2 dL_puts_77 st_RL_90 na_L_low (Nat.le_of_ble_eq_true rfl) (Nat.le_of_ble_eq_true rfl) (ew _ _ _) ?_
      refine ev_istore dL_puts_80 (Nat.le_of_ble_eq_true rfl) ?_
      refine ev_sub ?_ (ev)
      repeat (first | exact trivial | refine ⟨rfl, ?_⟩)
theorem l_puts (x y : Int32) (I : LI L xs n h gc) : ∃ h' c e, Ev (d + 9) ML_puts 0 (lv_args 0 [.ref 2, .ref 31, .int x, .int y]) [] n h (.inl (some (.int (nI 1))), n, h', c, e) ∧ LI L xs n h' gc ∧ c ≤ 5 ∧ e ≤ 30 := by
  obtain ⟨j, hj, ej⟩ := l_low x (N := 5) (by omega) (by omega)
  obtain ⟨h', c, e, ev, I', b1, b2⟩ := lp_pu (d := d) (x := x) (y := y) (many := 1 + j) (by omega) (1 + j) 0 h (by omega) I
  refine ⟨h', c, e, ?_, I', by omega, by omega⟩
  refine ev_iconst dL_puts_0 ci1 ?_
  refine ev_istore dL_puts_1 (Nat.le_of_ble_eq_true rfl) ?_
  refine ev_iconst dL_puts_3 ci1 ?_
  refine ev_iload_n dL_puts_4 rfl ?_
  refine ev_iconst dL_puts_5 ci5 ?_
  refine ev_S2 dL_puts_6 st_RL_90 na_L_low (Nat.le_of_ble_eq_true rfl) (Nat.le_of_ble_eq_true rfl) (ej _ _ _) ?_
  first | refine ev_iaddN dL_puts_9 ?_ | refine ev_iadd dL_puts_9 ?_
  refine ev_istore dL_puts_10 (Nat.le_of_ble_eq_true rfl) ?_
  refine ev_iconst dL_puts_12 ci0 ?_
  refine ev_istore dL_puts_13 (Nat.le_of_ble_eq_true rfl) ?_
  refine ev_sub ?_ (ev)
  repeat (first | exact trivial | refine ⟨rfl, ?_⟩)
theorem LR_wipe {made : Nat} {t : Nat → Nat} {l : Nat → Nat → Nat} {W G Z Lc Wc : Nat → Nat} (r : LR made gc t l W G Z Lc Wc) : LR made gc t (lW l made) W (va_up (va_up G 0 0) 1 0) Z Lc Wc := by
  obtain ⟨⟨r1, r2, r3, r4⟩, r5, r6, r7, r8⟩ := r
  refine ⟨⟨?_, ?_, ?_, ?_⟩, r5, r6, fun i hi => ?_, r8⟩
  · rw [up_nN (by omega), up_sN]; exact (if_pos rfl).symm
  · rw [up_sN]; exact (if_pos rfl).symm
  · rw [up_nN (by omega), up_nN (by omega), r3]
  · rw [up_nN (by omega), up_nN (by omega), r4]
  · have e : ∀ D', lW l made D' i = l D' i := fun D' => if_neg (by omega)
    rw [e, e]
    exact r7 i hi
theorem l_pairsF {made : Nat} {t : Nat → Nat} {l : Nat → Nat → Nat} {w : Nat → Nat → Nat → Nat} {S : Nat → Nat → Nat} {W G Z Lc Wc : Nat → Nat} (y : Int32) (hn : n = 35 + 5 * made) (g : GS h made t l w S W) (v : LW h G Z Lc Wc) (rs : RS S) (z : H01 L xs h) (r : LR made gc t l W G Z Lc Wc) (hx : l 0 made = 0 ∨ l 1 made = 0 ∨ 20 ≤ made) :
    ∃ n' h' c e, Ev (d + 9) ML_pairs 0 (lv_args 0 [.ref 2, .ref 31, .ref 32, .ref 33, .int y]) [] n h (.inl (some (.int (nI 1))), n', h', c, e) ∧ LI L xs n' h' gc ∧ c ≤ 5 ∧ e ≤ 23 := by
  obtain ⟨h1, e2, g', f1⟩ := m9_wipe (d := d + 5) (n := n) g
  have e1 := hl_pairE1 g.1 (m9_pair1 (d := d + 4) (n := n) g hx)
  have v' := LW_Fr f1 v
  have v1 := v.1
  have v1' := v'.1
  have g1 := g.1
  have hm20 := g.2.1.2.2.1
  have b0 := (Pr_side g.2.2.2.1 (show 0 ≤ 1 by omega)).2.2.1
  have b1 := (Pr_side g.2.2.2.1 (show 1 ≤ 1 by omega)).2.2.1
  have G0 := r.1.1
  have G1 := r.1.2.1
  have G2 := r.1.2.2.1
  refine ⟨n, va_up h1 31 (aI 4 (va_up (va_up G 0 0) 1 0)), 1 + 0, 6 + 0, ?_, ⟨made, t, _, w, S, W, _, Z, Lc, Wc, hn, GS_upL g' (by omega) (by omega), LW_31 _ v', rs, H01_up (by omega) (H01_Fr f1 z), LR_wipe r⟩, by omega, by omega⟩
  have K : Ev (d + 9) ML_pairs 32 [(0, .ref 2), (1, .ref 31), (6, .int (-1000003))] [] n h (.inl (some (.int (nI 1))), n, va_up h1 31 (aI 4 (va_up (va_up G 0 0) 1 0)), 0, 0) := by
    refine ev_iload dL_pairs_32 rfl ?_
    refine ev_ldc (v := -1000003) dL_pairs_34 (am_in 515 (by decide +kernel) rfl) ?_
    refine ev_icmp_neF dL_pairs_36 64 (by decide) rfl ?_
    first | refine ev_aload_n dL_pairs_39 rfl ?_ | refine ev_aload_nN dL_pairs_39 rfl ?_
    refine ev_V0 dL_pairs_40 st_RL_101 na_X9_wipe (Nat.le_of_ble_eq_true rfl) (Nat.le_of_ble_eq_true rfl) (by repeat (first | assumption | exact up_s | refine (up_n (by omega)).trans ?_)) rfl (e2) ?_
    first | refine ev_aload_n dL_pairs_43 rfl ?_ | refine ev_aload_nN dL_pairs_43 rfl ?_
    refine ev_iconst dL_pairs_44 ci0 ?_
    refine ev_iald dL_pairs_45 (by repeat (first | assumption | exact up_s | refine (up_n (by omega)).trans ?_)) _ rfl (by omega) (by omega) ?_
    first | refine ev_aload_n dL_pairs_46 rfl ?_ | refine ev_aload_nN dL_pairs_46 rfl ?_
    refine ev_iconst dL_pairs_47 ci1 ?_
    refine ev_iald dL_pairs_48 (by repeat (first | assumption | exact up_s | refine (up_n (by omega)).trans ?_)) _ rfl (by omega) (by omega) ?_
    first | refine ev_iaddN dL_pairs_49 ?_ | refine ev_iadd dL_pairs_49 ?_
    refine ev_icmp_neF dL_pairs_50 64 (by decide) (by first | assumption | exact n_eq (by omega) | decide) ?_
    first | refine ev_aload_n dL_pairs_53 rfl ?_ | refine ev_aload_nN dL_pairs_53 rfl ?_
    refine ev_S1 dL_pairs_54 st_RL_104 na_L_empties (Nat.le_of_ble_eq_true rfl) (Nat.le_of_ble_eq_true rfl) (l_empties v1') ?_
    refine ev_if_eqF dL_pairs_57 64 (by decide) (by first | assumption | exact nI_ne0 (by omega) (by omega) | decide) ?_
    refine ev_iconst dL_pairs_60 ci1 ?_
    refine ev_goto (tgt := 65) dL_pairs_61 (by decide) ?_
    exact ev_zreturnE dL_pairs_65 rfl (by first | exact Or.inl rfl | exact Or.inr rfl | assumption | exact z01 (bI_01 _) | exact z01 (by omega)) (by rfl)
  by_cases q0 : G 0 = 0
  · first | refine ev_aload_n dL_pairs_0 rfl ?_ | refine ev_aload_nN dL_pairs_0 rfl ?_
    refine ev_V0 dL_pairs_1 st_RL_95 na_X9_pairs (Nat.le_of_ble_eq_true rfl) (Nat.le_of_ble_eq_true rfl) (by repeat (first | assumption | exact up_s | refine (up_n (by omega)).trans ?_)) rfl (m9_pairs g) ?_
    refine ev_istore dL_pairs_4 (Nat.le_of_ble_eq_true rfl) ?_
    first | refine ev_aload_n dL_pairs_6 rfl ?_ | refine ev_aload_nN dL_pairs_6 rfl ?_
    refine ev_callT (as := [_]) dL_pairs_7 st_RL_98 na_L_pair (Nat.le_of_ble_eq_true rfl) (Nat.le_of_ble_eq_true rfl) rfl rfl (e1) ?_
    refine ev_istore dL_pairs_10 (Nat.le_of_ble_eq_true rfl) ?_
    first | refine ev_aload_n dL_pairs_12 rfl ?_ | refine ev_aload_nN dL_pairs_12 rfl ?_
    refine ev_iconst dL_pairs_13 ci0 ?_
    refine ev_iald dL_pairs_14 (by repeat (first | assumption | exact up_s | refine (up_n (by omega)).trans ?_)) _ rfl (by omega) (by omega) ?_
    refine ev_if_eqT (tgt := 32) dL_pairs_15 (by decide) (by first | assumption | exact z_eq (by omega) | decide) ?_
    refine ev_sub ?_ (K)
    repeat (first | exact trivial | refine ⟨rfl, ?_⟩)
  · by_cases q1 : G 1 = 0
    · first | refine ev_aload_n dL_pairs_0 rfl ?_ | refine ev_aload_nN dL_pairs_0 rfl ?_
      refine ev_V0 dL_pairs_1 st_RL_95 na_X9_pairs (Nat.le_of_ble_eq_true rfl) (Nat.le_of_ble_eq_true rfl) (by repeat (first | assumption | exact up_s | refine (up_n (by omega)).trans ?_)) rfl (m9_pairs g) ?_
      refine ev_istore dL_pairs_4 (Nat.le_of_ble_eq_true rfl) ?_
      first | refine ev_aload_n dL_pairs_6 rfl ?_ | refine ev_aload_nN dL_pairs_6 rfl ?_
      refine ev_callT (as := [_]) dL_pairs_7 st_RL_98 na_L_pair (Nat.le_of_ble_eq_true rfl) (Nat.le_of_ble_eq_true rfl) rfl rfl (e1) ?_
      refine ev_istore dL_pairs_10 (Nat.le_of_ble_eq_true rfl) ?_
      first | refine ev_aload_n dL_pairs_12 rfl ?_ | refine ev_aload_nN dL_pairs_12 rfl ?_
      refine ev_iconst dL_pairs_13 ci0 ?_
      refine ev_iald dL_pairs_14 (by repeat (first | assumption | exact up_s | refine (up_n (by omega)).trans ?_)) _ rfl (by omega) (by omega) ?_
      refine ev_if_eqF dL_pairs_15 32 (by decide) (by first | assumption | exact nI_ne0 (by omega) (by omega) | decide) ?_
      first | refine ev_aload_n dL_pairs_18 rfl ?_ | refine ev_aload_nN dL_pairs_18 rfl ?_
      refine ev_iconst dL_pairs_19 ci1 ?_
      refine ev_iald dL_pairs_20 (by repeat (first | assumption | exact up_s | refine (up_n (by omega)).trans ?_)) _ rfl (by omega) (by omega) ?_
      refine ev_if_eqT (tgt := 32) dL_pairs_21 (by decide) (by first | assumption | exact z_eq (by omega) | decide) ?_
      refine ev_sub ?_ (K)
      repeat (first | exact trivial | refine ⟨rfl, ?_⟩)
    · have q2 : G 2 = 20 := by omega
      first | refine ev_aload_n dL_pairs_0 rfl ?_ | refine ev_aload_nN dL_pairs_0 rfl ?_
      refine ev_V0 dL_pairs_1 st_RL_95 na_X9_pairs (Nat.le_of_ble_eq_true rfl) (Nat.le_of_ble_eq_true rfl) (by repeat (first | assumption | exact up_s | refine (up_n (by omega)).trans ?_)) rfl (m9_pairs g) ?_
      refine ev_istore dL_pairs_4 (Nat.le_of_ble_eq_true rfl) ?_
      first | refine ev_aload_n dL_pairs_6 rfl ?_ | refine ev_aload_nN dL_pairs_6 rfl ?_
      refine ev_callT (as := [_]) dL_pairs_7 st_RL_98 na_L_pair (Nat.le_of_ble_eq_true rfl) (Nat.le_of_ble_eq_true rfl) rfl rfl (e1) ?_
      refine ev_istore dL_pairs_10 (Nat.le_of_ble_eq_true rfl) ?_
      first | refine ev_aload_n dL_pairs_12 rfl ?_ | refine ev_aload_nN dL_pairs_12 rfl ?_
      refine ev_iconst dL_pairs_13 ci0 ?_
      refine ev_iald dL_pairs_14 (by repeat (first | assumption | exact up_s | refine (up_n (by omega)).trans ?_)) _ rfl (by omega) (by omega) ?_
      refine ev_if_eqF dL_pairs_15 32 (by decide) (by first | assumption | exact nI_ne0 (by omega) (by omega) | decide) ?_
      first | refine ev_aload_n dL_pairs_18 rfl ?_ | refine ev_aload_nN dL_pairs_18 rfl ?_
      refine ev_iconst dL_pairs_19 ci1 ?_
      refine ev_iald dL_pairs_20 (by repeat (first | assumption | exact up_s | refine (up_n (by omega)).trans ?_)) _ rfl (by omega) (by omega) ?_
      refine ev_if_eqF dL_pairs_21 32 (by decide) (by first | assumption | exact nI_ne0 (by omega) (by omega) | decide) ?_
      first | refine ev_aload_n dL_pairs_24 rfl ?_ | refine ev_aload_nN dL_pairs_24 rfl ?_
      refine ev_iconst dL_pairs_25 ci2 ?_
      refine ev_iald dL_pairs_26 (by repeat (first | assumption | exact up_s | refine (up_n (by omega)).trans ?_)) _ rfl (by omega) (by omega) ?_
      refine ev_bipush dL_pairs_27 bp20 ?_
      refine ev_icmp_neF dL_pairs_29 66 (by decide) (by first | assumption | exact n_eq (by omega) | decide) ?_
      refine ev_sub ?_ (K)
      repeat (first | exact trivial | refine ⟨rfl, ?_⟩)
theorem LR_pair {made : Nat} {t : Nat → Nat} {l : Nat → Nat → Nat} {W G Z Lc Wc : Nat → Nat} (r : LR made gc t l W G Z Lc Wc) (h0 : 0 < l 0 made) (h1 : 0 < l 1 made) : LR (made + 1) gc (va_up t made 1) (lW (lN1 l made) (made + 1)) W (va_up (va_up (va_up G 2 (G 2 + 1)) 0 0) 1 0) Z (va_up (va_up Lc (2 * made) (G 0)) (2 * made + 1) (G 1)) Wc := by
  obtain ⟨⟨r1, r2, r3, r4⟩, r5, r6, r7, r8⟩ := r
  refine ⟨⟨?_, ?_, ?_, ?_⟩, fun i hi => ?_, fun i hi => r6 i (by omega), fun i hi => ?_, r8⟩
  · rw [up_nN (by omega), up_sN]; exact (if_pos rfl).symm
  · rw [up_sN]; exact (if_pos rfl).symm
  · rw [up_nN (by omega), up_nN (by omega), up_sN, r3]
  · rw [up_nN (by omega), up_nN (by omega), up_nN (by omega), r4]
  · by_cases q : i = made
    · subst q
      rw [up_sN, r6 i (Nat.le_refl _)]
    · rw [up_nN q]
      exact r5 i (by omega)
  · have e : ∀ D', lW (lN1 l made) (made + 1) D' i = l D' i := fun D' => (if_neg (by omega)).trans (if_neg (by omega))
    rw [e, e]
    by_cases q : i = made
    · subst q
      rw [up_nN (by omega), up_sN, up_sN]
      exact ⟨r1, r2, h0, h1⟩
    · rw [up_nN (by omega), up_nN (by omega), up_nN (by omega), up_nN (by omega)]
      exact r7 i (by omega)
theorem l_pairsT {made : Nat} {t : Nat → Nat} {l : Nat → Nat → Nat} {w : Nat → Nat → Nat → Nat} {S : Nat → Nat → Nat} {W G Z Lc Wc : Nat → Nat} (y : Int32) (hn : n = 35 + 5 * made) (g : GS h made t l w S W) (v : LW h G Z Lc Wc) (rs : RS S) (z : H01 L xs h) (r : LR made gc t l W G Z Lc Wc) (h0 : 0 < l 0 made) (h1 : 0 < l 1 made) (hm20 : made < 20) :
    ∃ n' h' c e, Ev (d + 9) ML_pairs 0 (lv_args 0 [.ref 2, .ref 31, .ref 32, .ref 33, .int y]) [] n h (.inl (some (.int (nI 1))), n', h', c, e) ∧ LI L xs n' h' gc ∧ c ≤ 5 ∧ e ≤ 23 := by
  subst hn
  obtain ⟨h1', e1, g', f1⟩ := m9_pairNew (d := d + 4) g h0 h1 hm20
  have e1 := hl_pairR g.1 e1
  have v' := LW_Fr f1 v
  have gB := GS_upL (GS_upL (GS_upL (GS_upL g' (k := 33) (e := aI 40 (va_up Lc (2 * made) (G 0))) (by omega) (by omega)) (k := 33) (e := aI 40 (va_up (va_up Lc (2 * made) (G 0)) (2 * made + 1) (G 1))) (by omega) (by omega)) (k := 31) (e := aI 4 (va_up G 2 (G 2 + 1))) (by omega) (by omega)) (k := 31) (e := aI 4 (va_up (va_up (va_up G 2 (G 2 + 1)) 0 0) 1 0)) (by omega) (by omega)
  obtain ⟨h2, e2, g2, f2⟩ := m9_wipe (d := d + 5) (n := 35 + 5 * made + 5) gB
  have v1 := v.1
  have v1' := v'.1
  have v3' := v'.2.2.1
  have g1 := g.1
  have g1' := g'.1
  have gB1 := gB.1
  have b0 := (Pr_side g.2.2.2.1 (show 0 ≤ 1 by omega)).2.2.1
  have b1 := (Pr_side g.2.2.2.1 (show 1 ≤ 1 by omega)).2.2.1
  have G0 := r.1.1
  have G1 := r.1.2.1
  have G2 := r.1.2.2.1
  have hsm : sumN t made ≤ made := g.2.1.2.2.2.1
  have es : sumN (va_up t made 1) (made + 1) = sumN t made + 1 := by
    show sumN (va_up t made 1) made + va_up t made 1 made = _
    rw [show va_up t made 1 made = 1 from if_pos rfl, sumN_congr (f := va_up t made 1) (g := t) (fun j hj => if_neg (by omega))]
  have el : ∀ D, lN1 l made D made = l D made := fun D => if_neg (by omega)
  have ez : ∀ D, lN1 l made D (made + 1) = 0 := fun D => if_pos rfl
  have s1 := hl_wordR (n := 35 + 5 * made + 5) (d := d + 7) g1' (m9_wordT (d := d + 4) g' (D := 0) (j := G 0) (show made < made + 1 by omega) up_sN (by omega) (by omega))
  have s2 := hl_wordR (n := 35 + 5 * made + 5) (d := d + 7) g1' (m9_wordT (d := d + 4) g' (D := 1) (j := G 1 - 1) (show made < made + 1 by omega) up_sN (by omega) (by omega))
  rw [if_neg (by rw [el]; omega)] at s1
  rw [if_pos (by rw [el]; omega)] at s2
  have hb := (GS_Pr g' (show made < made + 1 by omega)).2.2.2.2.2 (G 1 - 1) (by rw [el]; omega)
  rw [ez, ez] at e2
  refine ⟨35 + 5 * made + 5, h2, 5 + 0, 23 + 0, ?_, ⟨made + 1, _, _, _, S, W, _, Z, _, Wc, by omega, g2, LW_Fr f2 (LW_31 _ (LW_31 _ (LW_33 _ (LW_33 _ v')))), rs, H01_Fr f2 (H01_up (by omega) (H01_up (by omega) (H01_up (by omega) (H01_up (by omega) (H01_Fr f1 z))))), LR_pair r h0 h1⟩, by omega, by omega⟩
  first | refine ev_aload_n dL_pairs_0 rfl ?_ | refine ev_aload_nN dL_pairs_0 rfl ?_
  refine ev_V0 dL_pairs_1 st_RL_95 na_X9_pairs (Nat.le_of_ble_eq_true rfl) (Nat.le_of_ble_eq_true rfl) (by repeat (first | assumption | exact up_s | refine (up_n (by omega)).trans ?_)) rfl (m9_pairs g) ?_
  refine ev_istore dL_pairs_4 (Nat.le_of_ble_eq_true rfl) ?_
  first | refine ev_aload_n dL_pairs_6 rfl ?_ | refine ev_aload_nN dL_pairs_6 rfl ?_
  refine ev_callT (as := [_]) dL_pairs_7 st_RL_98 na_L_pair (Nat.le_of_ble_eq_true rfl) (Nat.le_of_ble_eq_true rfl) rfl rfl (e1) ?_
  refine ev_istore dL_pairs_10 (Nat.le_of_ble_eq_true rfl) ?_
  first | refine ev_aload_n dL_pairs_12 rfl ?_ | refine ev_aload_nN dL_pairs_12 rfl ?_
  refine ev_iconst dL_pairs_13 ci0 ?_
  refine ev_iald dL_pairs_14 (by repeat (first | assumption | exact up_s | refine (up_n (by omega)).trans ?_)) _ rfl (by omega) (by omega) ?_
  refine ev_if_eqF dL_pairs_15 32 (by decide) (by first | assumption | exact nI_ne0 (by omega) (by omega) | decide) ?_
  first | refine ev_aload_n dL_pairs_18 rfl ?_ | refine ev_aload_nN dL_pairs_18 rfl ?_
  refine ev_iconst dL_pairs_19 ci1 ?_
  refine ev_iald dL_pairs_20 (by repeat (first | assumption | exact up_s | refine (up_n (by omega)).trans ?_)) _ rfl (by omega) (by omega) ?_
  refine ev_if_eqF dL_pairs_21 32 (by decide) (by first | assumption | exact nI_ne0 (by omega) (by omega) | decide) ?_
  first | refine ev_aload_n dL_pairs_24 rfl ?_ | refine ev_aload_nN dL_pairs_24 rfl ?_
  refine ev_iconst dL_pairs_25 ci2 ?_
  refine ev_iald dL_pairs_26 (by repeat (first | assumption | exact up_s | refine (up_n (by omega)).trans ?_)) _ rfl (by omega) (by omega) ?_
  refine ev_bipush dL_pairs_27 bp20 ?_
  refine ev_icmp_neT (tgt := 66) dL_pairs_29 (by decide) (by first | assumption | exact n_ne (by omega) (by omega) (by omega) | decide) ?_
  refine ev_iload dL_pairs_66 rfl ?_
  first | refine ev_aload_n dL_pairs_68 rfl ?_ | refine ev_aload_nN dL_pairs_68 rfl ?_
  refine ev_iconst dL_pairs_69 ci2 ?_
  refine ev_iald dL_pairs_70 (by repeat (first | assumption | exact up_s | refine (up_n (by omega)).trans ?_)) _ rfl (by omega) (by omega) ?_
  refine ev_icmp_neF dL_pairs_71 118 (by decide) (by first | assumption | exact n_eq (by omega) | decide) ?_
  first | refine ev_aload_n dL_pairs_74 rfl ?_ | refine ev_aload_nN dL_pairs_74 rfl ?_
  refine ev_V0 dL_pairs_75 st_RL_95 na_X9_pairs (Nat.le_of_ble_eq_true rfl) (Nat.le_of_ble_eq_true rfl) (by repeat (first | assumption | exact up_s | refine (up_n (by omega)).trans ?_)) rfl (m9_pairs g') ?_
  refine ev_iload dL_pairs_78 rfl ?_
  refine ev_iconst dL_pairs_80 ci1 ?_
  first | refine ev_iaddN dL_pairs_81 ?_ | refine ev_iadd dL_pairs_81 ?_
  refine ev_icmp_neF dL_pairs_82 118 (by decide) (by first | assumption | exact n_eq (by omega) | decide) ?_
  first | refine ev_aload_n dL_pairs_85 rfl ?_ | refine ev_aload_nN dL_pairs_85 rfl ?_
  refine ev_iload dL_pairs_86 rfl ?_
  refine ev_iconst dL_pairs_88 ci0 ?_
  first | refine ev_aload_n dL_pairs_89 rfl ?_ | refine ev_aload_nN dL_pairs_89 rfl ?_
  refine ev_iconst dL_pairs_90 ci0 ?_
  refine ev_iald dL_pairs_91 (by repeat (first | assumption | exact up_s | refine (up_n (by omega)).trans ?_)) _ rfl (by omega) (by omega) ?_
  refine ev_callT (as := [_, _, _, _]) dL_pairs_92 st_RL_85 na_L_word (Nat.le_of_ble_eq_true rfl) (Nat.le_of_ble_eq_true rfl) (Nat.zero_add _) (Nat.zero_add _) (s1) ?_
  refine ev_iconst dL_pairs_95 cm1 ?_
  refine ev_icmp_neF dL_pairs_96 118 (by decide) rfl ?_
  first | refine ev_aload_n dL_pairs_99 rfl ?_ | refine ev_aload_nN dL_pairs_99 rfl ?_
  refine ev_iload dL_pairs_100 rfl ?_
  refine ev_iconst dL_pairs_102 ci1 ?_
  first | refine ev_aload_n dL_pairs_103 rfl ?_ | refine ev_aload_nN dL_pairs_103 rfl ?_
  refine ev_iconst dL_pairs_104 ci1 ?_
  refine ev_iald dL_pairs_105 (by repeat (first | assumption | exact up_s | refine (up_n (by omega)).trans ?_)) _ rfl (by omega) (by omega) ?_
  refine ev_iconst dL_pairs_106 ci1 ?_
  first | refine ev_isubN dL_pairs_107 (by omega) ?_ | refine ev_isub dL_pairs_107 ?_
  refine ev_callT (as := [_, _, _, _]) dL_pairs_108 st_RL_85 na_L_word (Nat.le_of_ble_eq_true rfl) (Nat.le_of_ble_eq_true rfl) (Nat.zero_add _) (Nat.zero_add _) (s2) ?_
  refine ev_if_ltF dL_pairs_111 118 (by decide) (by first | assumption | exact nI_pos (by omega) | decide) ?_
  refine ev_iconst dL_pairs_114 ci1 ?_
  refine ev_goto (tgt := 119) dL_pairs_115 (by decide) ?_
  refine ev_istore dL_pairs_119 (Nat.le_of_ble_eq_true rfl) ?_
  first | refine ev_aload_n dL_pairs_121 rfl ?_ | refine ev_aload_nN dL_pairs_121 rfl ?_
  refine ev_iconst dL_pairs_122 ci2 ?_
  refine ev_iload dL_pairs_123 rfl ?_
  first | refine ev_imulN dL_pairs_125 ?_ | refine ev_imul dL_pairs_125 ?_
  first | refine ev_aload_n dL_pairs_126 rfl ?_ | refine ev_aload_nN dL_pairs_126 rfl ?_
  refine ev_iconst dL_pairs_127 ci0 ?_
  refine ev_iald dL_pairs_128 (by repeat (first | assumption | exact up_s | refine (up_n (by omega)).trans ?_)) _ rfl (by omega) (by omega) ?_
  refine ev_iast dL_pairs_129 (by omega) (by repeat (first | assumption | exact up_s | refine (up_n (by omega)).trans ?_)) _ _ rfl rfl (by omega) (by omega) ?_
  first | refine ev_aload_n dL_pairs_130 rfl ?_ | refine ev_aload_nN dL_pairs_130 rfl ?_
  refine ev_iconst dL_pairs_131 ci2 ?_
  refine ev_iload dL_pairs_132 rfl ?_
  first | refine ev_imulN dL_pairs_134 ?_ | refine ev_imul dL_pairs_134 ?_
  refine ev_iconst dL_pairs_135 ci1 ?_
  first | refine ev_iaddN dL_pairs_136 ?_ | refine ev_iadd dL_pairs_136 ?_
  first | refine ev_aload_n dL_pairs_137 rfl ?_ | refine ev_aload_nN dL_pairs_137 rfl ?_
  refine ev_iconst dL_pairs_138 ci1 ?_
  refine ev_iald dL_pairs_139 (by repeat (first | assumption | exact up_s | refine (up_n (by omega)).trans ?_)) _ rfl (by omega) (by omega) ?_
  refine ev_iast dL_pairs_140 (by omega) (by repeat (first | assumption | exact up_s | refine (up_n (by omega)).trans ?_)) _ _ rfl rfl (by omega) (by omega) ?_
  first | refine ev_aload_n dL_pairs_141 rfl ?_ | refine ev_aload_nN dL_pairs_141 rfl ?_
  refine ev_iconst dL_pairs_142 ci2 ?_
  refine ev_dup2_11 dL_pairs_143 rfl rfl ?_
  refine ev_iald dL_pairs_144 (by repeat (first | assumption | exact up_s | refine (up_n (by omega)).trans ?_)) _ rfl (by omega) (by omega) ?_
  refine ev_iconst dL_pairs_145 ci1 ?_
  first | refine ev_iaddN dL_pairs_146 ?_ | refine ev_iadd dL_pairs_146 ?_
  refine ev_iast dL_pairs_147 (by omega) (by repeat (first | assumption | exact up_s | refine (up_n (by omega)).trans ?_)) _ _ rfl rfl (by omega) (by omega) ?_
  refine ev_iload dL_pairs_148 rfl ?_
  refine ev_if_eqF dL_pairs_150 171 (by decide) (by first | assumption | exact nI_ne0 (by omega) (by omega) | decide) ?_
  first | refine ev_aload_n dL_pairs_153 rfl ?_ | refine ev_aload_nN dL_pairs_153 rfl ?_
  refine ev_S1 dL_pairs_154 st_RL_104 na_L_empties (Nat.le_of_ble_eq_true rfl) (Nat.le_of_ble_eq_true rfl) (l_empties up_s) ?_
  refine ev_if_eqF dL_pairs_157 171 (by decide) (by first | assumption | exact nI_ne0 (by omega) (by omega) | decide) ?_
  first | refine ev_aload_n dL_pairs_160 rfl ?_ | refine ev_aload_nN dL_pairs_160 rfl ?_
  refine ev_V0 dL_pairs_161 st_RL_101 na_X9_wipe (Nat.le_of_ble_eq_true rfl) (Nat.le_of_ble_eq_true rfl) (by repeat (first | assumption | exact up_s | refine (up_n (by omega)).trans ?_)) rfl (e2) ?_
  refine ev_if_neF dL_pairs_164 171 (by decide) (by first | assumption | exact z_eq (by omega) | decide) ?_
  refine ev_iconst dL_pairs_167 ci1 ?_
  refine ev_goto (tgt := 172) dL_pairs_168 (by decide) ?_
  exact ev_zreturnE dL_pairs_172 rfl (by first | exact Or.inl rfl | exact Or.inr rfl | assumption | exact z01 (bI_01 _) | exact z01 (by omega)) (by rfl)
theorem l_pairs (y : Int32) (I : LI L xs n h gc) : ∃ n' h' c e, Ev (d + 9) ML_pairs 0 (lv_args 0 [.ref 2, .ref 31, .ref 32, .ref 33, .int y]) [] n h (.inl (some (.int (nI 1))), n', h', c, e) ∧ LI L xs n' h' gc ∧ c ≤ 5 ∧ e ≤ 23 := by
  obtain ⟨made, t, l, w, S, W, G, Z, Lc, Wc, hn, g, v, rs, z, r⟩ := I
  by_cases q : l 0 made = 0 ∨ l 1 made = 0 ∨ 20 ≤ made
  · exact l_pairsF y hn g v rs z r q
  · exact l_pairsT y hn g v rs z r (by omega) (by omega) (by omega)
end LPU
