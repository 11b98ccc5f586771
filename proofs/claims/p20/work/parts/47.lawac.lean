/-! the law: an act -/
theorem lg_cmp_s (x : Int64) : lg_cmp x x = 0 := by
  unfold lg_cmp
  rw [if_neg (Int64.lt_irrefl), if_pos rfl]
theorem lg_cmp_0 {a : Nat} (h : a < 2 ^ 63) : ¬ lg_cmp (lN a) (lN 0) < 0 := by
  rw [lg_cmpN h (by omega)]
  unfold cmpN
  split
  · decide
  · split
    · decide
    · omega
theorem prD_le {q : Nat → Nat → Nat} {N B : Nat} (hq : ∀ j, sumN (q j) N ≤ B) : ∀ k, prD q N k ≤ B ^ k
  | 0 => Nat.le_refl _
  | k + 1 => by
    show prD q N k * sumN (q k) N ≤ B ^ (k + 1)
    rw [Nat.pow_succ]
    exact Nat.mul_le_mul (prD_le hq k) (hq k)
theorem bp11 : (Int8.ofInt 11).toInt32 = nI 11 := by decide +kernel
theorem bp12 : (Int8.ofInt 12).toInt32 = nI 12 := by decide +kernel
section LAC
variable {d n L gc : Nat} {xs : Nat → Int32} {h : Hp} {x y : Int32} {k i : Nat} {made : Nat} {t : Nat → Nat} {l : Nat → Nat → Nat} {w : Nat → Nat → Nat → Nat} {S : Nat → Nat → Nat} {W G Z Lc Wc : Nat → Nat}
theorem toN_lt (g : GS h made t l w S W) (hi : i < made) (hl : l 1 i ≤ 4) : toN S l w i < 2 ^ 63 := by
  have sb := (Kn_lx g.2.2.1 (show 0 ≤ 1 by omega)).2.2
  have h0 := (GS_Pr g hi).2.1.2.2.1
  have hq : ∀ j, sumN (ptF (S 0) (w 0 i) (w 1 i) j) (l 0 i + 1) ≤ 9000 := fun j => by
    have h2 := sumN_bd (f := ptF (S 0) (w 0 i) (w 1 i) j) (n := l 0 i + 1) (b := 1000) (fun k _ => by
      unfold ptF
      have := sb (15 * (if k = 0 then 15 else w 0 i (k - 1)) + w 1 i j)
      omega)
    omega
  have h1 := prD_le hq (l 1 i)
  have h2 : 9000 ^ l 1 i ≤ 9000 ^ 4 := Nat.pow_le_pow_right (by omega) hl
  have h3 : (9000 : Nat) ^ 4 < 2 ^ 63 := by decide
  exact Nat.lt_of_le_of_lt (Nat.le_trans h1 h2) h3
theorem nit (g : GS h made t l w S W) (hi : i < made) (ht : t i = 0) : ¬ itIs (nI i) made t := fun ⟨i', h1, h2, e⟩ => by
  have hm := g.2.1.2.2.1
  have := (nI_eq (by omega) (by omega)).mp e
  subst this
  omega
theorem ac_A (I : LI L xs n h gc) (hk : k < 4) : ∃ n' h' c e gc', Ev (d + 10) ML_acts 9 [(0, .ref 2), (1, .ref 31), (2, .ref 32), (3, .ref 33), (4, .ref 34), (5, .int x), (6, .int y), (7, .int (nI k))] [] n h (.inl (some (.int (nI 1))), n', h', c, e) ∧ LI L xs n' h' gc' ∧ gc' ≤ gc + 1 ∧ c ≤ 10 ∧ e ≤ 90 := by
  obtain ⟨h1, c1, e1, ev1, I1, b1, b2⟩ := l_puts (d := d) (x >>> (nI 4 &&& 31)) y I
  obtain ⟨j, hj, ej⟩ := l_low (y >>> (nI 16 &&& 31)) (N := 3) (by omega) (by omega)
  by_cases q : j = 0
  · obtain ⟨n2, h2, c2, e2, ev2, I2, b3, b4⟩ := l_pairs (d := d) y I1
    refine ⟨n2, h2, c1 + (c2 + 0), e1 + (e2 + 0), gc, ?_, I2, by omega, by omega, by omega⟩
    refine ev_iload dL_acts_9 rfl ?_
    refine ev_iconst dL_acts_11 ci4 ?_
    refine ev_icmp_geF dL_acts_12 59 (by decide) (by first | assumption | exact nI_ge (by omega) (by omega) | decide) ?_
    first | refine ev_aload_n dL_acts_15 rfl ?_ | refine ev_aload_nN dL_acts_15 rfl ?_
    first | refine ev_aload_n dL_acts_16 rfl ?_ | refine ev_aload_nN dL_acts_16 rfl ?_
    refine ev_iload dL_acts_17 rfl ?_
    refine ev_iconst dL_acts_19 ci4 ?_
    refine ev_ishr dL_acts_20 ?_
    refine ev_iload dL_acts_21 rfl ?_
    refine ev_S4K dL_acts_23 st_RL_108 na_L_puts (Nat.le_of_ble_eq_true rfl) (Nat.le_of_ble_eq_true rfl) rfl rfl (ev1) ?_
    refine ev_if_eqF dL_acts_26 57 (by decide) (by first | assumption | exact nI_ne0 (by omega) (by omega) | decide) ?_
    refine ev_iload dL_acts_29 rfl ?_
    refine ev_bipush dL_acts_31 bp16 ?_
    refine ev_ishr dL_acts_33 ?_
    refine ev_iconst dL_acts_34 ci3 ?_
    refine ev_S2 dL_acts_35 st_RL_90 na_L_low (Nat.le_of_ble_eq_true rfl) (Nat.le_of_ble_eq_true rfl) (ej _ _ _) ?_
    refine ev_if_gtF dL_acts_38 53 (by decide) (by first | assumption | exact z_ngt (by omega) | decide) ?_
    first | refine ev_aload_n dL_acts_41 rfl ?_ | refine ev_aload_nN dL_acts_41 rfl ?_
    first | refine ev_aload_n dL_acts_42 rfl ?_ | refine ev_aload_nN dL_acts_42 rfl ?_
    first | refine ev_aload_n dL_acts_43 rfl ?_ | refine ev_aload_nN dL_acts_43 rfl ?_
    first | refine ev_aload_n dL_acts_44 rfl ?_ | refine ev_aload_nN dL_acts_44 rfl ?_
    refine ev_iload dL_acts_45 rfl ?_
    refine ev_S5K dL_acts_47 st_RL_112 na_L_pairs (Nat.le_of_ble_eq_true rfl) (Nat.le_of_ble_eq_true rfl) rfl rfl (ev2) ?_
    refine ev_if_eqF dL_acts_50 57 (by decide) (by first | assumption | exact nI_ne0 (by omega) (by omega) | decide) ?_
    refine ev_iconst dL_acts_53 ci1 ?_
    refine ev_goto (tgt := 58) dL_acts_54 (by decide) ?_
    exact ev_zreturnE dL_acts_58 rfl (by first | exact Or.inl rfl | exact Or.inr rfl | assumption | exact z01 (bI_01 _) | exact z01 (by omega)) (by rfl)
  · refine ⟨n, h1, c1 + 0, e1 + 0, gc, ?_, I1, by omega, by omega, by omega⟩
    refine ev_iload dL_acts_9 rfl ?_
    refine ev_iconst dL_acts_11 ci4 ?_
    refine ev_icmp_geF dL_acts_12 59 (by decide) (by first | assumption | exact nI_ge (by omega) (by omega) | decide) ?_
    first | refine ev_aload_n dL_acts_15 rfl ?_ | refine ev_aload_nN dL_acts_15 rfl ?_
    first | refine ev_aload_n dL_acts_16 rfl ?_ | refine ev_aload_nN dL_acts_16 rfl ?_
    refine ev_iload dL_acts_17 rfl ?_
    refine ev_iconst dL_acts_19 ci4 ?_
    refine ev_ishr dL_acts_20 ?_
    refine ev_iload dL_acts_21 rfl ?_
    refine ev_S4K dL_acts_23 st_RL_108 na_L_puts (Nat.le_of_ble_eq_true rfl) (Nat.le_of_ble_eq_true rfl) rfl rfl (ev1) ?_
    refine ev_if_eqF dL_acts_26 57 (by decide) (by first | assumption | exact nI_ne0 (by omega) (by omega) | decide) ?_
    refine ev_iload dL_acts_29 rfl ?_
    refine ev_bipush dL_acts_31 bp16 ?_
    refine ev_ishr dL_acts_33 ?_
    refine ev_iconst dL_acts_34 ci3 ?_
    refine ev_S2 dL_acts_35 st_RL_90 na_L_low (Nat.le_of_ble_eq_true rfl) (Nat.le_of_ble_eq_true rfl) (ej _ _ _) ?_
    refine ev_if_gtT (tgt := 53) dL_acts_38 (by decide) (by first | assumption | exact z_gt (by omega) (by omega) | decide) ?_
    refine ev_iconst dL_acts_53 ci1 ?_
    refine ev_goto (tgt := 58) dL_acts_54 (by decide) ?_
    exact ev_zreturnE dL_acts_58 rfl (by first | exact Or.inl rfl | exact Or.inr rfl | assumption | exact z01 (bI_01 _) | exact z01 (by omega)) (by rfl)
theorem ac_B (I : LI L xs n h gc) (hk : k = 4) : ∃ n' h' c e gc', Ev (d + 10) ML_acts 9 [(0, .ref 2), (1, .ref 31), (2, .ref 32), (3, .ref 33), (4, .ref 34), (5, .int x), (6, .int y), (7, .int (nI k))] [] n h (.inl (some (.int (nI 1))), n', h', c, e) ∧ LI L xs n' h' gc' ∧ gc' ≤ gc + 1 ∧ c ≤ 10 ∧ e ≤ 90 := by
  obtain ⟨made, t, l, w, S, W, G, Z, Lc, Wc, hn, g, v, rs, z, r⟩ := I
  obtain ⟨h1, e1, g', f1⟩ := m9_begin (d := d + 3) (n := n) g
  have g1 := g.1
  have g1' := g'.1
  have v' := LW_Fr f1 v
  have v1' := v'.1
  have G2 := r.1.2.2.1
  have hm20 := g.2.1.2.2.1
  have hsm : sumN t made ≤ made := g.2.1.2.2.2.1
  have rs' : RS (nwS (beC t l w made) S) := nwS_RS _ _
  have a0 := szN_le (nwS (beC t l w made) S 0) 240
  have a1 := szN_le (nwS (beC t l w made) S 1) 240
  have sh := l_areShares (d := d + 5) (n := n) g' rs'
  refine ⟨n, h1, 0, 0, gc, ?_, ⟨made, t, l, w, _, W, G, Z, Lc, Wc, hn, g', v', rs', H01_Fr f1 z, r⟩, by omega, by omega, by omega⟩
  subst hk
  rcases Nat.eq_zero_or_pos (sumN t made) with q | q
  · have q0 := be_0 (l := l) (w := w) (S := S) q
    by_cases q2 : made = 0
    · refine ev_iload dL_acts_9 rfl ?_
      refine ev_iconst dL_acts_11 ci4 ?_
      refine ev_icmp_geT (tgt := 59) dL_acts_12 (by decide) (by first | assumption | exact nI_le (by omega) (by omega) | decide) ?_
      refine ev_iload dL_acts_59 rfl ?_
      refine ev_iconst dL_acts_61 ci4 ?_
      refine ev_icmp_neF dL_acts_62 128 (by decide) (by first | assumption | exact n_eq (by omega) | decide) ?_
      first | refine ev_aload_n dL_acts_65 rfl ?_ | refine ev_aload_nN dL_acts_65 rfl ?_
      refine ev_V0 dL_acts_66 st_RL_115 na_X9_begin (Nat.le_of_ble_eq_true rfl) (Nat.le_of_ble_eq_true rfl) (by repeat (first | assumption | exact up_s | refine (up_n (by omega)).trans ?_)) rfl (e1) ?_
      refine ev_istore dL_acts_69 (Nat.le_of_ble_eq_true rfl) ?_
      refine ev_iload dL_acts_71 rfl ?_
      refine ev_if_ltF dL_acts_73 126 (by decide) (by first | assumption | exact nI_pos (by omega) | decide) ?_
      refine ev_iload dL_acts_76 rfl ?_
      refine ev_sipush dL_acts_78 sp480 ?_
      refine ev_icmp_gtF dL_acts_81 126 (by decide) (by first | assumption | exact nI_nlt (by omega) (by omega) | decide) ?_
      refine ev_iload dL_acts_84 rfl ?_
      refine ev_if_leT (tgt := 93) dL_acts_86 (by decide) (by first | assumption | exact z_le (by omega) | decide) ?_
      refine ev_iconst dL_acts_93 ci0 ?_
      first | refine ev_aload_n dL_acts_94 rfl ?_ | refine ev_aload_nN dL_acts_94 rfl ?_
      refine ev_V0 dL_acts_95 st_RL_95 na_X9_pairs (Nat.le_of_ble_eq_true rfl) (Nat.le_of_ble_eq_true rfl) (by repeat (first | assumption | exact up_s | refine (up_n (by omega)).trans ?_)) rfl (m9_pairs g') ?_
      refine ev_if_leT (tgt := 105) dL_acts_98 (by decide) (by first | assumption | exact z_le (by omega) | decide) ?_
      refine ev_iconst dL_acts_105 ci0 ?_
      refine ev_icmp_neF dL_acts_106 126 (by decide) (by first | assumption | exact n_eq (by omega) | decide) ?_
      first | refine ev_aload_n dL_acts_109 rfl ?_ | refine ev_aload_nN dL_acts_109 rfl ?_
      refine ev_iconst dL_acts_110 ci2 ?_
      refine ev_iald dL_acts_111 (by repeat (first | assumption | exact up_s | refine (up_n (by omega)).trans ?_)) _ rfl (by omega) (by omega) ?_
      refine ev_if_eqT (tgt := 122) dL_acts_112 (by decide) (by first | assumption | exact z_eq (by omega) | decide) ?_
      refine ev_iconst dL_acts_122 ci1 ?_
      refine ev_goto (tgt := 127) dL_acts_123 (by decide) ?_
      exact ev_zreturnE dL_acts_127 rfl (by first | exact Or.inl rfl | exact Or.inr rfl | assumption | exact z01 (bI_01 _) | exact z01 (by omega)) (by rfl)
    · refine ev_iload dL_acts_9 rfl ?_
      refine ev_iconst dL_acts_11 ci4 ?_
      refine ev_icmp_geT (tgt := 59) dL_acts_12 (by decide) (by first | assumption | exact nI_le (by omega) (by omega) | decide) ?_
      refine ev_iload dL_acts_59 rfl ?_
      refine ev_iconst dL_acts_61 ci4 ?_
      refine ev_icmp_neF dL_acts_62 128 (by decide) (by first | assumption | exact n_eq (by omega) | decide) ?_
      first | refine ev_aload_n dL_acts_65 rfl ?_ | refine ev_aload_nN dL_acts_65 rfl ?_
      refine ev_V0 dL_acts_66 st_RL_115 na_X9_begin (Nat.le_of_ble_eq_true rfl) (Nat.le_of_ble_eq_true rfl) (by repeat (first | assumption | exact up_s | refine (up_n (by omega)).trans ?_)) rfl (e1) ?_
      refine ev_istore dL_acts_69 (Nat.le_of_ble_eq_true rfl) ?_
      refine ev_iload dL_acts_71 rfl ?_
      refine ev_if_ltF dL_acts_73 126 (by decide) (by first | assumption | exact nI_pos (by omega) | decide) ?_
      refine ev_iload dL_acts_76 rfl ?_
      refine ev_sipush dL_acts_78 sp480 ?_
      refine ev_icmp_gtF dL_acts_81 126 (by decide) (by first | assumption | exact nI_nlt (by omega) (by omega) | decide) ?_
      refine ev_iload dL_acts_84 rfl ?_
      refine ev_if_leT (tgt := 93) dL_acts_86 (by decide) (by first | assumption | exact z_le (by omega) | decide) ?_
      refine ev_iconst dL_acts_93 ci0 ?_
      first | refine ev_aload_n dL_acts_94 rfl ?_ | refine ev_aload_nN dL_acts_94 rfl ?_
      refine ev_V0 dL_acts_95 st_RL_95 na_X9_pairs (Nat.le_of_ble_eq_true rfl) (Nat.le_of_ble_eq_true rfl) (by repeat (first | assumption | exact up_s | refine (up_n (by omega)).trans ?_)) rfl (m9_pairs g') ?_
      refine ev_if_leT (tgt := 105) dL_acts_98 (by decide) (by first | assumption | exact z_le (by omega) | decide) ?_
      refine ev_iconst dL_acts_105 ci0 ?_
      refine ev_icmp_neF dL_acts_106 126 (by decide) (by first | assumption | exact n_eq (by omega) | decide) ?_
      first | refine ev_aload_n dL_acts_109 rfl ?_ | refine ev_aload_nN dL_acts_109 rfl ?_
      refine ev_iconst dL_acts_110 ci2 ?_
      refine ev_iald dL_acts_111 (by repeat (first | assumption | exact up_s | refine (up_n (by omega)).trans ?_)) _ rfl (by omega) (by omega) ?_
      refine ev_if_eqF dL_acts_112 122 (by decide) (by first | assumption | exact nI_ne0 (by omega) (by omega) | decide) ?_
      first | refine ev_aload_n dL_acts_115 rfl ?_ | refine ev_aload_nN dL_acts_115 rfl ?_
      refine ev_S1 dL_acts_116 st_RL_118 na_L_areShares (Nat.le_of_ble_eq_true rfl) (Nat.le_of_ble_eq_true rfl) (sh) ?_
      refine ev_if_eqF dL_acts_119 126 (by decide) (by first | assumption | exact nI_ne0 (by omega) (by omega) | decide) ?_
      refine ev_iconst dL_acts_122 ci1 ?_
      refine ev_goto (tgt := 127) dL_acts_123 (by decide) ?_
      exact ev_zreturnE dL_acts_127 rfl (by first | exact Or.inl rfl | exact Or.inr rfl | assumption | exact z01 (bI_01 _) | exact z01 (by omega)) (by rfl)
  · have q0 := be_pos (l := l) (w := w) (S := S) q g.2.1.2.2.2.2.1 (fun i hi => (r.2.2.2.1 i hi).2.2.2) (fun i hi => (GS_Pr g hi).2.2.2.2.2 0 (r.2.2.2.1 i hi).2.2.2)
    refine ev_iload dL_acts_9 rfl ?_
    refine ev_iconst dL_acts_11 ci4 ?_
    refine ev_icmp_geT (tgt := 59) dL_acts_12 (by decide) (by first | assumption | exact nI_le (by omega) (by omega) | decide) ?_
    refine ev_iload dL_acts_59 rfl ?_
    refine ev_iconst dL_acts_61 ci4 ?_
    refine ev_icmp_neF dL_acts_62 128 (by decide) (by first | assumption | exact n_eq (by omega) | decide) ?_
    first | refine ev_aload_n dL_acts_65 rfl ?_ | refine ev_aload_nN dL_acts_65 rfl ?_
    refine ev_V0 dL_acts_66 st_RL_115 na_X9_begin (Nat.le_of_ble_eq_true rfl) (Nat.le_of_ble_eq_true rfl) (by repeat (first | assumption | exact up_s | refine (up_n (by omega)).trans ?_)) rfl (e1) ?_
    refine ev_istore dL_acts_69 (Nat.le_of_ble_eq_true rfl) ?_
    refine ev_iload dL_acts_71 rfl ?_
    refine ev_if_ltF dL_acts_73 126 (by decide) (by first | assumption | exact nI_pos (by omega) | decide) ?_
    refine ev_iload dL_acts_76 rfl ?_
    refine ev_sipush dL_acts_78 sp480 ?_
    refine ev_icmp_gtF dL_acts_81 126 (by decide) (by first | assumption | exact nI_nlt (by omega) (by omega) | decide) ?_
    refine ev_iload dL_acts_84 rfl ?_
    refine ev_if_leF dL_acts_86 93 (by decide) (by first | assumption | exact nI_nle (by omega) (by omega) | decide) ?_
    refine ev_iconst dL_acts_89 ci1 ?_
    refine ev_goto (tgt := 94) dL_acts_90 (by decide) ?_
    first | refine ev_aload_n dL_acts_94 rfl ?_ | refine ev_aload_nN dL_acts_94 rfl ?_
    refine ev_V0 dL_acts_95 st_RL_95 na_X9_pairs (Nat.le_of_ble_eq_true rfl) (Nat.le_of_ble_eq_true rfl) (by repeat (first | assumption | exact up_s | refine (up_n (by omega)).trans ?_)) rfl (m9_pairs g') ?_
    refine ev_if_leF dL_acts_98 105 (by decide) (by first | assumption | exact nI_nle (by omega) (by omega) | decide) ?_
    refine ev_iconst dL_acts_101 ci1 ?_
    refine ev_goto (tgt := 106) dL_acts_102 (by decide) ?_
    refine ev_icmp_neF dL_acts_106 126 (by decide) (by first | assumption | exact n_eq (by omega) | decide) ?_
    first | refine ev_aload_n dL_acts_109 rfl ?_ | refine ev_aload_nN dL_acts_109 rfl ?_
    refine ev_iconst dL_acts_110 ci2 ?_
    refine ev_iald dL_acts_111 (by repeat (first | assumption | exact up_s | refine (up_n (by omega)).trans ?_)) _ rfl (by omega) (by omega) ?_
    refine ev_if_eqF dL_acts_112 122 (by decide) (by first | assumption | exact nI_ne0 (by omega) (by omega) | decide) ?_
    first | refine ev_aload_n dL_acts_115 rfl ?_ | refine ev_aload_nN dL_acts_115 rfl ?_
    refine ev_S1 dL_acts_116 st_RL_118 na_L_areShares (Nat.le_of_ble_eq_true rfl) (Nat.le_of_ble_eq_true rfl) (sh) ?_
    refine ev_if_eqF dL_acts_119 126 (by decide) (by first | assumption | exact nI_ne0 (by omega) (by omega) | decide) ?_
    refine ev_iconst dL_acts_122 ci1 ?_
    refine ev_goto (tgt := 127) dL_acts_123 (by decide) ?_
    exact ev_zreturnE dL_acts_127 rfl (by first | exact Or.inl rfl | exact Or.inr rfl | assumption | exact z01 (bI_01 _) | exact z01 (by omega)) (by rfl)
theorem ac_C (I : LI L xs n h gc) (hk : k = 5 ∨ k = 6) : ∃ n' h' c e gc', Ev (d + 10) ML_acts 9 [(0, .ref 2), (1, .ref 31), (2, .ref 32), (3, .ref 33), (4, .ref 34), (5, .int x), (6, .int y), (7, .int (nI k))] [] n h (.inl (some (.int (nI 1))), n', h', c, e) ∧ LI L xs n' h' gc' ∧ gc' ≤ gc + 1 ∧ c ≤ 10 ∧ e ≤ 90 := by
  obtain ⟨made, t, l, w, S, W, G, Z, Lc, Wc, hn, g, v, rs, z, r⟩ := I
  obtain ⟨h1, e1, g', f1⟩ := m9_round (d := d + 3) (n := n) g
  have g1 := g.1
  have rs' : RS (nwS (roC t l w S made) S) := nwS_RS _ _
  have a0 := apN_le (roC t l w S made 0) 0 (S 0) 16
  have a1 := apN_le (roC t l w S made 1) 0 (S 1) 16
  have sh := l_areShares (d := d + 5) (n := n) g' rs'
  refine ⟨n, h1, 0, 0, gc, ?_, ⟨made, t, l, w, _, W, G, Z, Lc, Wc, hn, g', LW_Fr f1 v, rs', H01_Fr f1 z, r⟩, by omega, by omega, by omega⟩
  rcases hk with rfl | rfl
  · refine ev_iload dL_acts_9 rfl ?_
    refine ev_iconst dL_acts_11 ci4 ?_
    refine ev_icmp_geT (tgt := 59) dL_acts_12 (by decide) (by first | assumption | exact nI_le (by omega) (by omega) | decide) ?_
    refine ev_iload dL_acts_59 rfl ?_
    refine ev_iconst dL_acts_61 ci4 ?_
    refine ev_icmp_neT (tgt := 128) dL_acts_62 (by decide) (by first | assumption | exact n_ne (by omega) (by omega) (by omega) | decide) ?_
    refine ev_iload dL_acts_128 rfl ?_
    refine ev_bipush dL_acts_130 bp7 ?_
    refine ev_icmp_geF dL_acts_132 173 (by decide) (by first | assumption | exact nI_ge (by omega) (by omega) | decide) ?_
    first | refine ev_aload_n dL_acts_135 rfl ?_ | refine ev_aload_nN dL_acts_135 rfl ?_
    refine ev_V0 dL_acts_136 st_RL_122 na_X9_round (Nat.le_of_ble_eq_true rfl) (Nat.le_of_ble_eq_true rfl) (by repeat (first | assumption | exact up_s | refine (up_n (by omega)).trans ?_)) rfl (e1) ?_
    refine ev_istore dL_acts_139 (Nat.le_of_ble_eq_true rfl) ?_
    refine ev_iload dL_acts_141 rfl ?_
    refine ev_if_ltF dL_acts_143 171 (by decide) (by first | assumption | exact nI_pos (by omega) | decide) ?_
    refine ev_iload dL_acts_146 rfl ?_
    refine ev_sipush dL_acts_148 sp480 ?_
    refine ev_icmp_gtF dL_acts_151 171 (by decide) (by first | assumption | exact nI_nlt (by omega) (by omega) | decide) ?_
    refine ev_iload dL_acts_154 rfl ?_
    refine ev_iconst dL_acts_156 ci5 ?_
    refine ev_icmp_eqT (tgt := 167) dL_acts_157 (by decide) (by first | assumption | exact n_eq (by omega) | decide) ?_
    refine ev_iconst dL_acts_167 ci1 ?_
    refine ev_goto (tgt := 172) dL_acts_168 (by decide) ?_
    exact ev_zreturnE dL_acts_172 rfl (by first | exact Or.inl rfl | exact Or.inr rfl | assumption | exact z01 (bI_01 _) | exact z01 (by omega)) (by rfl)
  · refine ev_iload dL_acts_9 rfl ?_
    refine ev_iconst dL_acts_11 ci4 ?_
    refine ev_icmp_geT (tgt := 59) dL_acts_12 (by decide) (by first | assumption | exact nI_le (by omega) (by omega) | decide) ?_
    refine ev_iload dL_acts_59 rfl ?_
    refine ev_iconst dL_acts_61 ci4 ?_
    refine ev_icmp_neT (tgt := 128) dL_acts_62 (by decide) (by first | assumption | exact n_ne (by omega) (by omega) (by omega) | decide) ?_
    refine ev_iload dL_acts_128 rfl ?_
    refine ev_bipush dL_acts_130 bp7 ?_
    refine ev_icmp_geF dL_acts_132 173 (by decide) (by first | assumption | exact nI_ge (by omega) (by omega) | decide) ?_
    first | refine ev_aload_n dL_acts_135 rfl ?_ | refine ev_aload_nN dL_acts_135 rfl ?_
    refine ev_V0 dL_acts_136 st_RL_122 na_X9_round (Nat.le_of_ble_eq_true rfl) (Nat.le_of_ble_eq_true rfl) (by repeat (first | assumption | exact up_s | refine (up_n (by omega)).trans ?_)) rfl (e1) ?_
    refine ev_istore dL_acts_139 (Nat.le_of_ble_eq_true rfl) ?_
    refine ev_iload dL_acts_141 rfl ?_
    refine ev_if_ltF dL_acts_143 171 (by decide) (by first | assumption | exact nI_pos (by omega) | decide) ?_
    refine ev_iload dL_acts_146 rfl ?_
    refine ev_sipush dL_acts_148 sp480 ?_
    refine ev_icmp_gtF dL_acts_151 171 (by decide) (by first | assumption | exact nI_nlt (by omega) (by omega) | decide) ?_
    refine ev_iload dL_acts_154 rfl ?_
    refine ev_iconst dL_acts_156 ci5 ?_
    refine ev_icmp_eqF dL_acts_157 167 (by decide) (by first | assumption | exact n_ne (by omega) (by omega) (by omega) | decide) ?_
    first | refine ev_aload_n dL_acts_160 rfl ?_ | refine ev_aload_nN dL_acts_160 rfl ?_
    refine ev_S1 dL_acts_161 st_RL_118 na_L_areShares (Nat.le_of_ble_eq_true rfl) (Nat.le_of_ble_eq_true rfl) (sh) ?_
    refine ev_if_eqF dL_acts_164 171 (by decide) (by first | assumption | exact nI_ne0 (by omega) (by omega) | decide) ?_
    refine ev_iconst dL_acts_167 ci1 ?_
    refine ev_goto (tgt := 172) dL_acts_168 (by decide) ?_
    exact ev_zreturnE dL_acts_172 rfl (by first | exact Or.inl rfl | exact Or.inr rfl | assumption | exact z01 (bI_01 _) | exact z01 (by omega)) (by rfl)
theorem ac_D (I : LI L xs n h gc) (hk : k = 7) : ∃ n' h' c e gc', Ev (d + 10) ML_acts 9 [(0, .ref 2), (1, .ref 31), (2, .ref 32), (3, .ref 33), (4, .ref 34), (5, .int x), (6, .int y), (7, .int (nI k))] [] n h (.inl (some (.int (nI 1))), n', h', c, e) ∧ LI L xs n' h' gc' ∧ gc' ≤ gc + 1 ∧ c ≤ 10 ∧ e ≤ 90 := by
  obtain ⟨made, t, l, w, S, W, G, Z, Lc, Wc, hn, g, v, rs, z, r⟩ := I
  obtain ⟨a, ha, ea⟩ := l_low y (N := 5) (by omega) (by omega)
  obtain ⟨b, hb, eb⟩ := l_low (y >>> (nI 3 &&& 31)) (N := 10) (by omega) (by omega)
  have v4 := v.2.2.2
  have hW := r.2.2.2.2 a ha
  have hWb := g.2.2.1.2.2.2.2.2.1.2.2 a
  have g' := GS_upL g (k := 34) (e := aI 5 (va_up Wc a b)) (by omega) (by omega)
  obtain ⟨h1, e1, g2, f2⟩ := m9_weightT (d := d + 5) (n := n) g' ha hb
  have e1 := hl_weightR g'.1 e1
  subst hk
  refine ⟨n, h1, 0, 0, gc, ?_, ⟨made, t, l, w, S, _, G, Z, Lc, _, hn, g2, LW_Fr f2 (LW_34 _ v), rs, H01_Fr f2 (H01_up (by omega) z), r.1, r.2.1, r.2.2.1, r.2.2.2.1, fun j hj => ?_⟩, by omega, by omega, by omega⟩
  · refine ev_iload dL_acts_9 rfl ?_
    refine ev_iconst dL_acts_11 ci4 ?_
    refine ev_icmp_geT (tgt := 59) dL_acts_12 (by decide) (by first | assumption | exact nI_le (by omega) (by omega) | decide) ?_
    refine ev_iload dL_acts_59 rfl ?_
    refine ev_iconst dL_acts_61 ci4 ?_
    refine ev_icmp_neT (tgt := 128) dL_acts_62 (by decide) (by first | assumption | exact n_ne (by omega) (by omega) (by omega) | decide) ?_
    refine ev_iload dL_acts_128 rfl ?_
    refine ev_bipush dL_acts_130 bp7 ?_
    refine ev_icmp_geT (tgt := 173) dL_acts_132 (by decide) (by first | assumption | exact nI_le (by omega) (by omega) | decide) ?_
    refine ev_iload dL_acts_173 rfl ?_
    refine ev_bipush dL_acts_175 bp7 ?_
    refine ev_icmp_neF dL_acts_177 231 (by decide) (by first | assumption | exact n_eq (by omega) | decide) ?_
    refine ev_iload dL_acts_180 rfl ?_
    refine ev_iconst dL_acts_182 ci5 ?_
    refine ev_S2 dL_acts_183 st_RL_90 na_L_low (Nat.le_of_ble_eq_true rfl) (Nat.le_of_ble_eq_true rfl) (ea _ _ _) ?_
    refine ev_istore dL_acts_186 (Nat.le_of_ble_eq_true rfl) ?_
    first | refine ev_aload dL_acts_188 rfl ?_ | refine ev_aloadN dL_acts_188 rfl ?_
    refine ev_iload dL_acts_190 rfl ?_
    refine ev_iald dL_acts_192 (by repeat (first | assumption | exact up_s | refine (up_n (by omega)).trans ?_)) _ rfl (by omega) (by omega) ?_
    refine ev_istore dL_acts_193 (Nat.le_of_ble_eq_true rfl) ?_
    first | refine ev_aload dL_acts_195 rfl ?_ | refine ev_aloadN dL_acts_195 rfl ?_
    refine ev_iload dL_acts_197 rfl ?_
    refine ev_iload dL_acts_199 rfl ?_
    refine ev_iconst dL_acts_201 ci3 ?_
    refine ev_ishr dL_acts_202 ?_
    refine ev_bipush dL_acts_203 bp10 ?_
    refine ev_S2 dL_acts_205 st_RL_90 na_L_low (Nat.le_of_ble_eq_true rfl) (Nat.le_of_ble_eq_true rfl) (eb _ _ _) ?_
    refine ev_iast dL_acts_208 (by omega) (by repeat (first | assumption | exact up_s | refine (up_n (by omega)).trans ?_)) _ _ rfl rfl (by omega) (by omega) ?_
    first | refine ev_aload_n dL_acts_209 rfl ?_ | refine ev_aload_nN dL_acts_209 rfl ?_
    refine ev_iload dL_acts_210 rfl ?_
    first | refine ev_aload dL_acts_212 rfl ?_ | refine ev_aloadN dL_acts_212 rfl ?_
    refine ev_iload dL_acts_214 rfl ?_
    refine ev_iald dL_acts_216 (by repeat (first | assumption | exact up_s | refine (up_n (by omega)).trans ?_)) _ rfl (by omega) (by omega) ?_
    refine ev_top (v2 := .int (nI b)) (congrArg (fun z => Value.int (nI z)) up_sN) ?_
    refine ev_callT (as := [_, _, _]) dL_acts_217 st_RL_125 na_L_weight (Nat.le_of_ble_eq_true rfl) (Nat.le_of_ble_eq_true rfl) (Nat.zero_add _) (Nat.zero_add _) (e1) ?_
    refine ev_iload dL_acts_220 rfl ?_
    refine ev_icmp_neF dL_acts_222 229 (by decide) (by first | assumption | exact n_eq (by omega) | decide) ?_
    refine ev_iconst dL_acts_225 ci1 ?_
    refine ev_goto (tgt := 230) dL_acts_226 (by decide) ?_
    exact ev_zreturnE dL_acts_230 rfl (by first | exact Or.inl rfl | exact Or.inr rfl | assumption | exact z01 (bI_01 _) | exact z01 (by omega)) (by rfl)
  · unfold va_up
    split
    · rfl
    · exact r.2.2.2.2 j hj

theorem ac_P1 (hn : n = 35 + 5 * made) (g : GS h made t l w S W) (v : LW h G Z Lc Wc) (rs : RS S) (z : H01 L xs h) (r : LR made gc t l W G Z Lc Wc) (hi : i < made) (ht : t i = 0) : ∃ n' h' c e gc', Ev (d + 10) ML_acts 257 [(0, .ref 2), (1, .ref 31), (2, .ref 32), (3, .ref 33), (4, .ref 34), (5, .int x), (6, .int y), (7, .int (nI k)), (8, .int (nI i))] [] n h (.inl (some (.int (nI 1))), n', h', c, e) ∧ LI L xs n' h' gc' ∧ gc' ≤ gc + 1 ∧ c ≤ 10 ∧ e ≤ 90 := by
  have hZ := r.2.1 i hi
  have hm20 := g.2.1.2.2.1
  have v2 := v.2.1
  have ni := nit g hi ht
  refine ⟨n, h, 1 + (1 + (1 + (1 + 0))), 6 + (6 + (6 + (6 + 0))), gc, ?_, ⟨made, t, l, w, S, W, G, Z, Lc, Wc, hn, g, v, rs, z, r⟩, by omega, by omega, by omega⟩
  first | refine ev_aload_n dL_acts_257 rfl ?_ | refine ev_aload_nN dL_acts_257 rfl ?_
  refine ev_iload dL_acts_258 rfl ?_
  refine ev_iald dL_acts_260 (by repeat (first | assumption | exact up_s | refine (up_n (by omega)).trans ?_)) _ rfl (by omega) (by omega) ?_
  refine ev_iconst dL_acts_261 ci1 ?_
  refine ev_icmp_neF dL_acts_262 319 (by decide) (by first | assumption | exact n_eq (by omega) | decide) ?_
  first | refine ev_aload_n dL_acts_265 rfl ?_ | refine ev_aload_nN dL_acts_265 rfl ?_
  refine ev_iload dL_acts_266 rfl ?_
  refine ev_callT (as := [_, _]) dL_acts_268 st_RL_127 na_L_takeBack (Nat.le_of_ble_eq_true rfl) (Nat.le_of_ble_eq_true rfl) rfl rfl (hl_takeBackE1 g.1 (m9_takeBackF (d := d + 5) g ni)) ?_
  refine ev_ldc (v := -1000001) dL_acts_271 (am_in 342 (by decide +kernel) rfl) ?_
  refine ev_icmp_neF dL_acts_273 317 (by decide) rfl ?_
  first | refine ev_aload_n dL_acts_276 rfl ?_ | refine ev_aload_nN dL_acts_276 rfl ?_
  refine ev_iload dL_acts_277 rfl ?_
  refine ev_callT (as := [_, _]) dL_acts_279 st_RL_80 na_L_phrases (Nat.le_of_ble_eq_true rfl) (Nat.le_of_ble_eq_true rfl) rfl rfl (hl_phrasesE1 g.1 (m9_phrasesF (d := d + 2) g ni)) ?_
  refine ev_ldc (v := -1000001) dL_acts_282 (am_in 342 (by decide +kernel) rfl) ?_
  refine ev_icmp_neF dL_acts_284 317 (by decide) rfl ?_
  first | refine ev_aload_n dL_acts_287 rfl ?_ | refine ev_aload_nN dL_acts_287 rfl ?_
  refine ev_iload dL_acts_288 rfl ?_
  refine ev_iconst dL_acts_290 ci0 ?_
  refine ev_iconst dL_acts_291 ci0 ?_
  refine ev_callT (as := [_, _, _, _]) dL_acts_292 st_RL_85 na_L_word (Nat.le_of_ble_eq_true rfl) (Nat.le_of_ble_eq_true rfl) rfl rfl (hl_wordE1 g.1 (m9_wordF (d := d + 5) g (Or.inl ni))) ?_
  refine ev_ldc (v := -1000001) dL_acts_295 (am_in 342 (by decide +kernel) rfl) ?_
  refine ev_icmp_neF dL_acts_297 317 (by decide) rfl ?_
  first | refine ev_aload_n dL_acts_300 rfl ?_ | refine ev_aload_nN dL_acts_300 rfl ?_
  refine ev_iload dL_acts_301 rfl ?_
  refine ev_callT (as := [_, _]) dL_acts_303 st_RL_129 na_L_total (Nat.le_of_ble_eq_true rfl) (Nat.le_of_ble_eq_true rfl) rfl rfl (hl_totalE1 g.1 (m9_totalF (d := d) g ni)) ?_
  refine ev_ldc2 (v := lZ (-1000001)) dL_acts_306 (am_in 772 (by decide +kernel) rfl) ?_
  refine ev_lcmp dL_acts_309 ?_
  refine ev_if_neF dL_acts_310 317 (by decide) (lg_cmp_s _) ?_
  refine ev_iconst dL_acts_313 ci1 ?_
  refine ev_goto (tgt := 318) dL_acts_314 (by decide) ?_
  exact ev_zreturnE dL_acts_318 rfl (by first | exact Or.inl rfl | exact Or.inr rfl | assumption | exact z01 (bI_01 _) | exact z01 (by omega)) (by rfl)
theorem ac_P2 (hn : n = 35 + 5 * made) (g : GS h made t l w S W) (v : LW h G Z Lc Wc) (rs : RS S) (z : H01 L xs h) (r : LR made gc t l W G Z Lc Wc) (hi : i < made) (ht : t i = 1) : ∃ n' h' c e gc', Ev (d + 10) ML_acts 337 [(0, .ref 2), (1, .ref 31), (2, .ref 32), (3, .ref 33), (4, .ref 34), (5, .int x), (6, .int y), (7, .int (nI k)), (8, .int (nI i))] [] n h (.inl (some (.int (nI 1))), n', h', c, e) ∧ LI L xs n' h' gc' ∧ gc' ≤ gc + 1 ∧ c ≤ 10 ∧ e ≤ 90 := by
  have hZ := r.2.1 i hi
  have hm20 := g.2.1.2.2.1
  have v2 := v.2.1
  have g1 := g.1
  have g' := GS_upL g (k := 32) (e := aI 20 (va_up Z i 1)) (by omega) (by omega)
  obtain ⟨h1, e1, g2, f2⟩ := m9_takeBackT (d := d + 5) (n := n) g' hi ht
  have e1 := hl_takeBackR g'.1 e1
  have g21 := g2.1
  have es := sumN_take made hi ht
  have ep := sumN_pos made hi (show 0 < t i by omega)
  have hsm : sumN t made ≤ made := g.2.1.2.2.2.1
  refine ⟨n, h1, 0, 0, gc, ?_, ⟨made, _, l, w, S, W, G, _, Lc, Wc, hn, g2, LW_Fr f2 (LW_32 _ v), rs, H01_Fr f2 (H01_up (by omega) z), r.1, fun j hj => ?_, fun j hj => ?_, r.2.2.2.1, r.2.2.2.2⟩, by omega, by omega, by omega⟩
  · first | refine ev_aload_n dL_acts_337 rfl ?_ | refine ev_aload_nN dL_acts_337 rfl ?_
    refine ev_V0 dL_acts_338 st_RL_95 na_X9_pairs (Nat.le_of_ble_eq_true rfl) (Nat.le_of_ble_eq_true rfl) (by repeat (first | assumption | exact up_s | refine (up_n (by omega)).trans ?_)) rfl (m9_pairs g) ?_
    refine ev_istore dL_acts_341 (Nat.le_of_ble_eq_true rfl) ?_
    first | refine ev_aload_n dL_acts_343 rfl ?_ | refine ev_aload_nN dL_acts_343 rfl ?_
    refine ev_iload dL_acts_344 rfl ?_
    refine ev_iconst dL_acts_346 ci1 ?_
    refine ev_iast dL_acts_347 (by omega) (by repeat (first | assumption | exact up_s | refine (up_n (by omega)).trans ?_)) _ _ rfl rfl (by omega) (by omega) ?_
    first | refine ev_aload_n dL_acts_348 rfl ?_ | refine ev_aload_nN dL_acts_348 rfl ?_
    refine ev_iload dL_acts_349 rfl ?_
    refine ev_callT (as := [_, _]) dL_acts_351 st_RL_127 na_L_takeBack (Nat.le_of_ble_eq_true rfl) (Nat.le_of_ble_eq_true rfl) (Nat.zero_add _) (Nat.zero_add _) (e1) ?_
    refine ev_iload dL_acts_354 rfl ?_
    refine ev_iconst dL_acts_356 ci1 ?_
    first | refine ev_isubN dL_acts_357 (by omega) ?_ | refine ev_isub dL_acts_357 ?_
    refine ev_icmp_neF dL_acts_358 376 (by decide) (by first | assumption | exact n_eq (by omega) | decide) ?_
    first | refine ev_aload_n dL_acts_361 rfl ?_ | refine ev_aload_nN dL_acts_361 rfl ?_
    refine ev_V0 dL_acts_362 st_RL_95 na_X9_pairs (Nat.le_of_ble_eq_true rfl) (Nat.le_of_ble_eq_true rfl) (by repeat (first | assumption | exact up_s | refine (up_n (by omega)).trans ?_)) rfl (m9_pairs g2) ?_
    refine ev_iload dL_acts_365 rfl ?_
    refine ev_iconst dL_acts_367 ci1 ?_
    first | refine ev_isubN dL_acts_368 (by omega) ?_ | refine ev_isub dL_acts_368 ?_
    refine ev_icmp_neF dL_acts_369 376 (by decide) (by first | assumption | exact n_eq (by omega) | decide) ?_
    refine ev_iconst dL_acts_372 ci1 ?_
    refine ev_goto (tgt := 377) dL_acts_373 (by decide) ?_
    exact ev_zreturnE dL_acts_377 rfl (by first | exact Or.inl rfl | exact Or.inr rfl | assumption | exact z01 (bI_01 _) | exact z01 (by omega)) (by rfl)
  · by_cases q : j = i
    · subst q
      rw [up_sN, up_sN]
    · rw [up_nN q, up_nN q]
      exact r.2.1 j hj
  · rw [up_nN (by omega)]
    exact r.2.2.1 j hj
theorem ac_P3 (hn : n = 35 + 5 * made) (g : GS h made t l w S W) (v : LW h G Z Lc Wc) (rs : RS S) (z : H01 L xs h) (r : LR made gc t l W G Z Lc Wc) (hi : i < made) (ht : t i = 1) (hk : k < 11) : ∃ n' h' c e gc', Ev (d + 10) ML_acts 378 [(0, .ref 2), (1, .ref 31), (2, .ref 32), (3, .ref 33), (4, .ref 34), (5, .int x), (6, .int y), (7, .int (nI k)), (8, .int (nI i))] [] n h (.inl (some (.int (nI 1))), n', h', c, e) ∧ LI L xs n' h' gc' ∧ gc' ≤ gc + 1 ∧ c ≤ 10 ∧ e ≤ 90 := by
  have hL := r.2.2.2.1 i hi
  obtain ⟨h2, ev, g2, f2⟩ := l_areLinks (d := d) g v hn hi ht hL.1 hL.2.1
  have v' := LW_Fr f2 v
  have z' := H01_Fr f2 z
  refine ⟨n, h2, (1 + (1 + (1 + (1 + 0)))) + 0, (6 + (6 + (6 + (64 + 0)))) + 0, gc, ?_, ⟨made, t, l, w, S, W, G, Z, Lc, Wc, hn, g2, v', rs, z', r⟩, by omega, by omega, by omega⟩
  have ok : ∀ a, a < n → am_okE n (h2 a) := by rw [hn]; exact GS_ok g2 v' z'
  refine ev_iload dL_acts_378 rfl ?_
  refine ev_bipush dL_acts_380 bp11 ?_
  refine ev_icmp_geF dL_acts_382 393 (by decide) (by first | assumption | exact nI_ge (by omega) (by omega) | decide) ?_
  first | refine ev_aload_n dL_acts_385 rfl ?_ | refine ev_aload_nN dL_acts_385 rfl ?_
  first | refine ev_aload_n dL_acts_386 rfl ?_ | refine ev_aload_nN dL_acts_386 rfl ?_
  refine ev_iload dL_acts_387 rfl ?_
  refine ev_callSf (as := [_, _, _]) dL_acts_389 st_RL_132 na_L_areLinks (Nat.le_of_ble_eq_true rfl) (Nat.le_of_ble_eq_true rfl) rfl rfl (Nat.le_refl _) (Nat.le_succ _) ok (fun w hw => by cases hw; trivial) ev ?_
  exact ev_zreturnE dL_acts_392 rfl (by first | exact Or.inl rfl | exact Or.inr rfl | assumption | exact z01 (bI_01 _) | exact z01 (by omega)) (by rfl)
theorem ac_P4 (hn : n = 35 + 5 * made) (g : GS h made t l w S W) (v : LW h G Z Lc Wc) (rs : RS S) (z : H01 L xs h) (r : LR made gc t l W G Z Lc Wc) (hi : i < made) (ht : t i = 1) (hk : k = 11) : ∃ n' h' c e gc', Ev (d + 10) ML_acts 378 [(0, .ref 2), (1, .ref 31), (2, .ref 32), (3, .ref 33), (4, .ref 34), (5, .int x), (6, .int y), (7, .int (nI k)), (8, .int (nI i))] [] n h (.inl (some (.int (nI 1))), n', h', c, e) ∧ LI L xs n' h' gc' ∧ gc' ≤ gc + 1 ∧ c ≤ 10 ∧ e ≤ 90 := by
  have hL := r.2.2.2.1 i hi
  have hm20 := g.2.1.2.2.1
  have v3 := v.2.2.1
  have h1 := (GS_Pr g hi).2.2.2.2.1
  subst hk
  rcases Nat.lt_or_ge 4 (l 1 i) with q | q
  · have e1 := hl_totalE2 g.1 (m9_total2 (d := d) (n := n) g hi ht q)
    refine ⟨n, h, 1 + 0, 6 + 0, gc, ?_, ⟨made, t, l, w, S, W, G, Z, Lc, Wc, hn, g, v, rs, z, r⟩, by omega, by omega, by omega⟩
    refine ev_iload dL_acts_378 rfl ?_
    refine ev_bipush dL_acts_380 bp11 ?_
    refine ev_icmp_geT (tgt := 393) dL_acts_382 (by decide) (by first | assumption | exact nI_le (by omega) (by omega) | decide) ?_
    refine ev_iload dL_acts_393 rfl ?_
    refine ev_bipush dL_acts_395 bp11 ?_
    refine ev_icmp_neF dL_acts_397 463 (by decide) (by first | assumption | exact n_eq (by omega) | decide) ?_
    first | refine ev_aload_n dL_acts_400 rfl ?_ | refine ev_aload_nN dL_acts_400 rfl ?_
    refine ev_iload dL_acts_401 rfl ?_
    refine ev_callT (as := [_, _]) dL_acts_403 st_RL_129 na_L_total (Nat.le_of_ble_eq_true rfl) (Nat.le_of_ble_eq_true rfl) rfl rfl (e1) ?_
    refine ev_lstore dL_acts_406 (Nat.le_of_ble_eq_true rfl) ?_
    refine ev_lload dL_acts_408 rfl ?_
    first | refine ev_aload_n dL_acts_410 rfl ?_ | refine ev_aload_nN dL_acts_410 rfl ?_
    refine ev_iconst dL_acts_411 ci2 ?_
    refine ev_iload dL_acts_412 rfl ?_
    first | refine ev_imulN dL_acts_414 ?_ | refine ev_imul dL_acts_414 ?_
    refine ev_iconst dL_acts_415 ci1 ?_
    first | refine ev_iaddN dL_acts_416 ?_ | refine ev_iadd dL_acts_416 ?_
    refine ev_iald dL_acts_417 (by repeat (first | assumption | exact up_s | refine (up_n (by omega)).trans ?_)) _ rfl (by omega) (by omega) ?_
    refine ev_top (v2 := .int (nI (l 1 i))) (congrArg (fun z => Value.int (nI z)) hL.2.1) ?_
    refine ev_iconst dL_acts_418 ci4 ?_
    refine ev_icmp_leF dL_acts_419 428 (by decide) (by first | assumption | exact nI_ge (by omega) (by omega) | decide) ?_
    refine ev_ldc2 (v := lZ (-1000003)) dL_acts_422 (am_in 773 (by decide +kernel) rfl) ?_
    refine ev_goto (tgt := 434) dL_acts_425 (by decide) ?_
    refine ev_lcmp dL_acts_434 ?_
    refine ev_if_neF dL_acts_435 461 (by decide) (lg_cmp_s _) ?_
    first | refine ev_aload_n dL_acts_438 rfl ?_ | refine ev_aload_nN dL_acts_438 rfl ?_
    refine ev_iconst dL_acts_439 ci2 ?_
    refine ev_iload dL_acts_440 rfl ?_
    first | refine ev_imulN dL_acts_442 ?_ | refine ev_imul dL_acts_442 ?_
    refine ev_iconst dL_acts_443 ci1 ?_
    first | refine ev_iaddN dL_acts_444 ?_ | refine ev_iadd dL_acts_444 ?_
    refine ev_iald dL_acts_445 (by repeat (first | assumption | exact up_s | refine (up_n (by omega)).trans ?_)) _ rfl (by omega) (by omega) ?_
    refine ev_top (v2 := .int (nI (l 1 i))) (congrArg (fun z => Value.int (nI z)) hL.2.1) ?_
    refine ev_iconst dL_acts_446 ci4 ?_
    refine ev_icmp_gtT (tgt := 457) dL_acts_447 (by decide) (by first | assumption | exact nI_lt (by omega) (by omega) | decide) ?_
    refine ev_iconst dL_acts_457 ci1 ?_
    refine ev_goto (tgt := 462) dL_acts_458 (by decide) ?_
    exact ev_zreturnE dL_acts_462 rfl (by first | exact Or.inl rfl | exact Or.inr rfl | assumption | exact z01 (bI_01 _) | exact z01 (by omega)) (by rfl)
  · have hT := toN_lt g hi q
    obtain ⟨x1, e1, g2, f2⟩ := m9_totalT (d := d) (n := n) g hi ht q
    obtain ⟨x2, e2, g3, f3⟩ := m9_totalAnewT (d := d) (n := n) g2 hi ht q
    have e1 := hl_totalR g.1 e1
    have e2 := hl_totalAnewR g2.1 e2
    have v3' := (LW_Fr f2 v).2.2.1
    have v3'' := (LW_Fr f3 (LW_Fr f2 v)).2.2.1
    refine ⟨n, x2, 0, 0, gc, ?_, ⟨made, t, l, w, S, W, G, Z, Lc, Wc, hn, g3, LW_Fr f3 (LW_Fr f2 v), rs, H01_Fr f3 (H01_Fr f2 z), r⟩, by omega, by omega, by omega⟩
    refine ev_iload dL_acts_378 rfl ?_
    refine ev_bipush dL_acts_380 bp11 ?_
    refine ev_icmp_geT (tgt := 393) dL_acts_382 (by decide) (by first | assumption | exact nI_le (by omega) (by omega) | decide) ?_
    refine ev_iload dL_acts_393 rfl ?_
    refine ev_bipush dL_acts_395 bp11 ?_
    refine ev_icmp_neF dL_acts_397 463 (by decide) (by first | assumption | exact n_eq (by omega) | decide) ?_
    first | refine ev_aload_n dL_acts_400 rfl ?_ | refine ev_aload_nN dL_acts_400 rfl ?_
    refine ev_iload dL_acts_401 rfl ?_
    refine ev_callT (as := [_, _]) dL_acts_403 st_RL_129 na_L_total (Nat.le_of_ble_eq_true rfl) (Nat.le_of_ble_eq_true rfl) (Nat.zero_add _) (Nat.zero_add _) (e1) ?_
    refine ev_lstore dL_acts_406 (Nat.le_of_ble_eq_true rfl) ?_
    refine ev_lload dL_acts_408 rfl ?_
    first | refine ev_aload_n dL_acts_410 rfl ?_ | refine ev_aload_nN dL_acts_410 rfl ?_
    refine ev_iconst dL_acts_411 ci2 ?_
    refine ev_iload dL_acts_412 rfl ?_
    first | refine ev_imulN dL_acts_414 ?_ | refine ev_imul dL_acts_414 ?_
    refine ev_iconst dL_acts_415 ci1 ?_
    first | refine ev_iaddN dL_acts_416 ?_ | refine ev_iadd dL_acts_416 ?_
    refine ev_iald dL_acts_417 (by repeat (first | assumption | exact up_s | refine (up_n (by omega)).trans ?_)) _ rfl (by omega) (by omega) ?_
    refine ev_top (v2 := .int (nI (l 1 i))) (congrArg (fun z => Value.int (nI z)) hL.2.1) ?_
    refine ev_iconst dL_acts_418 ci4 ?_
    refine ev_icmp_leT (tgt := 428) dL_acts_419 (by decide) (by first | assumption | exact nI_le (by omega) (by omega) | decide) ?_
    first | refine ev_aload_n dL_acts_428 rfl ?_ | refine ev_aload_nN dL_acts_428 rfl ?_
    refine ev_iload dL_acts_429 rfl ?_
    refine ev_callT (as := [_, _]) dL_acts_431 st_RL_136 na_L_totalAnew (Nat.le_of_ble_eq_true rfl) (Nat.le_of_ble_eq_true rfl) (Nat.zero_add _) (Nat.zero_add _) (e2) ?_
    refine ev_lcmp dL_acts_434 ?_
    refine ev_if_neF dL_acts_435 461 (by decide) (lg_cmp_s _) ?_
    first | refine ev_aload_n dL_acts_438 rfl ?_ | refine ev_aload_nN dL_acts_438 rfl ?_
    refine ev_iconst dL_acts_439 ci2 ?_
    refine ev_iload dL_acts_440 rfl ?_
    first | refine ev_imulN dL_acts_442 ?_ | refine ev_imul dL_acts_442 ?_
    refine ev_iconst dL_acts_443 ci1 ?_
    first | refine ev_iaddN dL_acts_444 ?_ | refine ev_iadd dL_acts_444 ?_
    refine ev_iald dL_acts_445 (by repeat (first | assumption | exact up_s | refine (up_n (by omega)).trans ?_)) _ rfl (by omega) (by omega) ?_
    refine ev_top (v2 := .int (nI (l 1 i))) (congrArg (fun z => Value.int (nI z)) hL.2.1) ?_
    refine ev_iconst dL_acts_446 ci4 ?_
    refine ev_icmp_gtF dL_acts_447 457 (by decide) (by first | assumption | exact nI_nlt (by omega) (by omega) | decide) ?_
    refine ev_lload dL_acts_450 rfl ?_
    refine ev_lconst dL_acts_452 lc0 ?_
    refine ev_lcmp dL_acts_453 ?_
    refine ev_if_ltF dL_acts_454 461 (by decide) (lg_cmp_0 hT) ?_
    refine ev_iconst dL_acts_457 ci1 ?_
    refine ev_goto (tgt := 462) dL_acts_458 (by decide) ?_
    exact ev_zreturnE dL_acts_462 rfl (by first | exact Or.inl rfl | exact Or.inr rfl | assumption | exact z01 (bI_01 _) | exact z01 (by omega)) (by rfl)
theorem ac_P5 (hn : n = 35 + 5 * made) (g : GS h made t l w S W) (v : LW h G Z Lc Wc) (rs : RS S) (z : H01 L xs h) (r : LR made gc t l W G Z Lc Wc) (hgc : gc < 1000) (hi : i < made) (ht : t i = 1) (hk : 12 ≤ k) (hk2 : k < 14) : ∃ n' h' c e gc', Ev (d + 10) ML_acts 378 [(0, .ref 2), (1, .ref 31), (2, .ref 32), (3, .ref 33), (4, .ref 34), (5, .int x), (6, .int y), (7, .int (nI k)), (8, .int (nI i))] [] n h (.inl (some (.int (nI 1))), n', h', c, e) ∧ LI L xs n' h' gc' ∧ gc' ≤ gc + 1 ∧ c ≤ 10 ∧ e ≤ 90 := by
  have hL := r.2.2.2.1 i hi
  have hm20 := g.2.1.2.2.1
  have v1 := v.1
  have G3 := r.1.2.2.2
  have g' := GS_upL g (k := 31) (e := aI 4 (va_up G 3 (G 3 + 1))) (by omega) (by omega)
  have v' := LW_31 (va_up G 3 (G 3 + 1)) v
  have z' : H01 L xs (va_up h 31 (aI 4 (va_up G 3 (G 3 + 1)))) := H01_up (by omega) z
  have r' : LR made (gc + 1) t l W (va_up G 3 (G 3 + 1)) Z Lc Wc := by
    refine ⟨⟨?_, ?_, ?_, ?_⟩, r.2⟩
    · rw [up_nN (by omega)]; exact r.1.1
    · rw [up_nN (by omega)]; exact r.1.2.1
    · rw [up_nN (by omega)]; exact r.1.2.2.1
    · rw [up_sN, G3]
  rcases Nat.lt_or_ge 4 (G 3 + 1) with q | q
  · refine ⟨n, _, 0, 0, gc + 1, ?_, ⟨made, t, l, w, S, W, _, Z, Lc, Wc, hn, g', v', rs, z', r'⟩, by omega, by omega, by omega⟩
    refine ev_iload dL_acts_378 rfl ?_
    refine ev_bipush dL_acts_380 bp11 ?_
    refine ev_icmp_geT (tgt := 393) dL_acts_382 (by decide) (by first | assumption | exact nI_le (by omega) (by omega) | decide) ?_
    refine ev_iload dL_acts_393 rfl ?_
    refine ev_bipush dL_acts_395 bp11 ?_
    refine ev_icmp_neT (tgt := 463) dL_acts_397 (by decide) (by first | assumption | exact n_ne (by omega) (by omega) (by omega) | decide) ?_
    first | refine ev_aload_n dL_acts_463 rfl ?_ | refine ev_aload_nN dL_acts_463 rfl ?_
    refine ev_iconst dL_acts_464 ci3 ?_
    refine ev_dup2_11 dL_acts_465 rfl rfl ?_
    refine ev_iald dL_acts_466 (by repeat (first | assumption | exact up_s | refine (up_n (by omega)).trans ?_)) _ rfl (by omega) (by omega) ?_
    refine ev_iconst dL_acts_467 ci1 ?_
    first | refine ev_iaddN dL_acts_468 ?_ | refine ev_iadd dL_acts_468 ?_
    refine ev_iast dL_acts_469 (by omega) (by repeat (first | assumption | exact up_s | refine (up_n (by omega)).trans ?_)) _ _ rfl rfl (by omega) (by omega) ?_
    first | refine ev_aload_n dL_acts_470 rfl ?_ | refine ev_aload_nN dL_acts_470 rfl ?_
    refine ev_iconst dL_acts_471 ci3 ?_
    refine ev_iald dL_acts_472 (by repeat (first | assumption | exact up_s | refine (up_n (by omega)).trans ?_)) _ rfl (by omega) (by omega) ?_
    refine ev_top (v2 := .int (nI (G 3 + 1))) (congrArg (fun z => Value.int (nI z)) up_sN) ?_
    refine ev_iconst dL_acts_473 ci4 ?_
    refine ev_icmp_gtT (tgt := 514) dL_acts_474 (by decide) (by first | assumption | exact nI_lt (by omega) (by omega) | decide) ?_
    refine ev_iconst dL_acts_514 ci1 ?_
    refine ev_goto (tgt := 519) dL_acts_515 (by decide) ?_
    exact ev_zreturnE dL_acts_519 rfl (by first | exact Or.inl rfl | exact Or.inr rfl | assumption | exact z01 (bI_01 _) | exact z01 (by omega)) (by rfl)
  · by_cases q2 : k = 12
    · obtain ⟨h2, ev, g2, f2⟩ := l_arePhrases (d := d) (n := n) g' v' hi ht hL.1 hL.2.1
      refine ⟨n, h2, (1 + 0) + 0, (6 + 0) + 0, gc + 1, ?_, ⟨made, t, l, w, S, W, _, Z, Lc, Wc, hn, g2, LW_Fr f2 v', rs, H01_Fr f2 z', r'⟩, by omega, by omega, by omega⟩
      refine ev_iload dL_acts_378 rfl ?_
      refine ev_bipush dL_acts_380 bp11 ?_
      refine ev_icmp_geT (tgt := 393) dL_acts_382 (by decide) (by first | assumption | exact nI_le (by omega) (by omega) | decide) ?_
      refine ev_iload dL_acts_393 rfl ?_
      refine ev_bipush dL_acts_395 bp11 ?_
      refine ev_icmp_neT (tgt := 463) dL_acts_397 (by decide) (by first | assumption | exact n_ne (by omega) (by omega) (by omega) | decide) ?_
      first | refine ev_aload_n dL_acts_463 rfl ?_ | refine ev_aload_nN dL_acts_463 rfl ?_
      refine ev_iconst dL_acts_464 ci3 ?_
      refine ev_dup2_11 dL_acts_465 rfl rfl ?_
      refine ev_iald dL_acts_466 (by repeat (first | assumption | exact up_s | refine (up_n (by omega)).trans ?_)) _ rfl (by omega) (by omega) ?_
      refine ev_iconst dL_acts_467 ci1 ?_
      first | refine ev_iaddN dL_acts_468 ?_ | refine ev_iadd dL_acts_468 ?_
      refine ev_iast dL_acts_469 (by omega) (by repeat (first | assumption | exact up_s | refine (up_n (by omega)).trans ?_)) _ _ rfl rfl (by omega) (by omega) ?_
      first | refine ev_aload_n dL_acts_470 rfl ?_ | refine ev_aload_nN dL_acts_470 rfl ?_
      refine ev_iconst dL_acts_471 ci3 ?_
      refine ev_iald dL_acts_472 (by repeat (first | assumption | exact up_s | refine (up_n (by omega)).trans ?_)) _ rfl (by omega) (by omega) ?_
      refine ev_top (v2 := .int (nI (G 3 + 1))) (congrArg (fun z => Value.int (nI z)) up_sN) ?_
      refine ev_iconst dL_acts_473 ci4 ?_
      refine ev_icmp_gtF dL_acts_474 514 (by decide) (by first | assumption | exact nI_nlt (by omega) (by omega) | decide) ?_
      refine ev_iload dL_acts_477 rfl ?_
      refine ev_bipush dL_acts_479 bp12 ?_
      refine ev_icmp_neF dL_acts_481 497 (by decide) (by first | assumption | exact n_eq (by omega) | decide) ?_
      first | refine ev_aload_n dL_acts_484 rfl ?_ | refine ev_aload_nN dL_acts_484 rfl ?_
      first | refine ev_aload_n dL_acts_485 rfl ?_ | refine ev_aload_nN dL_acts_485 rfl ?_
      refine ev_iload dL_acts_486 rfl ?_
      refine ev_S3K dL_acts_488 st_RL_138 na_L_arePhrases (Nat.le_of_ble_eq_true rfl) (Nat.le_of_ble_eq_true rfl) rfl rfl (ev) ?_
      refine ev_if_eqF dL_acts_491 518 (by decide) (by first | assumption | exact nI_ne0 (by omega) (by omega) | decide) ?_
      refine ev_goto (tgt := 514) dL_acts_494 (by decide) ?_
      refine ev_iconst dL_acts_514 ci1 ?_
      refine ev_goto (tgt := 519) dL_acts_515 (by decide) ?_
      exact ev_zreturnE dL_acts_519 rfl (by first | exact Or.inl rfl | exact Or.inr rfl | assumption | exact z01 (bI_01 _) | exact z01 (by omega)) (by rfl)
    · obtain ⟨wd, hw, ew⟩ := l_low (y >>> (nI 5 &&& 31)) (N := 5) (by omega) (by omega)
      obtain ⟨h2, ev, g2, f2⟩ := l_areFertile (d := d) (n := n) (wd := wd) g' v' (by omega) r'.1.2.2.1 r'.2.1
      refine ⟨n, h2, 0, 0, gc + 1, ?_, ⟨made, t, l, w, S, W, _, Z, Lc, Wc, hn, g2, LW_Fr f2 v', rs, H01_Fr f2 z', r'⟩, by omega, by omega, by omega⟩
      refine ev_iload dL_acts_378 rfl ?_
      refine ev_bipush dL_acts_380 bp11 ?_
      refine ev_icmp_geT (tgt := 393) dL_acts_382 (by decide) (by first | assumption | exact nI_le (by omega) (by omega) | decide) ?_
      refine ev_iload dL_acts_393 rfl ?_
      refine ev_bipush dL_acts_395 bp11 ?_
      refine ev_icmp_neT (tgt := 463) dL_acts_397 (by decide) (by first | assumption | exact n_ne (by omega) (by omega) (by omega) | decide) ?_
      first | refine ev_aload_n dL_acts_463 rfl ?_ | refine ev_aload_nN dL_acts_463 rfl ?_
      refine ev_iconst dL_acts_464 ci3 ?_
      refine ev_dup2_11 dL_acts_465 rfl rfl ?_
      refine ev_iald dL_acts_466 (by repeat (first | assumption | exact up_s | refine (up_n (by omega)).trans ?_)) _ rfl (by omega) (by omega) ?_
      refine ev_iconst dL_acts_467 ci1 ?_
      first | refine ev_iaddN dL_acts_468 ?_ | refine ev_iadd dL_acts_468 ?_
      refine ev_iast dL_acts_469 (by omega) (by repeat (first | assumption | exact up_s | refine (up_n (by omega)).trans ?_)) _ _ rfl rfl (by omega) (by omega) ?_
      first | refine ev_aload_n dL_acts_470 rfl ?_ | refine ev_aload_nN dL_acts_470 rfl ?_
      refine ev_iconst dL_acts_471 ci3 ?_
      refine ev_iald dL_acts_472 (by repeat (first | assumption | exact up_s | refine (up_n (by omega)).trans ?_)) _ rfl (by omega) (by omega) ?_
      refine ev_top (v2 := .int (nI (G 3 + 1))) (congrArg (fun z => Value.int (nI z)) up_sN) ?_
      refine ev_iconst dL_acts_473 ci4 ?_
      refine ev_icmp_gtF dL_acts_474 514 (by decide) (by first | assumption | exact nI_nlt (by omega) (by omega) | decide) ?_
      refine ev_iload dL_acts_477 rfl ?_
      refine ev_bipush dL_acts_479 bp12 ?_
      refine ev_icmp_neT (tgt := 497) dL_acts_481 (by decide) (by first | assumption | exact n_ne (by omega) (by omega) (by omega) | decide) ?_
      first | refine ev_aload_n dL_acts_497 rfl ?_ | refine ev_aload_nN dL_acts_497 rfl ?_
      first | refine ev_aload_n dL_acts_498 rfl ?_ | refine ev_aload_nN dL_acts_498 rfl ?_
      first | refine ev_aload_n dL_acts_499 rfl ?_ | refine ev_aload_nN dL_acts_499 rfl ?_
      refine ev_iload dL_acts_500 rfl ?_
      refine ev_iconst dL_acts_502 ci5 ?_
      refine ev_ishr dL_acts_503 ?_
      refine ev_iconst dL_acts_504 ci5 ?_
      refine ev_S2 dL_acts_505 st_RL_90 na_L_low (Nat.le_of_ble_eq_true rfl) (Nat.le_of_ble_eq_true rfl) (ew _ _ _) ?_
      refine ev_S4 dL_acts_508 st_RL_141 na_L_areFertile (Nat.le_of_ble_eq_true rfl) (Nat.le_of_ble_eq_true rfl) (ev) ?_
      refine ev_if_eqF dL_acts_511 518 (by decide) (by first | assumption | exact nI_ne0 (by omega) (by omega) | decide) ?_
      refine ev_iconst dL_acts_514 ci1 ?_
      refine ev_goto (tgt := 519) dL_acts_515 (by decide) ?_
      exact ev_zreturnE dL_acts_519 rfl (by first | exact Or.inl rfl | exact Or.inr rfl | assumption | exact z01 (bI_01 _) | exact z01 (by omega)) (by rfl)
theorem ac_P (hn : n = 35 + 5 * made) (g : GS h made t l w S W) (v : LW h G Z Lc Wc) (rs : RS S) (z : H01 L xs h) (r : LR made gc t l W G Z Lc Wc) (hgc : gc < 1000) (hi : i < made) (hk : 8 ≤ k) (hk2 : k < 14) : ∃ n' h' c e gc', Ev (d + 10) ML_acts 257 [(0, .ref 2), (1, .ref 31), (2, .ref 32), (3, .ref 33), (4, .ref 34), (5, .int x), (6, .int y), (7, .int (nI k)), (8, .int (nI i))] [] n h (.inl (some (.int (nI 1))), n', h', c, e) ∧ LI L xs n' h' gc' ∧ gc' ≤ gc + 1 ∧ c ≤ 10 ∧ e ≤ 90 := by
  have hZ := r.2.1 i hi
  have hm20 := g.2.1.2.2.1
  have v2 := v.2.1
  rcases g.2.1.2.2.2.2.1 i with ht | ht
  · exact ac_P1 hn g v rs z r hi ht
  · have K : ∃ n' h' c e gc', Ev (d + 10) ML_acts 378 [(0, .ref 2), (1, .ref 31), (2, .ref 32), (3, .ref 33), (4, .ref 34), (5, .int x), (6, .int y), (7, .int (nI k)), (8, .int (nI i))] [] n h (.inl (some (.int (nI 1))), n', h', c, e) ∧ LI L xs n' h' gc' ∧ gc' ≤ gc + 1 ∧ c ≤ 10 ∧ e ≤ 90 := by
      rcases Nat.lt_or_ge k 11 with q | q
      · exact ac_P3 hn g v rs z r hi ht q
      · by_cases q2 : k = 11
        · exact ac_P4 hn g v rs z r hi ht q2
        · exact ac_P5 hn g v rs z r hgc hi ht (by omega) hk2
    obtain ⟨n', h', c, e, gc', ev, I', b1, b2, b3⟩ := K
    by_cases q : k = 8
    · obtain ⟨j, hj, ej⟩ := l_low (y >>> (nI 5 &&& 31)) (N := 3) (by omega) (by omega)
      by_cases q3 : j = 0
      · obtain ⟨n', h', c, e, gc', ev, I', b1, b2, b3⟩ := ac_P2 (d := d) (x := x) (y := y) (k := k) hn g v rs z r hi ht
        refine ⟨n', h', c, e, gc', ?_, I', b1, b2, b3⟩
        first | refine ev_aload_n dL_acts_257 rfl ?_ | refine ev_aload_nN dL_acts_257 rfl ?_
        refine ev_iload dL_acts_258 rfl ?_
        refine ev_iald dL_acts_260 (by repeat (first | assumption | exact up_s | refine (up_n (by omega)).trans ?_)) _ rfl (by omega) (by omega) ?_
        refine ev_iconst dL_acts_261 ci1 ?_
        refine ev_icmp_neT (tgt := 319) dL_acts_262 (by decide) (by first | assumption | exact n_ne (by omega) (by omega) (by omega) | decide) ?_
        refine ev_iload dL_acts_319 rfl ?_
        refine ev_bipush dL_acts_321 bp8 ?_
        refine ev_icmp_neF dL_acts_323 378 (by decide) (by first | assumption | exact n_eq (by omega) | decide) ?_
        refine ev_iload dL_acts_326 rfl ?_
        refine ev_iconst dL_acts_328 ci5 ?_
        refine ev_ishr dL_acts_329 ?_
        refine ev_iconst dL_acts_330 ci3 ?_
        refine ev_S2 dL_acts_331 st_RL_90 na_L_low (Nat.le_of_ble_eq_true rfl) (Nat.le_of_ble_eq_true rfl) (ej _ _ _) ?_
        refine ev_if_neF dL_acts_334 378 (by decide) (by first | assumption | exact z_eq (by omega) | decide) ?_
        refine ev_sub ?_ (ev)
        repeat (first | exact trivial | refine ⟨rfl, ?_⟩)
      · refine ⟨n', h', c, e, gc', ?_, I', b1, b2, b3⟩
        first | refine ev_aload_n dL_acts_257 rfl ?_ | refine ev_aload_nN dL_acts_257 rfl ?_
        refine ev_iload dL_acts_258 rfl ?_
        refine ev_iald dL_acts_260 (by repeat (first | assumption | exact up_s | refine (up_n (by omega)).trans ?_)) _ rfl (by omega) (by omega) ?_
        refine ev_iconst dL_acts_261 ci1 ?_
        refine ev_icmp_neT (tgt := 319) dL_acts_262 (by decide) (by first | assumption | exact n_ne (by omega) (by omega) (by omega) | decide) ?_
        refine ev_iload dL_acts_319 rfl ?_
        refine ev_bipush dL_acts_321 bp8 ?_
        refine ev_icmp_neF dL_acts_323 378 (by decide) (by first | assumption | exact n_eq (by omega) | decide) ?_
        refine ev_iload dL_acts_326 rfl ?_
        refine ev_iconst dL_acts_328 ci5 ?_
        refine ev_ishr dL_acts_329 ?_
        refine ev_iconst dL_acts_330 ci3 ?_
        refine ev_S2 dL_acts_331 st_RL_90 na_L_low (Nat.le_of_ble_eq_true rfl) (Nat.le_of_ble_eq_true rfl) (ej _ _ _) ?_
        refine ev_if_neT (tgt := 378) dL_acts_334 (by decide) (by first | assumption | exact nI_ne0 (by omega) (by omega) | decide) ?_
        refine ev_sub ?_ (ev)
        repeat (first | exact trivial | refine ⟨rfl, ?_⟩)
    · refine ⟨n', h', c, e, gc', ?_, I', b1, b2, b3⟩
      first | refine ev_aload_n dL_acts_257 rfl ?_ | refine ev_aload_nN dL_acts_257 rfl ?_
      refine ev_iload dL_acts_258 rfl ?_
      refine ev_iald dL_acts_260 (by repeat (first | assumption | exact up_s | refine (up_n (by omega)).trans ?_)) _ rfl (by omega) (by omega) ?_
      refine ev_iconst dL_acts_261 ci1 ?_
      refine ev_icmp_neT (tgt := 319) dL_acts_262 (by decide) (by first | assumption | exact n_ne (by omega) (by omega) (by omega) | decide) ?_
      refine ev_iload dL_acts_319 rfl ?_
      refine ev_bipush dL_acts_321 bp8 ?_
      refine ev_icmp_neT (tgt := 378) dL_acts_323 (by decide) (by first | assumption | exact n_ne (by omega) (by omega) (by omega) | decide) ?_
      refine ev_sub ?_ (ev)
      repeat (first | exact trivial | refine ⟨rfl, ?_⟩)
theorem ac_E (I : LI L xs n h gc) (hgc : gc < 1000) (hk : 8 ≤ k) (hk2 : k < 14) : ∃ n' h' c e gc', Ev (d + 10) ML_acts 9 [(0, .ref 2), (1, .ref 31), (2, .ref 32), (3, .ref 33), (4, .ref 34), (5, .int x), (6, .int y), (7, .int (nI k))] [] n h (.inl (some (.int (nI 1))), n', h', c, e) ∧ LI L xs n' h' gc' ∧ gc' ≤ gc + 1 ∧ c ≤ 10 ∧ e ≤ 90 := by
  have I0 := I
  obtain ⟨made, t, l, w, S, W, G, Z, Lc, Wc, hn, g, v, rs, z, r⟩ := I
  have hm20 := g.2.1.2.2.1
  have v1 := v.1
  have G2 := r.1.2.2.1
  rcases Nat.eq_zero_or_pos made with q | q
  · obtain ⟨n2, h2, c2, e2, ev2, I2, b3, b4⟩ := l_pairs (d := d) y I0
    refine ⟨n2, h2, c2 + 0, e2 + 0, gc, ?_, I2, by omega, by omega, by omega⟩
    refine ev_iload dL_acts_9 rfl ?_
    refine ev_iconst dL_acts_11 ci4 ?_
    refine ev_icmp_geT (tgt := 59) dL_acts_12 (by decide) (by first | assumption | exact nI_le (by omega) (by omega) | decide) ?_
    refine ev_iload dL_acts_59 rfl ?_
    refine ev_iconst dL_acts_61 ci4 ?_
    refine ev_icmp_neT (tgt := 128) dL_acts_62 (by decide) (by first | assumption | exact n_ne (by omega) (by omega) (by omega) | decide) ?_
    refine ev_iload dL_acts_128 rfl ?_
    refine ev_bipush dL_acts_130 bp7 ?_
    refine ev_icmp_geT (tgt := 173) dL_acts_132 (by decide) (by first | assumption | exact nI_le (by omega) (by omega) | decide) ?_
    refine ev_iload dL_acts_173 rfl ?_
    refine ev_bipush dL_acts_175 bp7 ?_
    refine ev_icmp_neT (tgt := 231) dL_acts_177 (by decide) (by first | assumption | exact n_ne (by omega) (by omega) (by omega) | decide) ?_
    first | refine ev_aload_n dL_acts_231 rfl ?_ | refine ev_aload_nN dL_acts_231 rfl ?_
    refine ev_iconst dL_acts_232 ci2 ?_
    refine ev_iald dL_acts_233 (by repeat (first | assumption | exact up_s | refine (up_n (by omega)).trans ?_)) _ rfl (by omega) (by omega) ?_
    refine ev_if_neF dL_acts_234 247 (by decide) (by first | assumption | exact z_eq (by omega) | decide) ?_
    first | refine ev_aload_n dL_acts_237 rfl ?_ | refine ev_aload_nN dL_acts_237 rfl ?_
    first | refine ev_aload_n dL_acts_238 rfl ?_ | refine ev_aload_nN dL_acts_238 rfl ?_
    first | refine ev_aload_n dL_acts_239 rfl ?_ | refine ev_aload_nN dL_acts_239 rfl ?_
    first | refine ev_aload_n dL_acts_240 rfl ?_ | refine ev_aload_nN dL_acts_240 rfl ?_
    refine ev_iload dL_acts_241 rfl ?_
    refine ev_S5K dL_acts_243 st_RL_112 na_L_pairs (Nat.le_of_ble_eq_true rfl) (Nat.le_of_ble_eq_true rfl) rfl rfl (ev2) ?_
    exact ev_zreturnE dL_acts_246 rfl (by first | exact Or.inl rfl | exact Or.inr rfl | assumption | exact z01 (bI_01 _) | exact z01 (by omega)) (by rfl)
  · obtain ⟨i, hi, ei⟩ := l_low y (N := made) q (by omega)
    obtain ⟨n', h', c, e, gc', ev, I', b1, b2, b3⟩ := ac_P (d := d) (x := x) (y := y) hn g v rs z r hgc hi hk hk2
    refine ⟨n', h', c, e, gc', ?_, I', b1, b2, b3⟩
    refine ev_iload dL_acts_9 rfl ?_
    refine ev_iconst dL_acts_11 ci4 ?_
    refine ev_icmp_geT (tgt := 59) dL_acts_12 (by decide) (by first | assumption | exact nI_le (by omega) (by omega) | decide) ?_
    refine ev_iload dL_acts_59 rfl ?_
    refine ev_iconst dL_acts_61 ci4 ?_
    refine ev_icmp_neT (tgt := 128) dL_acts_62 (by decide) (by first | assumption | exact n_ne (by omega) (by omega) (by omega) | decide) ?_
    refine ev_iload dL_acts_128 rfl ?_
    refine ev_bipush dL_acts_130 bp7 ?_
    refine ev_icmp_geT (tgt := 173) dL_acts_132 (by decide) (by first | assumption | exact nI_le (by omega) (by omega) | decide) ?_
    refine ev_iload dL_acts_173 rfl ?_
    refine ev_bipush dL_acts_175 bp7 ?_
    refine ev_icmp_neT (tgt := 231) dL_acts_177 (by decide) (by first | assumption | exact n_ne (by omega) (by omega) (by omega) | decide) ?_
    first | refine ev_aload_n dL_acts_231 rfl ?_ | refine ev_aload_nN dL_acts_231 rfl ?_
    refine ev_iconst dL_acts_232 ci2 ?_
    refine ev_iald dL_acts_233 (by repeat (first | assumption | exact up_s | refine (up_n (by omega)).trans ?_)) _ rfl (by omega) (by omega) ?_
    refine ev_if_neT (tgt := 247) dL_acts_234 (by decide) (by first | assumption | exact nI_ne0 (by omega) (by omega) | decide) ?_
    refine ev_iload dL_acts_247 rfl ?_
    first | refine ev_aload_n dL_acts_249 rfl ?_ | refine ev_aload_nN dL_acts_249 rfl ?_
    refine ev_iconst dL_acts_250 ci2 ?_
    refine ev_iald dL_acts_251 (by repeat (first | assumption | exact up_s | refine (up_n (by omega)).trans ?_)) _ rfl (by omega) (by omega) ?_
    refine ev_top (v2 := .int (nI made)) (congrArg (fun z => Value.int (nI z)) G2) ?_
    refine ev_S2 dL_acts_252 st_RL_90 na_L_low (Nat.le_of_ble_eq_true rfl) (Nat.le_of_ble_eq_true rfl) (ei _ _ _) ?_
    refine ev_istore dL_acts_255 (Nat.le_of_ble_eq_true rfl) ?_
    refine ev_sub ?_ (ev)
    repeat (first | exact trivial | refine ⟨rfl, ?_⟩)
theorem l_acts (I : LI L xs n h gc) (hgc : gc < 1000) (x y : Int32) : ∃ n' h' c e gc', Ev (d + 10) ML_acts 0 (lv_args 0 [.ref 2, .ref 31, .ref 32, .ref 33, .ref 34, .int x, .int y]) [] n h (.inl (some (.int (nI 1))), n', h', c, e) ∧ LI L xs n' h' gc' ∧ gc' ≤ gc + 1 ∧ c ≤ 10 ∧ e ≤ 90 := by
  obtain ⟨k, hk, ek⟩ := l_low x (N := 14) (by omega) (by omega)
  have K : ∃ n' h' c e gc', Ev (d + 10) ML_acts 9 [(0, .ref 2), (1, .ref 31), (2, .ref 32), (3, .ref 33), (4, .ref 34), (5, .int x), (6, .int y), (7, .int (nI k))] [] n h (.inl (some (.int (nI 1))), n', h', c, e) ∧ LI L xs n' h' gc' ∧ gc' ≤ gc + 1 ∧ c ≤ 10 ∧ e ≤ 90 := by
    rcases (show k < 4 ∨ k = 4 ∨ (k = 5 ∨ k = 6) ∨ k = 7 ∨ 8 ≤ k by omega) with q | q | q | q | q
    · exact ac_A I q
    · exact ac_B I q
    · exact ac_C I q
    · exact ac_D I q
    · exact ac_E I hgc q hk
  obtain ⟨n', h', c, e, gc', ev, I', b1, b2, b3⟩ := K
  refine ⟨n', h', c, e, gc', ?_, I', b1, b2, b3⟩
  refine ev_iload dL_acts_0 rfl ?_
  refine ev_bipush dL_acts_2 bp14 ?_
  refine ev_S2 dL_acts_4 st_RL_90 na_L_low (Nat.le_of_ble_eq_true rfl) (Nat.le_of_ble_eq_true rfl) (ek _ _ _) ?_
  refine ev_istore dL_acts_7 (Nat.le_of_ble_eq_true rfl) ?_
  refine ev_sub ?_ (ev)
  repeat (first | exact trivial | refine ⟨rfl, ?_⟩)
end LAC
