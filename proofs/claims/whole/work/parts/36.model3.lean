/-! the model: pair, weight, word, share -/
section MM3
variable {d n : Nat} {h h' : Hp} {made th : Nat} {t : Nat → Nat} {l : Nat → Nat → Nat} {w : Nat → Nat → Nat → Nat} {S : Nat → Nat → Nat} {W : Nat → Nat} {F : Nat → Nat}
def cpW (made : Nat) (dr wo : Nat → Nat) (k c : Nat) : Nat := if 16 * made ≤ c ∧ c < 16 * made + k then dr (c - 16 * made) else wo c
theorem cpW_step (made : Nat) (dr wo : Nat → Nat) (k : Nat) : va_up (cpW made dr wo k) (16 * made + k) (dr k) = cpW made dr wo (k + 1) := by
  funext c
  by_cases e : c = 16 * made + k
  · rw [e, up_sN]
    unfold cpW
    rw [if_pos (by omega), show 16 * made + k - 16 * made = k by omega]
  · rw [up_nN e]
    unfold cpW
    by_cases q : 16 * made ≤ c ∧ c < 16 * made + k
    · rw [if_pos q, if_pos (by omega)]
    · rw [if_neg q, if_neg (by omega)]
theorem cpW_0 (made : Nat) (dr wo : Nat → Nat) : cpW made dr wo 0 = wo := funext fun c => if_neg (by omega)
theorem lm_pr (g31 : h 31 = MO made F th) (hm : made < 20) {dr wo : Nat → Nat} (b2 : h 33 = aI 16 dr) {o9 : Out} (K : Ev (d + 1) MX10_pair 77 [(0, .ref 31), (1, .int (nI 16))] [] n (va_up h 35 (aI 320 (cpW made dr wo 16))) o9) :
    ∀ k i, i + k = 16 → Ev (d + 1) MX10_pair 45 [(0, .ref 31), (1, .int (nI i))] [] n (va_up h 35 (aI 320 (cpW made dr wo i))) o9 := by
  intro k
  induction k with
  | zero =>
    intro i hi
    have e : i = 16 := by omega
    subst e
    refine ev_iload_n dX10_pair_45 rfl ?_
    refine ev_bipush dX10_pair_46 bp16 ?_
    refine ev_icmp_geT (tgt := 77) dX10_pair_48 (by decide) (by first | assumption | exact nI_le (by omega) (by omega) | decide) ?_
    refine ev_sub ?_ (K)
    repeat (first | exact trivial | refine ⟨rfl, ?_⟩)
  | succ k ih =>
    intro i hi
    have ih := ih (i + 1) (by omega)
    refine ev_iload_n dX10_pair_45 rfl ?_
    refine ev_bipush dX10_pair_46 bp16 ?_
    refine ev_icmp_geF dX10_pair_48 77 (by decide) (by first | assumption | exact nI_ge (by omega) (by omega) | decide) ?_
    first | refine ev_aload_n dX10_pair_51 rfl ?_ | refine ev_aload_nN dX10_pair_51 rfl ?_
    refine ev_getfield dX10_pair_52 fl_RX10_19 (by repeat (first | assumption | exact up_s | refine (up_n (by omega)).trans ?_)) rfl ?_
    refine ev_bipush dX10_pair_55 bp16 ?_
    first | refine ev_aload_n dX10_pair_57 rfl ?_ | refine ev_aload_nN dX10_pair_57 rfl ?_
    refine ev_getfield dX10_pair_58 fl_RX10_52 (by repeat (first | assumption | exact up_s | refine (up_n (by omega)).trans ?_)) rfl ?_
    first | refine ev_imulN dX10_pair_61 ?_ | refine ev_imul dX10_pair_61 ?_
    refine ev_iload_n dX10_pair_62 rfl ?_
    first | refine ev_iaddN dX10_pair_63 ?_ | refine ev_iadd dX10_pair_63 ?_
    first | refine ev_aload_n dX10_pair_64 rfl ?_ | refine ev_aload_nN dX10_pair_64 rfl ?_
    refine ev_getfield dX10_pair_65 fl_RX10_13 (by repeat (first | assumption | exact up_s | refine (up_n (by omega)).trans ?_)) rfl ?_
    refine ev_iload_n dX10_pair_68 rfl ?_
    refine ev_iald dX10_pair_69 (by repeat (first | assumption | exact up_s | refine (up_n (by omega)).trans ?_)) _ rfl (by omega) (by omega) ?_
    refine ev_iast dX10_pair_70 (by omega) (by repeat (first | assumption | exact up_s | refine (up_n (by omega)).trans ?_)) _ _ rfl rfl (by omega) (by omega) ?_
    refine ev_iincN (b := 1) dX10_pair_71 rfl (Nat.le_of_ble_eq_true rfl) ?_
    refine ev_goto (tgt := 45) dX10_pair_74 (by decide) ?_
    refine ev_heap (up_u.trans (congrArg (fun f => va_up h 35 (aI 320 f)) (cpW_step made dr wo i))) ?_
    refine ev_sub ?_ (ih)
    repeat (first | exact trivial | refine ⟨rfl, ?_⟩)
theorem mm_pairT (q : WF made t l w S W) (g : MS h th made t l w S W) (h0 : 0 < l 0 made) (h1 : 0 < l 1 made) (hm : made < 20) : ∃ h', Ev (d + 1) MX10_pair 0 (lv_args 0 [.ref 31]) [] n h (.inl (some (.int (nI made))), n, h', 0, 0) ∧ MS h' 0 (made + 1) (va_up t made 1) (lN1 l made) (wN1 w made) S W ∧ Fm h h' := by
  obtain ⟨⟨F, g31⟩, ⟨dd, b1, c1⟩, ⟨dr, b2, c2⟩, ⟨lo, b3, c3⟩, ⟨wo, b4, c4⟩, ⟨go, b5, c5⟩, ⟨ww, b6, c6⟩, ⟨sh, b7, c7⟩, ⟨a8, b8⟩, ⟨a9, b9⟩, ⟨a10, b10⟩, ⟨a11, b11⟩, ⟨a12, b12⟩⟩ := g
  have d0 := c1 0 (by omega)
  have d1 := c1 1 (by omega)
  have m0 := q.2.2.1 0 made (by omega) (Nat.le_refl _)
  have m1 := q.2.2.1 1 made (by omega) (Nat.le_refl _)
  have G1 : va_up (va_up h 31 (MO made F 0)) 35 (aI 320 (cpW made dr wo 16)) 31 = MO made F 0 := (up_n (by omega)).trans up_s
  have e32 : va_up (va_up (va_up h 31 (MO made F 0)) 35 (aI 320 (cpW made dr wo 16))) 34 (aI 40 (va_up (va_up lo (2 * made) (dd 0)) (2 * made + 1) (dd 1))) 32 = aI 2 dd := (up_n (by omega)).trans ((up_n (by omega)).trans ((up_n (by omega)).trans b1))
  have e31 : va_up (va_up (va_up h 31 (MO made F 0)) 35 (aI 320 (cpW made dr wo 16))) 34 (aI 40 (va_up (va_up lo (2 * made) (dd 0)) (2 * made + 1) (dd 1))) 31 = MO made F 0 := (up_n (by omega)).trans G1
  have wi := mm_wipe0 (d := d) (n := n) e31 e32
  refine ⟨va_up (va_up (va_up (va_up (va_up (va_up h 31 (MO made F 0)) 35 (aI 320 (cpW made dr wo 16))) 34 (aI 40 (va_up (va_up lo (2 * made) (dd 0)) (2 * made + 1) (dd 1)))) 31 (MO made F 0)) 32 (aI 2 (va_up (va_up dd 0 0) 1 0))) 31 (MO (made + 1) F 0), ?_, ⟨⟨F, up_s⟩, ⟨_, (up_n (by omega)).trans up_s, fun D hD => ?_⟩, ⟨dr, ?_, fun D j hD hj => ?_⟩, ⟨va_up (va_up lo (2 * made) (dd 0)) (2 * made + 1) (dd 1), ?_, fun D i hD hi => ?_⟩, ⟨cpW made dr wo 16, ?_, fun D i j hD hi hj => ?_⟩, ⟨go, ?_, fun i hi => ?_⟩, ⟨ww, ?_, c6⟩, ⟨sh, ?_, c7⟩, ⟨a8, ?_⟩, ⟨a9, ?_⟩, ⟨a10, ?_⟩, ⟨a11, ?_⟩, ⟨a12, ?_⟩⟩, Fm_up (Fm_up (Fm_up (Fm_up (Fm_up (Fm_up Fm_rfl (by omega)) (by omega)) (by omega)) (by omega)) (by omega)) (by omega)⟩
  · first | refine ev_aload_n dX10_pair_0 rfl ?_ | refine ev_aload_nN dX10_pair_0 rfl ?_
    first | refine ev_aload_n dX10_pair_1 rfl ?_ | refine ev_aload_nN dX10_pair_1 rfl ?_
    refine ev_getfield dX10_pair_2 fl_RX10_7 (by repeat (first | assumption | exact up_s | refine (up_n (by omega)).trans ?_)) rfl ?_
    refine ev_iconst dX10_pair_5 ci0 ?_
    refine ev_iald dX10_pair_6 (by repeat (first | assumption | exact up_s | refine (up_n (by omega)).trans ?_)) _ rfl (by omega) (by omega) ?_
    refine ev_if_leF dX10_pair_7 32 (by decide) (by first | assumption | exact nI_nle (by omega) (by omega) | decide) ?_
    first | refine ev_aload_n dX10_pair_10 rfl ?_ | refine ev_aload_nN dX10_pair_10 rfl ?_
    refine ev_getfield dX10_pair_11 fl_RX10_7 (by repeat (first | assumption | exact up_s | refine (up_n (by omega)).trans ?_)) rfl ?_
    refine ev_iconst dX10_pair_14 ci1 ?_
    refine ev_iald dX10_pair_15 (by repeat (first | assumption | exact up_s | refine (up_n (by omega)).trans ?_)) _ rfl (by omega) (by omega) ?_
    refine ev_if_leF dX10_pair_16 32 (by decide) (by first | assumption | exact nI_nle (by omega) (by omega) | decide) ?_
    first | refine ev_aload_n dX10_pair_19 rfl ?_ | refine ev_aload_nN dX10_pair_19 rfl ?_
    refine ev_getfield dX10_pair_20 fl_RX10_52 (by repeat (first | assumption | exact up_s | refine (up_n (by omega)).trans ?_)) rfl ?_
    refine ev_bipush dX10_pair_23 bp20 ?_
    refine ev_icmp_geF dX10_pair_25 32 (by decide) (by first | assumption | exact nI_ge (by omega) (by omega) | decide) ?_
    refine ev_iconst dX10_pair_28 ci1 ?_
    refine ev_goto (tgt := 33) dX10_pair_29 (by decide) ?_
    refine ev_iconst dX10_pair_33 ci1 ?_
    refine ev_iconst dX10_pair_34 ci1 ?_
    refine ev_V3 dX10_pair_35 st_RX10_59 na_X10_goes (Nat.le_of_ble_eq_true rfl) (Nat.le_of_ble_eq_true rfl) (by repeat (first | assumption | exact up_s | refine (up_n (by omega)).trans ?_)) rfl (mm_goesT g31) ?_
    refine ev_if_neT (tgt := 43) dX10_pair_38 (by decide) (by first | assumption | exact nI_ne0 (by omega) (by omega) | decide) ?_
    refine ev_iconst dX10_pair_43 ci0 ?_
    refine ev_istore_n dX10_pair_44 (Nat.le_of_ble_eq_true rfl) ?_
    refine ev_heap (h2 := va_up (va_up h 31 (MO made F 0)) 35 (aI 320 (cpW made dr wo 0))) (by rw [cpW_0]; exact (up_id ((up_n (by omega)).trans b4)).symm) ?_
    refine ev_sub ?_ (lm_pr (F := F) (th := 0) up_s hm ((up_n (by omega)).trans b2) ?_ 16 0 (by omega))
    · repeat (first | exact trivial | refine ⟨rfl, ?_⟩)
    · first | refine ev_aload_n dX10_pair_77 rfl ?_ | refine ev_aload_nN dX10_pair_77 rfl ?_
      refine ev_getfield dX10_pair_78 fl_RX10_16 (by repeat (first | assumption | exact up_s | refine (up_n (by omega)).trans ?_)) rfl ?_
      refine ev_iconst dX10_pair_81 ci2 ?_
      first | refine ev_aload_n dX10_pair_82 rfl ?_ | refine ev_aload_nN dX10_pair_82 rfl ?_
      refine ev_getfield dX10_pair_83 fl_RX10_52 (by repeat (first | assumption | exact up_s | refine (up_n (by omega)).trans ?_)) rfl ?_
      first | refine ev_imulN dX10_pair_86 ?_ | refine ev_imul dX10_pair_86 ?_
      first | refine ev_aload_n dX10_pair_87 rfl ?_ | refine ev_aload_nN dX10_pair_87 rfl ?_
      refine ev_getfield dX10_pair_88 fl_RX10_7 (by repeat (first | assumption | exact up_s | refine (up_n (by omega)).trans ?_)) rfl ?_
      refine ev_iconst dX10_pair_91 ci0 ?_
      refine ev_iald dX10_pair_92 (by repeat (first | assumption | exact up_s | refine (up_n (by omega)).trans ?_)) _ rfl (by omega) (by omega) ?_
      refine ev_iast dX10_pair_93 (by omega) (by repeat (first | assumption | exact up_s | refine (up_n (by omega)).trans ?_)) _ _ rfl rfl (by omega) (by omega) ?_
      first | refine ev_aload_n dX10_pair_94 rfl ?_ | refine ev_aload_nN dX10_pair_94 rfl ?_
      refine ev_getfield dX10_pair_95 fl_RX10_16 (by repeat (first | assumption | exact up_s | refine (up_n (by omega)).trans ?_)) rfl ?_
      refine ev_iconst dX10_pair_98 ci2 ?_
      first | refine ev_aload_n dX10_pair_99 rfl ?_ | refine ev_aload_nN dX10_pair_99 rfl ?_
      refine ev_getfield dX10_pair_100 fl_RX10_52 (by repeat (first | assumption | exact up_s | refine (up_n (by omega)).trans ?_)) rfl ?_
      first | refine ev_imulN dX10_pair_103 ?_ | refine ev_imul dX10_pair_103 ?_
      refine ev_iconst dX10_pair_104 ci1 ?_
      first | refine ev_iaddN dX10_pair_105 ?_ | refine ev_iadd dX10_pair_105 ?_
      first | refine ev_aload_n dX10_pair_106 rfl ?_ | refine ev_aload_nN dX10_pair_106 rfl ?_
      refine ev_getfield dX10_pair_107 fl_RX10_7 (by repeat (first | assumption | exact up_s | refine (up_n (by omega)).trans ?_)) rfl ?_
      refine ev_iconst dX10_pair_110 ci1 ?_
      refine ev_iald dX10_pair_111 (by repeat (first | assumption | exact up_s | refine (up_n (by omega)).trans ?_)) _ rfl (by omega) (by omega) ?_
      refine ev_iast dX10_pair_112 (by omega) (by repeat (first | assumption | exact up_s | refine (up_n (by omega)).trans ?_)) _ _ rfl rfl (by omega) (by omega) ?_
      first | refine ev_aload_n dX10_pair_113 rfl ?_ | refine ev_aload_nN dX10_pair_113 rfl ?_
      refine ev_heap (h2 := va_up (va_up (va_up h 31 (MO made F 0)) 35 (aI 320 (cpW made dr wo 16))) 34 (aI 40 (va_up (va_up lo (2 * made) (dd 0)) (2 * made + 1) (dd 1)))) up_u ?_
      refine ev_V0 dX10_pair_114 st_RX10_63 na_X10_wipe (Nat.le_of_ble_eq_true rfl) (Nat.le_of_ble_eq_true rfl) (by repeat (first | assumption | exact up_s | refine (up_n (by omega)).trans ?_)) rfl (wi) ?_
      refine ev_istore_n dX10_pair_117 (Nat.le_of_ble_eq_true rfl) ?_
      first | refine ev_aload_n dX10_pair_118 rfl ?_ | refine ev_aload_nN dX10_pair_118 rfl ?_
      refine ev_dup dX10_pair_119 rfl ?_
      refine ev_getfield dX10_pair_120 fl_RX10_52 (by repeat (first | assumption | exact up_s | refine (up_n (by omega)).trans ?_)) rfl ?_
      refine ev_iconst dX10_pair_123 ci1 ?_
      first | refine ev_iaddN dX10_pair_124 ?_ | refine ev_iadd dX10_pair_124 ?_
      refine ev_putfield dX10_pair_125 fl_RX10_52 (fit_10_2 _) (fun q => absurd q (by decide)) (by repeat (first | assumption | exact up_s | refine (up_n (by omega)).trans ?_)) (Nat.le_of_ble_eq_true rfl) ?_
      first | refine ev_aload_n dX10_pair_128 rfl ?_ | refine ev_aload_nN dX10_pair_128 rfl ?_
      refine ev_getfield dX10_pair_129 fl_RX10_52 (by repeat (first | assumption | exact up_s | refine (up_n (by omega)).trans ?_)) rfl ?_
      refine ev_iconst dX10_pair_132 ci1 ?_
      first | refine ev_isubN dX10_pair_133 (by omega) ?_ | refine ev_isub dX10_pair_133 ?_
      exact ev_ireturnE dX10_pair_134 rfl (by rfl)
  · rw [show lN1 l made D (made + 1) = 0 from if_pos rfl]
    rcases (show D = 0 ∨ D = 1 by omega) with rfl | rfl <;> simp [va_up]
  · repeat (first | assumption | exact up_s | refine (up_n (by omega)).trans ?_)
  · rw [show lN1 l made D (made + 1) = 0 from if_pos rfl] at hj
    exact absurd hj (Nat.not_lt_zero _)
  · repeat (first | assumption | exact up_s | refine (up_n (by omega)).trans ?_)
  · rw [show lN1 l made D i = l D i from if_neg (by omega)]
    by_cases e : i = made
    · subst e
      rcases (show D = 0 ∨ D = 1 by omega) with rfl | rfl
      · rw [up_nN (by omega), show 2 * i + 0 = 2 * i from rfl, up_sN]; exact d0
      · rw [up_sN]; exact d1
    · rw [up_nN (by omega), up_nN (by omega)]; exact c3 D i hD (by omega)
  · repeat (first | assumption | exact up_s | refine (up_n (by omega)).trans ?_)
  · rw [show wN1 w made D i = w D i from if_neg (by omega)]
    rw [show lN1 l made D i = l D i from if_neg (by omega)] at hj
    have := q.2.2.1 D i hD (by omega)
    unfold cpW
    by_cases e : i = made
    · subst e
      rw [if_pos (by omega), show 16 * i + 8 * D + j - 16 * i = 8 * D + j by omega]
      exact c2 D j hD hj
    · rw [if_neg (by omega)]; exact c4 D i j hD (by omega) hj
  · repeat (first | assumption | exact up_s | refine (up_n (by omega)).trans ?_)
  · rw [c5 i hi]
    by_cases e : i = made
    · subst e
      rw [up_sN, if_neg (by omega), if_neg (by omega)]
    · rw [up_nN e]
      by_cases e2 : i < made
      · by_cases e3 : t i = 0
        · rw [if_pos ⟨e2, e3⟩, if_pos ⟨by omega, e3⟩]
        · rw [if_neg (fun c => e3 c.2), if_neg (fun c => e3 c.2)]
      · rw [if_neg (by omega), if_neg (by omega)]
  · repeat (first | assumption | exact up_s | refine (up_n (by omega)).trans ?_)
  · repeat (first | assumption | exact up_s | refine (up_n (by omega)).trans ?_)
  · repeat (first | assumption | exact up_s | refine (up_n (by omega)).trans ?_)
  · repeat (first | assumption | exact up_s | refine (up_n (by omega)).trans ?_)
  · repeat (first | assumption | exact up_s | refine (up_n (by omega)).trans ?_)
  · repeat (first | assumption | exact up_s | refine (up_n (by omega)).trans ?_)
  · repeat (first | assumption | exact up_s | refine (up_n (by omega)).trans ?_)
theorem mm_pair1 (q : WF made t l w S W) (g : MS h th made t l w S W) (hx : l 0 made = 0 ∨ l 1 made = 0 ∨ 20 ≤ made) : ∃ h' v, Ev (d + 1) MX10_pair 0 (lv_args 0 [.ref 31]) [] n h (.inl (some (.int v)), n, h', 0, 0) ∧ MS h' 1 made t l w S W ∧ Fm h h' := by
  obtain ⟨⟨F, g31⟩, ga⟩ := g
  obtain ⟨dd, b1, c1⟩ := ga.1
  have d0 := c1 0 (by omega)
  have d1 := c1 1 (by omega)
  have m0 := q.2.2.1 0 made (by omega) (Nat.le_refl _)
  have m1 := q.2.2.1 1 made (by omega) (Nat.le_refl _)
  have hm := q.1
  refine ⟨va_up h 31 (MO made F 1), nI 0, ?_, ⟨⟨F, up_s⟩, MA_31 ga⟩, Fm_up Fm_rfl (by omega)⟩
  by_cases q0 : l 0 made = 0
  · first | refine ev_aload_n dX10_pair_0 rfl ?_ | refine ev_aload_nN dX10_pair_0 rfl ?_
    first | refine ev_aload_n dX10_pair_1 rfl ?_ | refine ev_aload_nN dX10_pair_1 rfl ?_
    refine ev_getfield dX10_pair_2 fl_RX10_7 (by repeat (first | assumption | exact up_s | refine (up_n (by omega)).trans ?_)) rfl ?_
    refine ev_iconst dX10_pair_5 ci0 ?_
    refine ev_iald dX10_pair_6 (by repeat (first | assumption | exact up_s | refine (up_n (by omega)).trans ?_)) _ rfl (by omega) (by omega) ?_
    refine ev_if_leT (tgt := 32) dX10_pair_7 (by decide) (by first | assumption | exact z_le (by omega) | decide) ?_
    refine ev_iconst dX10_pair_32 ci0 ?_
    refine ev_iconst dX10_pair_33 ci1 ?_
    refine ev_iconst dX10_pair_34 ci1 ?_
    refine ev_V3 dX10_pair_35 st_RX10_59 na_X10_goes (Nat.le_of_ble_eq_true rfl) (Nat.le_of_ble_eq_true rfl) (by repeat (first | assumption | exact up_s | refine (up_n (by omega)).trans ?_)) rfl (mm_goes1 g31) ?_
    refine ev_if_neF dX10_pair_38 43 (by decide) (by first | assumption | exact z_eq (by omega) | decide) ?_
    refine ev_iconst dX10_pair_41 ci0 ?_
    exact ev_ireturnE dX10_pair_42 rfl (by rfl)
  · by_cases q1 : l 1 made = 0
    · first | refine ev_aload_n dX10_pair_0 rfl ?_ | refine ev_aload_nN dX10_pair_0 rfl ?_
      first | refine ev_aload_n dX10_pair_1 rfl ?_ | refine ev_aload_nN dX10_pair_1 rfl ?_
      refine ev_getfield dX10_pair_2 fl_RX10_7 (by repeat (first | assumption | exact up_s | refine (up_n (by omega)).trans ?_)) rfl ?_
      refine ev_iconst dX10_pair_5 ci0 ?_
      refine ev_iald dX10_pair_6 (by repeat (first | assumption | exact up_s | refine (up_n (by omega)).trans ?_)) _ rfl (by omega) (by omega) ?_
      refine ev_if_leF dX10_pair_7 32 (by decide) (by first | assumption | exact nI_nle (by omega) (by omega) | decide) ?_
      first | refine ev_aload_n dX10_pair_10 rfl ?_ | refine ev_aload_nN dX10_pair_10 rfl ?_
      refine ev_getfield dX10_pair_11 fl_RX10_7 (by repeat (first | assumption | exact up_s | refine (up_n (by omega)).trans ?_)) rfl ?_
      refine ev_iconst dX10_pair_14 ci1 ?_
      refine ev_iald dX10_pair_15 (by repeat (first | assumption | exact up_s | refine (up_n (by omega)).trans ?_)) _ rfl (by omega) (by omega) ?_
      refine ev_if_leT (tgt := 32) dX10_pair_16 (by decide) (by first | assumption | exact z_le (by omega) | decide) ?_
      refine ev_iconst dX10_pair_32 ci0 ?_
      refine ev_iconst dX10_pair_33 ci1 ?_
      refine ev_iconst dX10_pair_34 ci1 ?_
      refine ev_V3 dX10_pair_35 st_RX10_59 na_X10_goes (Nat.le_of_ble_eq_true rfl) (Nat.le_of_ble_eq_true rfl) (by repeat (first | assumption | exact up_s | refine (up_n (by omega)).trans ?_)) rfl (mm_goes1 g31) ?_
      refine ev_if_neF dX10_pair_38 43 (by decide) (by first | assumption | exact z_eq (by omega) | decide) ?_
      refine ev_iconst dX10_pair_41 ci0 ?_
      exact ev_ireturnE dX10_pair_42 rfl (by rfl)
    · first | refine ev_aload_n dX10_pair_0 rfl ?_ | refine ev_aload_nN dX10_pair_0 rfl ?_
      first | refine ev_aload_n dX10_pair_1 rfl ?_ | refine ev_aload_nN dX10_pair_1 rfl ?_
      refine ev_getfield dX10_pair_2 fl_RX10_7 (by repeat (first | assumption | exact up_s | refine (up_n (by omega)).trans ?_)) rfl ?_
      refine ev_iconst dX10_pair_5 ci0 ?_
      refine ev_iald dX10_pair_6 (by repeat (first | assumption | exact up_s | refine (up_n (by omega)).trans ?_)) _ rfl (by omega) (by omega) ?_
      refine ev_if_leF dX10_pair_7 32 (by decide) (by first | assumption | exact nI_nle (by omega) (by omega) | decide) ?_
      first | refine ev_aload_n dX10_pair_10 rfl ?_ | refine ev_aload_nN dX10_pair_10 rfl ?_
      refine ev_getfield dX10_pair_11 fl_RX10_7 (by repeat (first | assumption | exact up_s | refine (up_n (by omega)).trans ?_)) rfl ?_
      refine ev_iconst dX10_pair_14 ci1 ?_
      refine ev_iald dX10_pair_15 (by repeat (first | assumption | exact up_s | refine (up_n (by omega)).trans ?_)) _ rfl (by omega) (by omega) ?_
      refine ev_if_leF dX10_pair_16 32 (by decide) (by first | assumption | exact nI_nle (by omega) (by omega) | decide) ?_
      first | refine ev_aload_n dX10_pair_19 rfl ?_ | refine ev_aload_nN dX10_pair_19 rfl ?_
      refine ev_getfield dX10_pair_20 fl_RX10_52 (by repeat (first | assumption | exact up_s | refine (up_n (by omega)).trans ?_)) rfl ?_
      refine ev_bipush dX10_pair_23 bp20 ?_
      refine ev_icmp_geT (tgt := 32) dX10_pair_25 (by decide) (by first | assumption | exact nI_le (by omega) (by omega) | decide) ?_
      refine ev_iconst dX10_pair_32 ci0 ?_
      refine ev_iconst dX10_pair_33 ci1 ?_
      refine ev_iconst dX10_pair_34 ci1 ?_
      refine ev_V3 dX10_pair_35 st_RX10_59 na_X10_goes (Nat.le_of_ble_eq_true rfl) (Nat.le_of_ble_eq_true rfl) (by repeat (first | assumption | exact up_s | refine (up_n (by omega)).trans ?_)) rfl (mm_goes1 g31) ?_
      refine ev_if_neF dX10_pair_38 43 (by decide) (by first | assumption | exact z_eq (by omega) | decide) ?_
      refine ev_iconst dX10_pair_41 ci0 ?_
      exact ev_ireturnE dX10_pair_42 rfl (by rfl)
theorem mm_weightT (g : MS h th made t l w S W) {k v : Nat} (hk : k < 5) (hv : v < 10) : ∃ h', Ev (d + 1) MX10_weight 0 (lv_args 0 [.ref 31, .int (nI k), .int (nI v)]) [] n h (.inl (some (.int (nI (W k)))), n, h', 0, 0) ∧ MS h' 0 made t l w S (va_up W k v) ∧ Fm h h' := by
  obtain ⟨⟨F, g31⟩, ⟨a1, b1, c1⟩, ⟨a2, b2, c2⟩, ⟨a3, b3, c3⟩, ⟨a4, b4, c4⟩, ⟨a5, b5, c5⟩, ⟨ww, b6, c6⟩, ⟨a7, b7, c7⟩, ⟨a8, b8⟩, ⟨a9, b9⟩, ⟨a10, b10⟩, ⟨a11, b11⟩, ⟨a12, b12⟩⟩ := g
  have ck := c6 k hk
  refine ⟨va_up (va_up h 31 (MO made F 0)) 37 (aI 5 (va_up ww k v)), ?_, ⟨⟨F, (up_n (by omega)).trans up_s⟩, ⟨a1, (up_n (by omega)).trans ((up_n (by omega)).trans b1), c1⟩, ⟨a2, (up_n (by omega)).trans ((up_n (by omega)).trans b2), c2⟩, ⟨a3, (up_n (by omega)).trans ((up_n (by omega)).trans b3), c3⟩, ⟨a4, (up_n (by omega)).trans ((up_n (by omega)).trans b4), c4⟩, ⟨a5, (up_n (by omega)).trans ((up_n (by omega)).trans b5), c5⟩, ⟨_, up_s, fun j hj => ?_⟩, ⟨a7, (up_n (by omega)).trans ((up_n (by omega)).trans b7), c7⟩, ⟨a8, (up_n (by omega)).trans ((up_n (by omega)).trans b8)⟩, ⟨a9, (up_n (by omega)).trans ((up_n (by omega)).trans b9)⟩, ⟨a10, (up_n (by omega)).trans ((up_n (by omega)).trans b10)⟩, ⟨a11, (up_n (by omega)).trans ((up_n (by omega)).trans b11)⟩, ⟨a12, (up_n (by omega)).trans ((up_n (by omega)).trans b12)⟩⟩, Fm_up (Fm_up Fm_rfl (by omega)) (by omega)⟩
  · rw [← ck]
    first | refine ev_aload_n dX10_weight_0 rfl ?_ | refine ev_aload_nN dX10_weight_0 rfl ?_
    refine ev_iload_n dX10_weight_1 rfl ?_
    refine ev_iconst dX10_weight_2 ci0 ?_
    refine ev_iconst dX10_weight_3 ci4 ?_
    refine ev_S3 dX10_weight_4 st_RX10_55 na_X10_in (Nat.le_of_ble_eq_true rfl) (Nat.le_of_ble_eq_true rfl) (mm_inT (by omega) (show k ≤ 4 by omega) (by omega)) ?_
    refine ev_iload_n dX10_weight_7 rfl ?_
    refine ev_iconst dX10_weight_8 ci0 ?_
    refine ev_bipush dX10_weight_9 bp9 ?_
    refine ev_S3 dX10_weight_11 st_RX10_55 na_X10_in (Nat.le_of_ble_eq_true rfl) (Nat.le_of_ble_eq_true rfl) (mm_inT (by omega) (show v ≤ 9 by omega) (by omega)) ?_
    refine ev_iconst dX10_weight_14 ci1 ?_
    refine ev_V3 dX10_weight_15 st_RX10_59 na_X10_goes (Nat.le_of_ble_eq_true rfl) (Nat.le_of_ble_eq_true rfl) (by repeat (first | assumption | exact up_s | refine (up_n (by omega)).trans ?_)) rfl (mm_goesT g31) ?_
    refine ev_if_neT (tgt := 23) dX10_weight_18 (by decide) (by first | assumption | exact nI_ne0 (by omega) (by omega) | decide) ?_
    first | refine ev_aload_n dX10_weight_23 rfl ?_ | refine ev_aload_nN dX10_weight_23 rfl ?_
    refine ev_getfield dX10_weight_24 fl_RX10_26 (by repeat (first | assumption | exact up_s | refine (up_n (by omega)).trans ?_)) rfl ?_
    refine ev_iload_n dX10_weight_27 rfl ?_
    refine ev_iald dX10_weight_28 (by repeat (first | assumption | exact up_s | refine (up_n (by omega)).trans ?_)) _ rfl (by omega) (by omega) ?_
    refine ev_istore_n dX10_weight_29 (Nat.le_of_ble_eq_true rfl) ?_
    first | refine ev_aload_n dX10_weight_30 rfl ?_ | refine ev_aload_nN dX10_weight_30 rfl ?_
    refine ev_getfield dX10_weight_31 fl_RX10_26 (by repeat (first | assumption | exact up_s | refine (up_n (by omega)).trans ?_)) rfl ?_
    refine ev_iload_n dX10_weight_34 rfl ?_
    refine ev_iload_n dX10_weight_35 rfl ?_
    refine ev_iast dX10_weight_36 (by omega) (by repeat (first | assumption | exact up_s | refine (up_n (by omega)).trans ?_)) _ _ rfl rfl (by omega) (by omega) ?_
    refine ev_iload_n dX10_weight_37 rfl ?_
    exact ev_ireturnE dX10_weight_38 rfl (by rfl)
  · unfold va_up
    split
    · rfl
    · exact c6 j hj
theorem mm_weight1 (g : MS h th made t l w S W) {x y : Int32} (hx : ¬ inN x 5) : ∃ h' v, Ev (d + 1) MX10_weight 0 (lv_args 0 [.ref 31, .int x, .int y]) [] n h (.inl (some (.int v)), n, h', 0, 0) ∧ MS h' 1 made t l w S W ∧ Fm h h' := by
  obtain ⟨⟨F, g31⟩, ga⟩ := g
  refine ⟨va_up h 31 (MO made F 1), nI 0, ?_, ⟨⟨F, up_s⟩, MA_31 ga⟩, Fm_up Fm_rfl (by omega)⟩
  by_cases q : inN y 10
  · obtain ⟨v, hv, rfl⟩ := q
    first | refine ev_aload_n dX10_weight_0 rfl ?_ | refine ev_aload_nN dX10_weight_0 rfl ?_
    refine ev_iload_n dX10_weight_1 rfl ?_
    refine ev_iconst dX10_weight_2 ci0 ?_
    refine ev_iconst dX10_weight_3 ci4 ?_
    refine ev_S3 dX10_weight_4 st_RX10_55 na_X10_in (Nat.le_of_ble_eq_true rfl) (Nat.le_of_ble_eq_true rfl) (mm_inF (N := 5) (by omega) (by omega) hx) ?_
    refine ev_iload_n dX10_weight_7 rfl ?_
    refine ev_iconst dX10_weight_8 ci0 ?_
    refine ev_bipush dX10_weight_9 bp9 ?_
    refine ev_S3 dX10_weight_11 st_RX10_55 na_X10_in (Nat.le_of_ble_eq_true rfl) (Nat.le_of_ble_eq_true rfl) (mm_inT (by omega) (show v ≤ 9 by omega) (by omega)) ?_
    refine ev_iconst dX10_weight_14 ci1 ?_
    refine ev_V3 dX10_weight_15 st_RX10_59 na_X10_goes (Nat.le_of_ble_eq_true rfl) (Nat.le_of_ble_eq_true rfl) (by repeat (first | assumption | exact up_s | refine (up_n (by omega)).trans ?_)) rfl (mm_goes1 g31) ?_
    refine ev_if_neF dX10_weight_18 23 (by decide) (by first | assumption | exact z_eq (by omega) | decide) ?_
    refine ev_iconst dX10_weight_21 ci0 ?_
    exact ev_ireturnE dX10_weight_22 rfl (by rfl)
  · first | refine ev_aload_n dX10_weight_0 rfl ?_ | refine ev_aload_nN dX10_weight_0 rfl ?_
    refine ev_iload_n dX10_weight_1 rfl ?_
    refine ev_iconst dX10_weight_2 ci0 ?_
    refine ev_iconst dX10_weight_3 ci4 ?_
    refine ev_S3 dX10_weight_4 st_RX10_55 na_X10_in (Nat.le_of_ble_eq_true rfl) (Nat.le_of_ble_eq_true rfl) (mm_inF (N := 5) (by omega) (by omega) hx) ?_
    refine ev_iload_n dX10_weight_7 rfl ?_
    refine ev_iconst dX10_weight_8 ci0 ?_
    refine ev_bipush dX10_weight_9 bp9 ?_
    refine ev_S3 dX10_weight_11 st_RX10_55 na_X10_in (Nat.le_of_ble_eq_true rfl) (Nat.le_of_ble_eq_true rfl) (mm_inF (N := 10) (by omega) (by omega) q) ?_
    refine ev_iconst dX10_weight_14 ci1 ?_
    refine ev_V3 dX10_weight_15 st_RX10_59 na_X10_goes (Nat.le_of_ble_eq_true rfl) (Nat.le_of_ble_eq_true rfl) (by repeat (first | assumption | exact up_s | refine (up_n (by omega)).trans ?_)) rfl (mm_goes1 g31) ?_
    refine ev_if_neF dX10_weight_18 23 (by decide) (by first | assumption | exact z_eq (by omega) | decide) ?_
    refine ev_iconst dX10_weight_21 ci0 ?_
    exact ev_ireturnE dX10_weight_22 rfl (by rfl)
theorem mm_weight2 (g : MS h th made t l w S W) {k : Nat} {y : Int32} (hk : k < 5) (hy : ¬ inN y 10) : ∃ h' v, Ev (d + 1) MX10_weight 0 (lv_args 0 [.ref 31, .int (nI k), .int y]) [] n h (.inl (some (.int v)), n, h', 0, 0) ∧ MS h' 2 made t l w S W ∧ Fm h h' := by
  obtain ⟨⟨F, g31⟩, ga⟩ := g
  refine ⟨va_up h 31 (MO made F 2), nI 0, ?_, ⟨⟨F, up_s⟩, MA_31 ga⟩, Fm_up Fm_rfl (by omega)⟩
  first | refine ev_aload_n dX10_weight_0 rfl ?_ | refine ev_aload_nN dX10_weight_0 rfl ?_
  refine ev_iload_n dX10_weight_1 rfl ?_
  refine ev_iconst dX10_weight_2 ci0 ?_
  refine ev_iconst dX10_weight_3 ci4 ?_
  refine ev_S3 dX10_weight_4 st_RX10_55 na_X10_in (Nat.le_of_ble_eq_true rfl) (Nat.le_of_ble_eq_true rfl) (mm_inT (by omega) (show k ≤ 4 by omega) (by omega)) ?_
  refine ev_iload_n dX10_weight_7 rfl ?_
  refine ev_iconst dX10_weight_8 ci0 ?_
  refine ev_bipush dX10_weight_9 bp9 ?_
  refine ev_S3 dX10_weight_11 st_RX10_55 na_X10_in (Nat.le_of_ble_eq_true rfl) (Nat.le_of_ble_eq_true rfl) (mm_inF (N := 10) (by omega) (by omega) hy) ?_
  refine ev_iconst dX10_weight_14 ci1 ?_
  refine ev_V3 dX10_weight_15 st_RX10_59 na_X10_goes (Nat.le_of_ble_eq_true rfl) (Nat.le_of_ble_eq_true rfl) (by repeat (first | assumption | exact up_s | refine (up_n (by omega)).trans ?_)) rfl (mm_goes2 g31) ?_
  refine ev_if_neF dX10_weight_18 23 (by decide) (by first | assumption | exact z_eq (by omega) | decide) ?_
  refine ev_iconst dX10_weight_21 ci0 ?_
  exact ev_ireturnE dX10_weight_22 rfl (by rfl)
end MM3
