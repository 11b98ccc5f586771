/-! the model: phrases of a pair -/
section MJ
variable {d n : Nat} {h h' : Hp} {made th : Nat} {t : Nat → Nat} {l : Nat → Nat → Nat} {w : Nat → Nat → Nat → Nat} {S : Nat → Nat → Nat} {W : Nat → Nat} {F : Nat → Nat} {J R : Nat → Nat} {l0 l1 i9 : Nat} {wt : Int32}
/-- the model with what was met -/
abbrev MX (h : Hp) (made : Nat) (s : Nat × (Nat → Nat)) (th : Nat) : Hp := va_up h 31 (MO made s.2 th)
theorem lm_mD (hJ : ∀ i, J i < 256) (hz : ∀ i, l0 ≤ i → J i = 0) (hl0 : l0 ≤ 8) (hl1 : l1 ≤ 8) (g43 : h 43 = aZ 64 (cut J R)) {a b c : Nat} (ha : a < 8) (hb : b < 8) (hc : c < l1) {s : Nat × (Nat → Nat)} {o9 : Out} :
    ∀ k i, i + k = min (c + 4) l1 - c →
    (Ev (d + 2) MX10_meets 179 [(0, .ref 31), (1, .int (nI i9)), (2, .int wt), (3, .int (nI (pC (isPh J l0) wt l1 a b c s).1)), (4, .int (nI l0)), (5, .int (nI l1)), (6, .int (nI a)), (7, .int (nI b)), (8, .int (nI c))] [] n (MX h made (pC (isPh J l0) wt l1 a b c s) th) o9) →
    Ev (d + 2) MX10_meets 67 [(0, .ref 31), (1, .int (nI i9)), (2, .int wt), (3, .int (nI (fo (pD (isPh J l0) wt a b c) c s i).1)), (4, .int (nI l0)), (5, .int (nI l1)), (6, .int (nI a)), (7, .int (nI b)), (8, .int (nI c)), (9, .int (nI (c + i)))] [] n (MX h made (fo (pD (isPh J l0) wt a b c) c s i) th) o9 := by
  intro k
  induction k with
  | zero =>
    intro i hi K
    have e2 : i = min (c + 4) l1 - c := by omega
    have K : Ev (d + 2) MX10_meets 179 [(0, .ref 31), (1, .int (nI i9)), (2, .int wt), (3, .int (nI (fo (pD (isPh J l0) wt a b c) c s i).1)), (4, .int (nI l0)), (5, .int (nI l1)), (6, .int (nI a)), (7, .int (nI b)), (8, .int (nI c))] [] n (MX h made (fo (pD (isPh J l0) wt a b c) c s i) th) o9 := by rw [e2]; exact K
    by_cases z : l1 ≤ c + i
    · refine ev_iload dX10_meets_67 rfl ?_
      refine ev_iload dX10_meets_69 rfl ?_
      refine ev_icmp_geT (tgt := 179) dX10_meets_71 (by decide) (by first | assumption | exact nI_le (by omega) (by omega) | decide) ?_
      refine ev_sub ?_ (K)
      repeat (first | exact trivial | refine ⟨rfl, ?_⟩)
    · refine ev_iload dX10_meets_67 rfl ?_
      refine ev_iload dX10_meets_69 rfl ?_
      refine ev_icmp_geF dX10_meets_71 179 (by decide) (by first | assumption | exact nI_ge (by omega) (by omega) | decide) ?_
      refine ev_iload dX10_meets_74 rfl ?_
      refine ev_iload dX10_meets_76 rfl ?_
      refine ev_iconst dX10_meets_78 ci4 ?_
      first | refine ev_iaddN dX10_meets_79 ?_ | refine ev_iadd dX10_meets_79 ?_
      refine ev_icmp_geT (tgt := 179) dX10_meets_80 (by decide) (by first | assumption | exact nI_le (by omega) (by omega) | decide) ?_
      refine ev_sub ?_ (K)
      repeat (first | exact trivial | refine ⟨rfl, ?_⟩)
  | succ k ih =>
    intro i hi K
    have ih := ih (i + 1) (by omega) K
    clear K
    have ip := mm_isPhrase (d := d) (n := n) (h := MX h made (fo (pD (isPh J l0) wt a b c) c s i) th) (F := (fo (pD (isPh J l0) wt a b c) c s i).2) (th := th) (made := made) (R := R) hJ hz hl0 up_s ((up_n (by omega)).trans g43) ha hb (show c ≤ c + i by omega) (show c + i < 8 by omega)
    have es : fo (pD (isPh J l0) wt a b c) c s (i + 1) = pD (isPh J l0) wt a b c (c + i) (fo (pD (isPh J l0) wt a b c) c s i) := rfl
    rw [es] at ih
    clear es
    generalize fo (pD (isPh J l0) wt a b c) c s i = y at ih ip ⊢
    obtain ⟨m, f⟩ := y
    by_cases q : isPh J l0 a b c (c + i) = true
    · rw [bI_t q] at ip
      by_cases q2 : nI m = wt
      · rw [show pD (isPh J l0) wt a b c (c + i) (m, f) = (m + 1, va_up (va_up (va_up (va_up f 0 a) 1 b) 2 c) 3 (c + i)) from by unfold pD met; rw [if_pos q, if_pos q2]] at ih
        refine ev_iload dX10_meets_67 rfl ?_
        refine ev_iload dX10_meets_69 rfl ?_
        refine ev_icmp_geF dX10_meets_71 179 (by decide) (by first | assumption | exact nI_ge (by omega) (by omega) | decide) ?_
        refine ev_iload dX10_meets_74 rfl ?_
        refine ev_iload dX10_meets_76 rfl ?_
        refine ev_iconst dX10_meets_78 ci4 ?_
        first | refine ev_iaddN dX10_meets_79 ?_ | refine ev_iadd dX10_meets_79 ?_
        refine ev_icmp_geF dX10_meets_80 179 (by decide) (by first | assumption | exact nI_ge (by omega) (by omega) | decide) ?_
        first | refine ev_aload_n dX10_meets_83 rfl ?_ | refine ev_aload_nN dX10_meets_83 rfl ?_
        refine ev_iload dX10_meets_84 rfl ?_
        refine ev_iload dX10_meets_86 rfl ?_
        refine ev_iload dX10_meets_88 rfl ?_
        refine ev_iload dX10_meets_90 rfl ?_
        refine ev_V4 dX10_meets_92 st_RX10_122 na_X10_isPhrase (Nat.le_of_ble_eq_true rfl) (Nat.le_of_ble_eq_true rfl) (by repeat (first | assumption | exact up_s | refine (up_n (by omega)).trans ?_)) rfl (ip) ?_
        refine ev_if_eqF dX10_meets_95 173 (by decide) (by first | assumption | exact nI_ne0 (by omega) (by omega) | decide) ?_
        first | refine ev_aload_n dX10_meets_98 rfl ?_ | refine ev_aload_nN dX10_meets_98 rfl ?_
        refine ev_iload_n dX10_meets_99 rfl ?_
        refine ev_iload_n dX10_meets_100 rfl ?_
        refine ev_icmp_neF dX10_meets_101 109 (by decide) q2 ?_
        refine ev_iload dX10_meets_104 rfl ?_
        refine ev_goto (tgt := 113) dX10_meets_106 (by decide) ?_
        refine ev_putfield dX10_meets_113 fl_RX10_126 (fit_10_13 _) (fun q => absurd q (by decide)) (by repeat (first | assumption | exact up_s | refine (up_n (by omega)).trans ?_)) (Nat.le_of_ble_eq_true rfl) ?_
        first | refine ev_aload_n dX10_meets_116 rfl ?_ | refine ev_aload_nN dX10_meets_116 rfl ?_
        refine ev_iload_n dX10_meets_117 rfl ?_
        refine ev_iload_n dX10_meets_118 rfl ?_
        refine ev_icmp_neF dX10_meets_119 127 (by decide) q2 ?_
        refine ev_iload dX10_meets_122 rfl ?_
        refine ev_goto (tgt := 131) dX10_meets_124 (by decide) ?_
        refine ev_putfield dX10_meets_131 fl_RX10_129 (fit_10_14 _) (fun q => absurd q (by decide)) (by repeat (first | assumption | exact up_s | refine (up_n (by omega)).trans ?_)) (Nat.le_of_ble_eq_true rfl) ?_
        first | refine ev_aload_n dX10_meets_134 rfl ?_ | refine ev_aload_nN dX10_meets_134 rfl ?_
        refine ev_iload_n dX10_meets_135 rfl ?_
        refine ev_iload_n dX10_meets_136 rfl ?_
        refine ev_icmp_neF dX10_meets_137 145 (by decide) q2 ?_
        refine ev_iload dX10_meets_140 rfl ?_
        refine ev_goto (tgt := 149) dX10_meets_142 (by decide) ?_
        refine ev_putfield dX10_meets_149 fl_RX10_132 (fit_10_15 _) (fun q => absurd q (by decide)) (by repeat (first | assumption | exact up_s | refine (up_n (by omega)).trans ?_)) (Nat.le_of_ble_eq_true rfl) ?_
        first | refine ev_aload_n dX10_meets_152 rfl ?_ | refine ev_aload_nN dX10_meets_152 rfl ?_
        refine ev_iload_n dX10_meets_153 rfl ?_
        refine ev_iload_n dX10_meets_154 rfl ?_
        refine ev_icmp_neF dX10_meets_155 163 (by decide) q2 ?_
        refine ev_iload dX10_meets_158 rfl ?_
        refine ev_goto (tgt := 167) dX10_meets_160 (by decide) ?_
        refine ev_putfield dX10_meets_167 fl_RX10_135 (fit_10_16 _) (fun q => absurd q (by decide)) (by repeat (first | assumption | exact up_s | refine (up_n (by omega)).trans ?_)) (Nat.le_of_ble_eq_true rfl) ?_
        refine ev_iincN (b := 1) dX10_meets_170 rfl (Nat.le_of_ble_eq_true rfl) ?_
        refine ev_iincN (b := 1) dX10_meets_173 rfl (Nat.le_of_ble_eq_true rfl) ?_
        refine ev_goto (tgt := 67) dX10_meets_176 (by decide) ?_
        refine ev_heap (show _ = MX h made (m + 1, va_up (va_up (va_up (va_up f 0 a) 1 b) 2 c) 3 (c + i)) th from by simp only [up_u]; rfl) ?_
        refine ev_sub ?_ (ih)
        repeat (first | exact trivial | refine ⟨rfl, ?_⟩)
      · rw [show pD (isPh J l0) wt a b c (c + i) (m, f) = (m + 1, f) from by unfold pD met; rw [if_pos q, if_neg q2]] at ih
        refine ev_iload dX10_meets_67 rfl ?_
        refine ev_iload dX10_meets_69 rfl ?_
        refine ev_icmp_geF dX10_meets_71 179 (by decide) (by first | assumption | exact nI_ge (by omega) (by omega) | decide) ?_
        refine ev_iload dX10_meets_74 rfl ?_
        refine ev_iload dX10_meets_76 rfl ?_
        refine ev_iconst dX10_meets_78 ci4 ?_
        first | refine ev_iaddN dX10_meets_79 ?_ | refine ev_iadd dX10_meets_79 ?_
        refine ev_icmp_geF dX10_meets_80 179 (by decide) (by first | assumption | exact nI_ge (by omega) (by omega) | decide) ?_
        first | refine ev_aload_n dX10_meets_83 rfl ?_ | refine ev_aload_nN dX10_meets_83 rfl ?_
        refine ev_iload dX10_meets_84 rfl ?_
        refine ev_iload dX10_meets_86 rfl ?_
        refine ev_iload dX10_meets_88 rfl ?_
        refine ev_iload dX10_meets_90 rfl ?_
        refine ev_V4 dX10_meets_92 st_RX10_122 na_X10_isPhrase (Nat.le_of_ble_eq_true rfl) (Nat.le_of_ble_eq_true rfl) (by repeat (first | assumption | exact up_s | refine (up_n (by omega)).trans ?_)) rfl (ip) ?_
        refine ev_if_eqF dX10_meets_95 173 (by decide) (by first | assumption | exact nI_ne0 (by omega) (by omega) | decide) ?_
        first | refine ev_aload_n dX10_meets_98 rfl ?_ | refine ev_aload_nN dX10_meets_98 rfl ?_
        refine ev_iload_n dX10_meets_99 rfl ?_
        refine ev_iload_n dX10_meets_100 rfl ?_
        refine ev_icmp_neT (tgt := 109) dX10_meets_101 (by decide) q2 ?_
        first | refine ev_aload_n dX10_meets_109 rfl ?_ | refine ev_aload_nN dX10_meets_109 rfl ?_
        refine ev_getfield dX10_meets_110 fl_RX10_126 (by repeat (first | assumption | exact up_s | refine (up_n (by omega)).trans ?_)) rfl ?_
        refine ev_putfield dX10_meets_113 fl_RX10_126 (fit_10_13 _) (fun q => absurd q (by decide)) (by repeat (first | assumption | exact up_s | refine (up_n (by omega)).trans ?_)) (Nat.le_of_ble_eq_true rfl) ?_
        first | refine ev_aload_n dX10_meets_116 rfl ?_ | refine ev_aload_nN dX10_meets_116 rfl ?_
        refine ev_iload_n dX10_meets_117 rfl ?_
        refine ev_iload_n dX10_meets_118 rfl ?_
        refine ev_icmp_neT (tgt := 127) dX10_meets_119 (by decide) q2 ?_
        first | refine ev_aload_n dX10_meets_127 rfl ?_ | refine ev_aload_nN dX10_meets_127 rfl ?_
        refine ev_getfield dX10_meets_128 fl_RX10_129 (by repeat (first | assumption | exact up_s | refine (up_n (by omega)).trans ?_)) rfl ?_
        refine ev_putfield dX10_meets_131 fl_RX10_129 (fit_10_14 _) (fun q => absurd q (by decide)) (by repeat (first | assumption | exact up_s | refine (up_n (by omega)).trans ?_)) (Nat.le_of_ble_eq_true rfl) ?_
        first | refine ev_aload_n dX10_meets_134 rfl ?_ | refine ev_aload_nN dX10_meets_134 rfl ?_
        refine ev_iload_n dX10_meets_135 rfl ?_
        refine ev_iload_n dX10_meets_136 rfl ?_
        refine ev_icmp_neT (tgt := 145) dX10_meets_137 (by decide) q2 ?_
        first | refine ev_aload_n dX10_meets_145 rfl ?_ | refine ev_aload_nN dX10_meets_145 rfl ?_
        refine ev_getfield dX10_meets_146 fl_RX10_132 (by repeat (first | assumption | exact up_s | refine (up_n (by omega)).trans ?_)) rfl ?_
        refine ev_putfield dX10_meets_149 fl_RX10_132 (fit_10_15 _) (fun q => absurd q (by decide)) (by repeat (first | assumption | exact up_s | refine (up_n (by omega)).trans ?_)) (Nat.le_of_ble_eq_true rfl) ?_
        first | refine ev_aload_n dX10_meets_152 rfl ?_ | refine ev_aload_nN dX10_meets_152 rfl ?_
        refine ev_iload_n dX10_meets_153 rfl ?_
        refine ev_iload_n dX10_meets_154 rfl ?_
        refine ev_icmp_neT (tgt := 163) dX10_meets_155 (by decide) q2 ?_
        first | refine ev_aload_n dX10_meets_163 rfl ?_ | refine ev_aload_nN dX10_meets_163 rfl ?_
        refine ev_getfield dX10_meets_164 fl_RX10_135 (by repeat (first | assumption | exact up_s | refine (up_n (by omega)).trans ?_)) rfl ?_
        refine ev_putfield dX10_meets_167 fl_RX10_135 (fit_10_16 _) (fun q => absurd q (by decide)) (by repeat (first | assumption | exact up_s | refine (up_n (by omega)).trans ?_)) (Nat.le_of_ble_eq_true rfl) ?_
        refine ev_iincN (b := 1) dX10_meets_170 rfl (Nat.le_of_ble_eq_true rfl) ?_
        refine ev_iincN (b := 1) dX10_meets_173 rfl (Nat.le_of_ble_eq_true rfl) ?_
        refine ev_goto (tgt := 67) dX10_meets_176 (by decide) ?_
        refine ev_heap (show _ = MX h made (m + 1, f) th from by simp only [up_u]; rfl) ?_
        refine ev_sub ?_ (ih)
        repeat (first | exact trivial | refine ⟨rfl, ?_⟩)
    · rw [bI_f q] at ip
      rw [show pD (isPh J l0) wt a b c (c + i) (m, f) = (m, f) from if_neg q] at ih
      refine ev_iload dX10_meets_67 rfl ?_
      refine ev_iload dX10_meets_69 rfl ?_
      refine ev_icmp_geF dX10_meets_71 179 (by decide) (by first | assumption | exact nI_ge (by omega) (by omega) | decide) ?_
      refine ev_iload dX10_meets_74 rfl ?_
      refine ev_iload dX10_meets_76 rfl ?_
      refine ev_iconst dX10_meets_78 ci4 ?_
      first | refine ev_iaddN dX10_meets_79 ?_ | refine ev_iadd dX10_meets_79 ?_
      refine ev_icmp_geF dX10_meets_80 179 (by decide) (by first | assumption | exact nI_ge (by omega) (by omega) | decide) ?_
      first | refine ev_aload_n dX10_meets_83 rfl ?_ | refine ev_aload_nN dX10_meets_83 rfl ?_
      refine ev_iload dX10_meets_84 rfl ?_
      refine ev_iload dX10_meets_86 rfl ?_
      refine ev_iload dX10_meets_88 rfl ?_
      refine ev_iload dX10_meets_90 rfl ?_
      refine ev_V4 dX10_meets_92 st_RX10_122 na_X10_isPhrase (Nat.le_of_ble_eq_true rfl) (Nat.le_of_ble_eq_true rfl) (by repeat (first | assumption | exact up_s | refine (up_n (by omega)).trans ?_)) rfl (ip) ?_
      refine ev_if_eqT (tgt := 173) dX10_meets_95 (by decide) (by first | assumption | exact z_eq (by omega) | decide) ?_
      refine ev_iincN (b := 1) dX10_meets_173 rfl (Nat.le_of_ble_eq_true rfl) ?_
      refine ev_goto (tgt := 67) dX10_meets_176 (by decide) ?_
      refine ev_sub ?_ (ih)
      repeat (first | exact trivial | refine ⟨rfl, ?_⟩)
theorem lm_mC (hJ : ∀ i, J i < 256) (hz : ∀ i, l0 ≤ i → J i = 0) (hl0 : l0 ≤ 8) (hl1 : l1 ≤ 8) (g43 : h 43 = aZ 64 (cut J R)) {a b : Nat} (ha : a < 8) (hb : b < 8) {s : Nat × (Nat → Nat)} {o9 : Out} :
    ∀ k c, c + k = l1 →
    (Ev (d + 2) MX10_meets 185 [(0, .ref 31), (1, .int (nI i9)), (2, .int wt), (3, .int (nI (pB (isPh J l0) wt l1 a b s).1)), (4, .int (nI l0)), (5, .int (nI l1)), (6, .int (nI a)), (7, .int (nI b))] [] n (MX h made (pB (isPh J l0) wt l1 a b s) th) o9) →
    Ev (d + 2) MX10_meets 56 [(0, .ref 31), (1, .int (nI i9)), (2, .int wt), (3, .int (nI (fo (pC (isPh J l0) wt l1 a b) 0 s c).1)), (4, .int (nI l0)), (5, .int (nI l1)), (6, .int (nI a)), (7, .int (nI b)), (8, .int (nI c))] [] n (MX h made (fo (pC (isPh J l0) wt l1 a b) 0 s c) th) o9 := by
  intro k
  induction k with
  | zero =>
    intro c hc K
    have e : c = l1 := by omega
    subst e
    refine ev_iload dX10_meets_56 rfl ?_
    refine ev_iload dX10_meets_58 rfl ?_
    refine ev_icmp_geT (tgt := 185) dX10_meets_60 (by decide) (by first | assumption | exact nI_le (by omega) (by omega) | decide) ?_
    refine ev_sub ?_ (K)
    repeat (first | exact trivial | refine ⟨rfl, ?_⟩)
  | succ k ih =>
    intro c hc K
    have ih := ih (c + 1) (by omega) K
    have e1 : fo (pC (isPh J l0) wt l1 a b) 0 s (c + 1) = pC (isPh J l0) wt l1 a b c (fo (pC (isPh J l0) wt l1 a b) 0 s c) := by
      show pC (isPh J l0) wt l1 a b (0 + c) _ = _
      rw [Nat.zero_add]
    rw [e1] at ih
    clear K e1
    refine ev_iload dX10_meets_56 rfl ?_
    refine ev_iload dX10_meets_58 rfl ?_
    refine ev_icmp_geF dX10_meets_60 185 (by decide) (by first | assumption | exact nI_ge (by omega) (by omega) | decide) ?_
    refine ev_iload dX10_meets_63 rfl ?_
    refine ev_istore dX10_meets_65 (Nat.le_of_ble_eq_true rfl) ?_
    refine ev_sub ?_ (lm_mD (wt := wt) (i9 := i9) (R := R) (c := c) (s := fo (pC (isPh J l0) wt l1 a b) 0 s c) hJ hz hl0 hl1 g43 ha hb (by omega) (min (c + 4) l1 - c) 0 (by omega) ?_)
    · repeat (first | exact trivial | refine ⟨rfl, ?_⟩)
    · refine ev_iincN (b := 1) dX10_meets_179 rfl (Nat.le_of_ble_eq_true rfl) ?_
      refine ev_goto (tgt := 56) dX10_meets_182 (by decide) ?_
      refine ev_sub ?_ (ih)
      repeat (first | exact trivial | refine ⟨rfl, ?_⟩)
theorem lm_mB (hJ : ∀ i, J i < 256) (hz : ∀ i, l0 ≤ i → J i = 0) (hl0 : l0 ≤ 8) (hl1 : l1 ≤ 8) (g43 : h 43 = aZ 64 (cut J R)) {a : Nat} (ha : a < l0) {s : Nat × (Nat → Nat)} {o9 : Out} :
    ∀ k i, i + k = min (a + 4) l0 - a →
    (Ev (d + 2) MX10_meets 191 [(0, .ref 31), (1, .int (nI i9)), (2, .int wt), (3, .int (nI (pA (isPh J l0) wt l0 l1 a s).1)), (4, .int (nI l0)), (5, .int (nI l1)), (6, .int (nI a))] [] n (MX h made (pA (isPh J l0) wt l0 l1 a s) th) o9) →
    Ev (d + 2) MX10_meets 37 [(0, .ref 31), (1, .int (nI i9)), (2, .int wt), (3, .int (nI (fo (pB (isPh J l0) wt l1 a) a s i).1)), (4, .int (nI l0)), (5, .int (nI l1)), (6, .int (nI a)), (7, .int (nI (a + i)))] [] n (MX h made (fo (pB (isPh J l0) wt l1 a) a s i) th) o9 := by
  intro k
  induction k with
  | zero =>
    intro i hi K
    have e2 : i = min (a + 4) l0 - a := by omega
    have K : Ev (d + 2) MX10_meets 191 [(0, .ref 31), (1, .int (nI i9)), (2, .int wt), (3, .int (nI (fo (pB (isPh J l0) wt l1 a) a s i).1)), (4, .int (nI l0)), (5, .int (nI l1)), (6, .int (nI a))] [] n (MX h made (fo (pB (isPh J l0) wt l1 a) a s i) th) o9 := by rw [e2]; exact K
    by_cases z : l0 ≤ a + i
    · refine ev_iload dX10_meets_37 rfl ?_
      refine ev_iload dX10_meets_39 rfl ?_
      refine ev_icmp_geT (tgt := 191) dX10_meets_41 (by decide) (by first | assumption | exact nI_le (by omega) (by omega) | decide) ?_
      refine ev_sub ?_ (K)
      repeat (first | exact trivial | refine ⟨rfl, ?_⟩)
    · refine ev_iload dX10_meets_37 rfl ?_
      refine ev_iload dX10_meets_39 rfl ?_
      refine ev_icmp_geF dX10_meets_41 191 (by decide) (by first | assumption | exact nI_ge (by omega) (by omega) | decide) ?_
      refine ev_iload dX10_meets_44 rfl ?_
      refine ev_iload dX10_meets_46 rfl ?_
      refine ev_iconst dX10_meets_48 ci4 ?_
      first | refine ev_iaddN dX10_meets_49 ?_ | refine ev_iadd dX10_meets_49 ?_
      refine ev_icmp_geT (tgt := 191) dX10_meets_50 (by decide) (by first | assumption | exact nI_le (by omega) (by omega) | decide) ?_
      refine ev_sub ?_ (K)
      repeat (first | exact trivial | refine ⟨rfl, ?_⟩)
  | succ k ih =>
    intro i hi K
    have ih := ih (i + 1) (by omega) K
    have es : fo (pB (isPh J l0) wt l1 a) a s (i + 1) = pB (isPh J l0) wt l1 a (a + i) (fo (pB (isPh J l0) wt l1 a) a s i) := rfl
    rw [es] at ih
    clear es K
    refine ev_iload dX10_meets_37 rfl ?_
    refine ev_iload dX10_meets_39 rfl ?_
    refine ev_icmp_geF dX10_meets_41 191 (by decide) (by first | assumption | exact nI_ge (by omega) (by omega) | decide) ?_
    refine ev_iload dX10_meets_44 rfl ?_
    refine ev_iload dX10_meets_46 rfl ?_
    refine ev_iconst dX10_meets_48 ci4 ?_
    first | refine ev_iaddN dX10_meets_49 ?_ | refine ev_iadd dX10_meets_49 ?_
    refine ev_icmp_geF dX10_meets_50 191 (by decide) (by first | assumption | exact nI_ge (by omega) (by omega) | decide) ?_
    refine ev_iconst dX10_meets_53 ci0 ?_
    refine ev_istore dX10_meets_54 (Nat.le_of_ble_eq_true rfl) ?_
    refine ev_sub ?_ (lm_mC (wt := wt) (i9 := i9) (R := R) (s := fo (pB (isPh J l0) wt l1 a) a s i) hJ hz hl0 hl1 g43 (show a < 8 by omega) (show a + i < 8 by omega) l1 0 (by omega) ?_)
    · repeat (first | exact trivial | refine ⟨rfl, ?_⟩)
    · refine ev_iincN (b := 1) dX10_meets_185 rfl (Nat.le_of_ble_eq_true rfl) ?_
      refine ev_goto (tgt := 37) dX10_meets_188 (by decide) ?_
      refine ev_sub ?_ (ih)
      repeat (first | exact trivial | refine ⟨rfl, ?_⟩)
theorem lm_mA (hJ : ∀ i, J i < 256) (hz : ∀ i, l0 ≤ i → J i = 0) (hl0 : l0 ≤ 8) (hl1 : l1 ≤ 8) (g43 : h 43 = aZ 64 (cut J R)) {s : Nat × (Nat → Nat)} :
    ∀ k a, a + k = l0 →
    Ev (d + 2) MX10_meets 26 [(0, .ref 31), (1, .int (nI i9)), (2, .int wt), (3, .int (nI (fo (pA (isPh J l0) wt l0 l1) 0 s a).1)), (4, .int (nI l0)), (5, .int (nI l1)), (6, .int (nI a))] [] n (MX h made (fo (pA (isPh J l0) wt l0 l1) 0 s a) th) (.inl (some (.int (nI (pAll (isPh J l0) wt l0 l1 s).1))), n, MX h made (pAll (isPh J l0) wt l0 l1 s) th, 0, 0) := by
  intro k
  induction k with
  | zero =>
    intro a ha
    have e : a = l0 := by omega
    subst e
    refine ev_iload dX10_meets_26 rfl ?_
    refine ev_iload dX10_meets_28 rfl ?_
    refine ev_icmp_geT (tgt := 197) dX10_meets_30 (by decide) (by first | assumption | exact nI_le (by omega) (by omega) | decide) ?_
    refine ev_iload_n dX10_meets_197 rfl ?_
    exact ev_ireturnE dX10_meets_198 rfl (by rfl)
  | succ k ih =>
    intro a ha
    have ih := ih (a + 1) (by omega)
    have e1 : fo (pA (isPh J l0) wt l0 l1) 0 s (a + 1) = pA (isPh J l0) wt l0 l1 a (fo (pA (isPh J l0) wt l0 l1) 0 s a) := by
      show pA (isPh J l0) wt l0 l1 (0 + a) _ = _
      rw [Nat.zero_add]
    rw [e1] at ih
    clear e1
    refine ev_iload dX10_meets_26 rfl ?_
    refine ev_iload dX10_meets_28 rfl ?_
    refine ev_icmp_geF dX10_meets_30 197 (by decide) (by first | assumption | exact nI_ge (by omega) (by omega) | decide) ?_
    refine ev_iload dX10_meets_33 rfl ?_
    refine ev_istore dX10_meets_35 (Nat.le_of_ble_eq_true rfl) ?_
    refine ev_sub ?_ (lm_mB (wt := wt) (i9 := i9) (R := R) (a := a) (s := fo (pA (isPh J l0) wt l0 l1) 0 s a) hJ hz hl0 hl1 g43 (by omega) (min (a + 4) l0 - a) 0 (by omega) ?_)
    · repeat (first | exact trivial | refine ⟨rfl, ?_⟩)
    · refine ev_iincN (b := 1) dX10_meets_191 rfl (Nat.le_of_ble_eq_true rfl) ?_
      refine ev_goto (tgt := 26) dX10_meets_194 (by decide) ?_
      refine ev_sub ?_ (ih)
      repeat (first | exact trivial | refine ⟨rfl, ?_⟩)
theorem mm_meets (q : WF made t l w S W) (g31 : h 31 = MO made F th) (ga : MA h made t l w S W) {i : Nat} (hi : i < made) : ∃ L R, Ev (d + 3) MX10_meets 0 (lv_args 0 [.ref 31, .int (nI i), .int wt]) [] n h (.inl (some (.int (nI (phN S W l w i)))), n, MX (FX h L (JJ S W l w i) R) made (phS S W l w i wt F) th, 0, 0) := by
  have h0 := q.2.2.1 0 i (by omega) (by omega)
  have h1 := q.2.2.1 1 i (by omega) (by omega)
  have hm := q.1
  obtain ⟨L, R, fi⟩ := mm_finds (d := d) (n := n) q g31 ga hi
  obtain ⟨lo, b3, c3⟩ := (MA_FX (L := L) (J := JJ S W l w i) (R := R) ga).2.2.1
  have G31 : FX h L (JJ S W l w i) R 31 = MO made F th := FX_31 g31
  obtain ⟨j1, j2⟩ := JJ_ok (S := S) (W := W) (w := w) (i := i) h0 h1
  have e0 : lo (2 * i + 0) = l 0 i := c3 0 i (by omega) hi
  have e1 : lo (2 * i + 1) = l 1 i := c3 1 i (by omega) hi
  have lo0 := mm_longOf (d := d + 2) (n := n) G31 b3 (show i < 20 by omega) (show 0 < 2 by omega)
  have lo1 := mm_longOf (d := d + 2) (n := n) G31 b3 (show i < 20 by omega) (show 1 < 2 by omega)
  rw [e0] at lo0
  rw [e1] at lo1
  refine ⟨L, R, ?_⟩
  rw [← phS_1 (wt := wt) (F := F)]
  first | refine ev_aload_n dX10_meets_0 rfl ?_ | refine ev_aload_nN dX10_meets_0 rfl ?_
  refine ev_iload_n dX10_meets_1 rfl ?_
  refine ev_V1v dX10_meets_2 st_RX10_119 na_X10_finds (Nat.le_of_ble_eq_true rfl) (Nat.le_of_ble_eq_true rfl) (by repeat (first | assumption | exact up_s | refine (up_n (by omega)).trans ?_)) rfl (fi) ?_
  refine ev_iconst dX10_meets_5 ci0 ?_
  refine ev_istore_n dX10_meets_6 (Nat.le_of_ble_eq_true rfl) ?_
  first | refine ev_aload_n dX10_meets_7 rfl ?_ | refine ev_aload_nN dX10_meets_7 rfl ?_
  refine ev_iload_n dX10_meets_8 rfl ?_
  refine ev_iconst dX10_meets_9 ci0 ?_
  refine ev_V2 dX10_meets_10 st_RX10_74 na_X10_longOf (Nat.le_of_ble_eq_true rfl) (Nat.le_of_ble_eq_true rfl) (by repeat (first | assumption | exact up_s | refine (up_n (by omega)).trans ?_)) rfl (lo0) ?_
  refine ev_istore dX10_meets_13 (Nat.le_of_ble_eq_true rfl) ?_
  first | refine ev_aload_n dX10_meets_15 rfl ?_ | refine ev_aload_nN dX10_meets_15 rfl ?_
  refine ev_iload_n dX10_meets_16 rfl ?_
  refine ev_iconst dX10_meets_17 ci1 ?_
  refine ev_V2 dX10_meets_18 st_RX10_74 na_X10_longOf (Nat.le_of_ble_eq_true rfl) (Nat.le_of_ble_eq_true rfl) (by repeat (first | assumption | exact up_s | refine (up_n (by omega)).trans ?_)) rfl (lo1) ?_
  refine ev_istore dX10_meets_21 (Nat.le_of_ble_eq_true rfl) ?_
  refine ev_iconst dX10_meets_23 ci0 ?_
  refine ev_istore dX10_meets_24 (Nat.le_of_ble_eq_true rfl) ?_
  refine ev_heap (h2 := MX (FX h L (JJ S W l w i) R) made (0, F) th) (up_id G31).symm ?_
  refine ev_sub ?_ (lm_mA (d := d + 1) (i9 := i) (R := R) (s := (0, F)) j1 j2 h0 h1 FX_43 (l 0 i) 0 (by omega))
  repeat (first | exact trivial | refine ⟨rfl, ?_⟩)
end MJ
