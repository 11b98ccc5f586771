/-! the model: phrases of a pair -/
section MJ
variable {d n : Nat} {h h' : Hp} {made th : Nat} {t : Nat → Nat} {l : Nat → Nat → Nat} {w : Nat → Nat → Nat → Nat} {S : Nat → Nat → Nat} {W : Nat → Nat} {F : Nat → Nat} {J R : Nat → Nat} {l0 l1 i9 : Nat} {wt : Int32}
/-- the model with what was met -/
abbrev MX (h : Hp) (made : Nat) (s : Nat × (Nat → Nat)) (th : Nat) : Hp := va_up h 31 (MO made s.2 th)
theorem lm_mD (hJ : ∀ i, J i < 256) (hz : ∀ i, l0 ≤ i → J i = 0) (hl0 : l0 ≤ 8) (hl1 : l1 ≤ 8) (g43 : h 43 = aZ 64 (cut J R)) {a b c : Nat} (ha : a < 8) (hb : b < 8) (hc : c < l1) {s : Nat × (Nat → Nat)} {o9 : Out} :
    ∀ k i, i + k = min (c + 4) l1 - c →
    (Ev (d + 2) MX10_meets 179 [(0, .ref 31), (1, .int (nI i9)), (2, .int wt), (3, .int (nI (pC (isPh J l0) wt l1 a b c s).1)), (4, .int (nI l0)), (5, .int (nI l1)), (6, .int (nI a)), (7, .int (nI b)), (8, .int (nI c))] [] n (MX h made (pC (isPh J l0) wt l1 a b c s) th) o9) →
    Ev (d + 2) MX10_meets 67 [(0, .ref 31), (1, .int (nI i9)), (2, .int wt), (3, .int (nI (fo (pD (isPh J l0) wt a b c) c s i).1)), (4, .int (nI l0)), (5, .int (nI l1)), (6, .int (nI a)), (7, .int (nI b)), (8, .int (nI c)), (9, .int (nI (c + i)))] [] n (MX h made (fo (pD (isPh J l0) wt a b c) c s i) th) o9 := by
  intro k
  induction k with
  | zero =>
    intro i hi K
    have e2 : i = min (c + 4) l1 - c := by omega
    have K : Ev (d + 2) MX10_meets 179 [(0, .ref 31), (1, .int (nI i9)), (2, .int wt), (3, .int (nI (fo (pD (isPh J l0) wt a b c) c s i).1)), (4, .int (nI l0)), (5, .int (nI l1)), (6, .int (nI a)), (7, .int (nI b)), (8, .int (nI c))] [] n (MX h made (fo (pD (isPh J l0) wt a b c) c s i) th) o9 := by rw [e2]; exact K
    by_cases z : l1 ≤ c + i
    · refine ev_iload dX10_meets_67 rfl ?_
      refine ev_iload dX10_meets_69 rfl ?_
      refine ev_icmp_geT (tgt := 179) dX10_meets_71 (by decide) (by first | assumption | exact nI_le (by omega) (by omega) | decide) ?_
      refine ev_sub ?_ (K)
      repeat (first | exact trivial | refine ⟨rfl, ?_⟩)
    · refine ev_iload dX10_meets_67 rfl ?_
      refine ev_iload dX10_meets_69 rfl ?_
      refine ev_icmp_geF dX10_meets_71 179 (by decide) (by first | assumption | exact nI_ge (by omega) (by omega) | decide) ?_
      refine ev_iload dX10_meets_74 rfl ?_
      refine ev_iload dX10_meets_76 rfl ?_
      refine ev_iconst dX10_meets_78 ci4 ?_
      first | refine ev_iaddN dX10_meets_79 ?_ | refine ev_iadd dX10_meets_79 ?_
      refine ev_icmp_geT (tgt := 179) dX10_meets_80 (by decide) (by first | assumption | exact nI_le (by omega) (by omega) | decide) ?_
      refine ev_sub ?_ (K)
      repeat (first | exact trivial | refine ⟨rfl, ?_⟩)
  | succ k ih =>
    intro i hi K
    have ih := ih (i + 1) (by omega) K
    clear K
    have ip := mm_isPhrase (d := d) (n := n) (h := MX h made (fo (pD (isPh J l0) wt a b c) c s i) th) (F := (fo (pD (isPh J l0) wt a b c) c s i).2) (th := th) (made := made) (R := R) hJ hz hl0 up_s ((up_n (by omega)).trans g43) ha hb (show c ≤ c + i by omega) (show c + i < 8 by omega)
    have es : fo (pD (isPh J l0) wt a b c) c s (i + 1) = pD (isPh J l0) wt a b c (c + i) (fo (pD (isPh J l0) wt a b c) c s i) := rfl
    rw [es] at ih
    clear es
    generalize fo (pD (isPh J l0) wt a b c) c s i = y at ih ip ⊢
    obtain ⟨m, f⟩ := y
    by_cases q : isPh J l0 a b c (c + i) = true
    · rw [bI_t q] at ip
      by_cases q2 : nI m = wt
      · rw [show pD (isPh J l0) wt a b c (c + i) (m, f) = (m + 1, va_up (va_up (va_up (va_up f 0 a) 1 b) 2 c) 3 (c + i)) from by unfold pD met; rw [if_pos q, if_pos q2]] at ih
        refine ev_iload dX10_meets_67 rfl ?_
        refine ev_iload dX10_meets_69 rfl ?_
        refine ev_icmp_geF dX10_meets_71 179 (by decide) (by first | assumption | exact nI_ge (by omega) (by omega) | decide) ?_
        refine ev_iload dX10_meets_74 rfl ?_
        refine ev_iload dX10_meets_76 rfl ?_
        refine ev_iconst dX10_meets_78 ci4 ?_
        first | refine ev_iaddN dX10_meets_79 ?_ | refine ev_iadd dX10_meets_79 ?_
        refine ev_icmp_geF dX10_meets_80 179 (by decide) (by first | assumption | exact nI_ge (by omega) (by omega) | decide) ?_
        first | refine ev_aload_n dX10_meets_83 rfl ?_ | refine ev_aload_nN dX10_meets_83 rfl ?_
        refine ev_iload dX10_meets_84 rfl ?_
        refine ev_iload dX10_meets_86 rfl ?_
        refine ev_iload dX10_meets_88 rfl ?_
        refine ev_iload dX10_meets_90 rfl ?_
        refine ev_V4 dX10_meets_92 st_RX10_122 na_X10_isPhrase (Nat.le_of_ble_eq_true rfl) (Nat.le_of_ble_eq_true rfl) (by repeat (first | assumption | exact up_s | refine (up_n (by omega)).trans ?_)) rfl (ip) ?_
        refine ev_if_eqF dX10_meets_95 173 (by decide) (by first | assumption | exact nI_ne0 (by omega) (by omega) | decide) ?_
        first | refine ev_aload_n dX10_meets_98 rfl ?_ | refine ev_aload_nN dX10_meets_98 rfl ?_
        refine ev_iload_n dX10_meets_99 rfl ?_
        refine ev_iload_n dX10_meets_100 rfl ?_
        refine ev_icmp_neF dX10_meets_101 109 (by decide) q2 ?_
        refine ev_iload dX10_meets_104 rfl ?_
        refine ev_goto (tgt := 113) dX10_meets_106 (by decide) ?_
        refine ev_putfield dX10_meets_113 fl_RX10_126 (fit_10_13 _) (fun q => absurd q (by decide)) (by repeat (first | assumption | exact up_s | refine (up_n (by omega)).trans ?_)) (Nat.le_of_ble_eq_true rfl) ?_
        first | refine ev_aload_n dX10_meets_116 rfl ?_ | refine ev_aload_nN dX10_meets_116 rfl ?_
        refine ev_iload_n dX10_meets_117 rfl ?_
        refine ev_iload_n dX10_meets_118 rfl ?_
        refine ev_icmp_neF dX10_meets_119 127 (by decide) q2 ?_
        refine ev_iload dX10_meets_122 rfl ?_
        refine ev_goto (tgt := 131) dX10_meets_124 (by decide) ?_
        refine ev_putfield dX10_meets_131 fl_RX10_129 (fit_10_14 _) (fun q => absurd q (by decide)) (by repeat (first | assumption | exact up_s | refine (up_n (by omega)).trans ?_)) (Nat.le_of_ble_eq_true rfl) ?_
        first | refine ev_aload_n dX10_meets_134 rfl ?_ | refine ev_aload_nN dX10_meets_134 rfl ?_
        refine ev_iload_n dX10_meets_135 rfl ?_
        refine ev_iload_n dX10_meets_136 rfl ?_
        refine ev_icmp_neF dX10_meets_137 145 (by decide) q2 ?_
        refine ev_iload dX10_meets_140 rfl ?_
        refine ev_goto (tgt := 149) dX10_meets_142 (by decide) ?_
        refine ev_putfield dX10_meets_149 fl_RX10_132 (fit_10_15 _) (fun q => absurd q (by decide)) (by repeat (first | assumption | exact up_s | refine (up_n (by omega)).trans ?_)) (Nat.le_of_ble_eq_true rfl) ?_
        first | refine ev_aload_n dX10_meets_152 rfl ?_ | refine ev_aload_nN dX10_meets_152 rfl ?_
        refine ev_iload_n dX10_meets_153 rfl ?_
        refine ev_iload_n dX10_meets_154 rfl ?_
        refine ev_icmp_neF dX10_meets_155 163 (by decide) q2 ?_
        refine ev_iload dX10_meets_158 rfl ?_
        refine ev_goto (tgt := 167) dX10_meets_160 (by decide) ?_
        refine ev_putfield dX10_meets_167 fl_RX10_135 (fit_10_16 _) (fun q => absurd q (by decide)) (by repeat (first | assumption | exact up_s | refine (up_n (by omega)).trans ?_)) (Nat.le_of_ble_eq_true rfl) ?_
        refine ev_iincN (b := 1) dX10_meets_170 rfl (Nat.le_of_ble_eq_true rfl) ?_
        refine ev_iincN (b := 1) dX10_meets_173 rfl (Nat.le_of_ble_eq_true rfl) ?_
        refine ev_goto (tgt := 67) dX10_meets_176 (by decide) ?_
        refine ev_heap (show _ = MX h made (m + 1, va_up (va_up (va_up (va_up f 0 a) 1 b) 2 c) 3 (c + i)) th from by simp only [up_u]; rfl) ?_
        refine ev_sub ?_ (ih)
        repeat (first | exact trivial | refine ⟨rfl, ?_⟩)
      · rw [show pD (isPh J l0) wt a b c (c + i) (m, f) = (m + 1, f) from by unfold pD met; rw [if_pos q, if_neg q2]] at ih
        refine ev_iload dX10_meets_67 rfl ?_
        refine ev_iload dX10_meets_69 rfl ?_
        refine ev_icmp_geF dX10_meets_71 179 (by decide) (by first | assumption | exact nI_ge (by omega) (by omega) | decide) ?_
        refine ev_iload dX10_meets_74 rfl ?_
        refine ev_iload dX10_meets_76 rfl ?_
        refine ev_iconst dX10_meets_78 ci4 ?_
        first | refine ev_iaddN dX10_meets_79 ?_ | refine ev_iadd dX10_meets_79 ?_
        refine ev_icmp_geF dX10_meets_80 179 (by decide) (by first | assumption | exact nI_ge (by omega) (by omega) | decide) ?_
        first | refine ev_aload_n dX10_meets_83 rfl ?_ | refine ev_aload_nN dX10_meets_83 rfl ?_
        refine ev_iload dX10_meets_84 rfl ?_
        refine ev_iload dX10_meets_86 rfl ?_
        refine ev_iload dX10_meets_88 rfl ?_
        refine ev_iload dX10_meets_90 rfl ?_
        refine ev_V4 dX10_meets_92 st_RX10_122 na_X10_isPhrase (Nat.le_of_ble_eq_true rfl) (Nat.le_of_ble_eq_true rfl) (by repeat (first | assumption | exact up_s | refine (up_n (by omega)).trans ?_)) rfl (ip) ?_
        refine ev_if_eqF dX10_meets_95 173 (by decide) (by first | assumption | exact nI_ne0 (by omega) (by omega) | decide) ?_
        first | refine ev_aload_n dX10_meets_98 rfl ?_ | refine ev_aload_nN dX10_meets_98 rfl ?_
        refine ev_iload_n dX10_meets_99 rfl ?_
        refine ev_iload_n dX10_meets_100 rfl ?_
        refine ev_icmp_neT (tgt := 109) dX10_meets_101 (by decide) q2 ?_
        first | refine ev_aload_n dX10_meets_109 rfl ?_ | refine ev_aload_nN dX10_meets_109 rfl ?_
        refine ev_getfield dX10_meets_110 fl_RX10_126 (by repeat (first | assumption | exact up_s | refine (up_n (by omega)).trans ?_)) rfl ?_
        refine ev_putfield dX10_meets_113 fl_RX10_126 (fit_10_13 _) (fun q => absurd q (by decide)) (by repeat (first | assumption | exact up_s | refine (up_n (by omega)).trans ?_)) (Nat.le_of_ble_eq_true rfl) ?_
        first | refine ev_aload_n dX10_meets_116 rfl ?_ | refine ev_aload_nN dX10_meets_116 rfl ?_
        refine ev_iload_n dX10_meets_117 rfl ?_
        refine ev_iload_n dX10_meets_118 rfl ?_
        refine ev_icmp_neT (tgt := 127) dX10_meets_119 (by decide) q2 ?_
        first | refine ev_aload_n dX10_meets_127 rfl ?_ | refine ev_aload_nN dX10_meets_127 rfl ?_
        refine ev_getfield dX10_meets_128 fl_RX10_129 (by repeat (first | assumption | exact up_s | refine (up_n (by omega)).trans ?_)) rfl ?_
        refine ev_putfield dX10_meets_131 fl_RX10_129 (fit_10_14 _) (fun q => absurd q (by decide)) (by repeat (first | assumption | exact up_s | refine (up_n (by omega)).trans ?_)) (Nat.le_of_ble_eq_true rfl) ?_
        first | refine ev_aload_n dX10_meets_134 rfl ?_ | refine ev_aload_nN dX10_meets_134 rfl ?_
        refine ev_iload_n dX10_meets_135 rfl ?_
        refine ev_iload_n dX10_meets_136 rfl ?_
        refine ev_icmp_neT (tgt := 145) dX10_meets_137 (by decide) q2 ?_
        first | refine ev_aload_n dX10_meets_145 rfl ?_ | refine ev_aload_nN dX10_meets_145 rfl ?_
        refine ev_getfield dX10_meets_146 fl_RX10_132 (by repeat (first | assumption | exact up_s | refine (up_n (by omega)).trans ?_)) rfl ?_
        refine ev_putfield dX10_meets_149 fl_RX10_132 (fit_10_15 _) (fun q => absurd q (by decide)) (by repeat (first | assumption | exact up_s | refine (up_n (by omega)).trans ?_)) (Nat.le_of_ble_eq_true rfl) ?_
        first | refine ev_aload_n dX10_meets_152 rfl ?_ | refine ev_aload_nN dX10_meets_152 rfl ?_
        refine ev_iload_n dX10_meets_153 rfl ?_
        refine ev_iload_n dX10_meets_154 rfl ?_
        refine ev_icmp_neT (tgt := 163) dX10_meets_155 (by decide) q2 ?_
        first | refine ev_aload_n dX10_meets_163 rfl ?_ | refine ev_aload_nN dX10_meets_163 rfl ?_
        refine ev_getfield dX10_meets_164 fl_RX10_135 (by repeat (first | assumption | exact up_s | refine (up_n (by omega)).trans ?_)) rfl ?_
        refine ev_putfield dX10_meets_167 fl_RX10_135 (fit_10_16 _) (fun q => absurd q (by decide)) (by repeat (first | assumption | exact up_s | refine (up_n (by omega)).trans ?_)) (Nat.le_of_ble_eq_true rfl) ?_
        refine ev_iincN (b := 1) dX10_meets_170 rfl (Nat.le_of_ble_eq_true rfl) ?_
        refine ev_iincN (b := 1) dX10_meets_173 rfl (Nat.le_of_ble_eq_true rfl) ?_
        refine ev_goto (tgt := 67) dX10_meets_176 (by decide) ?_
        refine ev_heap (show _ = MX h made (m + 1, f) th from by simp only [up_u]; rfl) ?_
        refine ev_sub ?_ (ih)
        repeat (first | exact trivial | refine ⟨rfl, ?_⟩)
    · rw [bI_f q] at ip
      rw [show pD (isPh J l0) wt a b c (c + i) (m, f) = (m, f) from if_neg q] at ih
      refine ev_iload dX10_meets_67 rfl ?_
      refine ev_iload dX10_meets_69 rfl ?_
      refine ev_icmp_geF dX10_meets_71 179 (by decide) (by first | assumption | exact nI_ge (by omega) (by omega) | decide) ?_
      refine ev_iload dX10_meets_74 rfl ?_
      refine ev_iload dX10_meets_76 rfl ?_
      refine ev_iconst dX10_meets_78 ci4 ?_
      first | refine ev_iaddN dX10_meets_79 ?_ | refine ev_iadd dX10_meets_79 ?_
      refine ev_icmp_geF dX10_meets_80 179 (by decide) (by first | assumption | exact nI_ge (by omega) (by omega) | decide) ?_
      first | refine ev_aload_n dX10_meets_83 rfl ?_ | refine ev_aload_nN dX10_meets_83 rfl ?_
      refine ev_iload dX10_meets_84 rfl ?_
      refine ev_iload dX10_meets_86 rfl ?_
      refine ev_iload dX10_meets_88 rfl ?_
      refine ev_iload dX10_meets_90 rfl ?_
      refine ev_V4 dX10_meets_92 st_RX10_122 na_X10_isPhrase (Nat.le_of_ble_eq_true rfl) (Nat.le_of_ble_eq_true rfl) (by repeat (first | assumption | exact up_s | refine (up_n (by omega)).trans ?_)) rfl (ip) ?_
      refine ev_if_eqT (tgt := 173) dX10_meets_95 (by decide) (by first | assumption | exact z_eq (by omega) | decide) ?_
      refine ev_iincN (b := 1) dX10_meets_173 rfl (Nat.le_of_ble_eq_true rfl) ?_
      refine ev_goto (tgt := 67) dX10_meets_176 (by decide) ?_
      refine ev_sub ?_ (ih)
      repeat (first | exact trivial | refine ⟨rfl, ?_⟩)
end MJ
