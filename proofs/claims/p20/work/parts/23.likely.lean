/-! how likely a pair is -/
def cF (q : Nat → Nat → Nat) (N : Nat) (A : Nat → Nat) (j i c : Nat) : Nat := if (c / 9 < j ∧ c % 9 < N) ∨ (c / 9 = j ∧ c % 9 < i) then q (c / 9) (c % 9) else A c
theorem cF_step (q : Nat → Nat → Nat) (N : Nat) (A : Nat → Nat) (j i : Nat) (hi : i < 9) : va_up (cF q N A j i) (j * 9 + i) (q j i) = cF q N A j (i + 1) := by
  funext c
  unfold va_up cF
  by_cases h : c = j * 9 + i
  · have e1 : c / 9 = j := by omega
    have e2 : c % 9 = i := by omega
    rw [if_pos h, if_pos (by omega), e1, e2]
  · rw [if_neg h]
    by_cases h2 : (c / 9 < j ∧ c % 9 < N) ∨ (c / 9 = j ∧ c % 9 < i)
    · rw [if_pos h2, if_pos (by omega)]
    · rw [if_neg h2, if_neg (by omega)]
theorem cF_row (q : Nat → Nat → Nat) (N : Nat) (A : Nat → Nat) (j : Nat) : cF q N A j N = cF q N A (j + 1) 0 := by
  funext c
  unfold cF
  by_cases h2 : (c / 9 < j ∧ c % 9 < N) ∨ (c / 9 = j ∧ c % 9 < N)
  · rw [if_pos h2, if_pos (by omega)]
  · rw [if_neg h2, if_neg (by omega)]
theorem cF_0 (q : Nat → Nat → Nat) (N : Nat) (A : Nat → Nat) : cF q N A 0 0 = A := funext fun c => if_neg (by omega)
/-- the part of an answerer: nobody first -/
def ptF (S w0 w1 : Nat → Nat) (j i : Nat) : Nat := S (15 * (if i = 0 then 15 else w0 (i - 1)) + w1 j) / 1000
/-- the product of the sums -/
def prD (q : Nat → Nat → Nat) (N : Nat) : Nat → Nat
  | 0 => 1
  | k + 1 => prD q N k * sumN (q k) N
def pwr (q : Nat → Nat → Nat) (N : Nat) (p : Nat) : Nat → Nat
  | 0 => 1
  | r + 1 => sumN (q p) N * pwr q N (p + 1) r
theorem prD_pwr (q : Nat → Nat → Nat) (N : Nat) : ∀ r p, prD q N p * pwr q N p r = prD q N (p + r)
  | 0, p => Nat.mul_one _
  | r + 1, p => by
    have := prD_pwr q N r (p + 1)
    rw [show p + (r + 1) = p + 1 + r by omega, ← this]
    show prD q N p * (sumN (q p) N * pwr q N (p + 1) r) = prD q N p * sumN (q p) N * _
    rw [Nat.mul_assoc]
theorem prD_congr {q q' : Nat → Nat → Nat} {N : Nat} : ∀ k, (∀ j i, j < k → i < N → q j i = q' j i) → prD q N k = prD q' N k
  | 0, _ => rfl
  | k + 1, h => by
    show prD q N k * sumN (q k) N = prD q' N k * sumN (q' k) N
    rw [prD_congr k (fun j i hj hi => h j i (by omega) hi), sumN_congr (fun i hi => h k i (by omega) hi)]
section M3
variable {d n : Nat} {h : Hp} {P N : Nat} {A : Nat → Nat}
theorem m3_cellOf {j i : Nat} : Ev d MX3_cellOf 0 (lv_args 0 [.int (nI j), .int (nI i)]) [] n h (.inl (some (.int (nI (j * 9 + i)))), n, h, 0, 0) := by
  refine ev_iload_n dX3_cellOf_0 rfl ?_
  refine ev_bipush dX3_cellOf_1 bp9 ?_
  first | refine ev_imulN dX3_cellOf_3 ?_ | refine ev_imul dX3_cellOf_3 ?_
  refine ev_iload_n dX3_cellOf_4 rfl ?_
  first | refine ev_iaddN dX3_cellOf_5 ?_ | refine ev_iadd dX3_cellOf_5 ?_
  exact ev_ireturnE dX3_cellOf_6 rfl (by rfl)
theorem m3_partOf {j i : Nat} (g : h 25 = aL 36 A) (hj : j < 4) (hi : i < 9) : Ev (d + 1) MX3_partOf 0 (lv_args 0 [.ref 25, .int (nI j), .int (nI i)]) [] n h (.inl (some (.long (lN (A (j * 9 + i))))), n, h, 0, 0) := by
  refine ev_iload_n dX3_partOf_0 rfl ?_
  refine ev_iload_n dX3_partOf_1 rfl ?_
  refine ev_S2 dX3_partOf_2 st_RX3_61 na_X3_cellOf (Nat.le_of_ble_eq_true rfl) (Nat.le_of_ble_eq_true rfl) (m3_cellOf) ?_
  refine ev_istore_n dX3_partOf_5 (Nat.le_of_ble_eq_true rfl) ?_
  first | refine ev_aload_n dX3_partOf_6 rfl ?_ | refine ev_aload_nN dX3_partOf_6 rfl ?_
  refine ev_ifnull dX3_partOf_7 ?_
  refine ev_iload_n dX3_partOf_10 rfl ?_
  refine ev_if_ltF dX3_partOf_11 26 (by decide) (by first | assumption | exact nI_pos (by omega) | decide) ?_
  refine ev_iload_n dX3_partOf_14 rfl ?_
  first | refine ev_aload_n dX3_partOf_15 rfl ?_ | refine ev_aload_nN dX3_partOf_15 rfl ?_
  refine ev_alen dX3_partOf_16 (by repeat (first | assumption | exact up_s | refine (up_n (by omega)).trans ?_)) (by decide) ?_
  refine ev_icmp_geF dX3_partOf_17 26 (by decide) (by first | assumption | exact nI_ge (by omega) (by omega) | decide) ?_
  first | refine ev_aload_n dX3_partOf_20 rfl ?_ | refine ev_aload_nN dX3_partOf_20 rfl ?_
  refine ev_iload_n dX3_partOf_21 rfl ?_
  refine ev_lald dX3_partOf_22 (by repeat (first | assumption | exact up_s | refine (up_n (by omega)).trans ?_)) _ rfl (by omega) (by omega) ?_
  refine ev_goto (tgt := 27) dX3_partOf_23 (by decide) ?_
  exact ev_lreturnE dX3_partOf_27 rfl (by rfl)
theorem m3_setPart {j i v : Nat} (g24 : h 24 = .inr (3, [.ref 25, .int (nI P), .int (nI N)])) (hj : j < 4) (hi : i < 9) : Ev (d + 1) MX3_setPart 0 (lv_args 0 [.ref 24, .int (nI j), .int (nI i), .long (lN v)]) [] n (va_up h 25 (aL 36 A)) (.inl none, n, va_up h 25 (aL 36 (va_up A (j * 9 + i) v)), 0, 0) := by
  refine ev_iload_n dX3_setPart_0 rfl ?_
  refine ev_iload_n dX3_setPart_1 rfl ?_
  refine ev_S2 dX3_setPart_2 st_RX3_61 na_X3_cellOf (Nat.le_of_ble_eq_true rfl) (Nat.le_of_ble_eq_true rfl) (m3_cellOf) ?_
  refine ev_istore dX3_setPart_5 (Nat.le_of_ble_eq_true rfl) ?_
  refine ev_iload dX3_setPart_7 rfl ?_
  refine ev_if_ltF dX3_setPart_9 30 (by decide) (by first | assumption | exact nI_pos (by omega) | decide) ?_
  refine ev_iload dX3_setPart_12 rfl ?_
  first | refine ev_aload_n dX3_setPart_14 rfl ?_ | refine ev_aload_nN dX3_setPart_14 rfl ?_
  refine ev_getfield dX3_setPart_15 fl_RX3_9 (by repeat (first | assumption | exact up_s | refine (up_n (by omega)).trans ?_)) rfl ?_
  refine ev_alen dX3_setPart_18 (by repeat (first | assumption | exact up_s | refine (up_n (by omega)).trans ?_)) (by decide) ?_
  refine ev_icmp_geF dX3_setPart_19 30 (by decide) (by first | assumption | exact nI_ge (by omega) (by omega) | decide) ?_
  first | refine ev_aload_n dX3_setPart_22 rfl ?_ | refine ev_aload_nN dX3_setPart_22 rfl ?_
  refine ev_getfield dX3_setPart_23 fl_RX3_9 (by repeat (first | assumption | exact up_s | refine (up_n (by omega)).trans ?_)) rfl ?_
  refine ev_iload dX3_setPart_26 rfl ?_
  refine ev_lload_n dX3_setPart_28 rfl ?_
  first | refine ev_last dX3_setPart_29 (by omega) (by repeat (first | assumption | exact up_s | refine (up_n (by omega)).trans ?_)) _ _ rfl rfl (by omega) (by omega) ?_ | refine ev_rast dX3_setPart_29 (by omega) (by repeat (first | assumption | exact up_s | refine (up_n (by omega)).trans ?_)) _ _ rfl rfl (by omega) (by omega) ?_
  refine ev_heap up_u ?_
  exact ev_vreturnE dX3_setPart_30 rfl (by rfl)
theorem lp_coI {S : Nat → Nat} {p t l0 l1 : Nat} {w0 w1 : Nat → Nat} (g24 : h 24 = .inr (3, [.ref 25, .int (nI P), .int (nI N)])) (g6 : Lh h 6 0) (g7 : h 7 = aI 240 S) (hS : SB S) (hp : Pr h p t l0 w0 l1 w1) (hpp : 26 ≤ p) {j : Nat} (hj4 : j < 4) (hj : j < l1) {o9 : Out}
    (K : Ev (d + 3) MX3_consider 126 [(0, .ref 24), (1, .ref p), (2, .ref 6), (3, .ref (p + 1)), (4, .ref (p + 3)), (5, .int (nI j)), (6, .int (nI (w1 j))), (7, .int (nI l0))] [] n (va_up h 25 (aL 36 (cF (ptF S w0 w1) (l0 + 1) A j (l0 + 1)))) o9) :
    ∀ k i, i + k = l0 → Ev (d + 3) MX3_consider 80 [(0, .ref 24), (1, .ref p), (2, .ref 6), (3, .ref (p + 1)), (4, .ref (p + 3)), (5, .int (nI j)), (6, .int (nI (w1 j))), (7, .int (nI i))] [] n (va_up h 25 (aL 36 (cF (ptF S w0 w1) (l0 + 1) A j (i + 1)))) o9 := by
  have hl0 := hp.2.1.2.2.1
  have hw0 := hp.2.1.2.2.2
  have hw1 := hp.2.2.2.2.2 j hj
  have hp2 := hp.2.1.1
  have hp3 := hp.2.2.1
  have hg6 := g6
  unfold Lh at hg6
  intro k
  induction k with
  | zero =>
    intro i hi
    have e : i = l0 := by omega
    subst e
    refine ev_iload dX3_consider_80 rfl ?_
    first | refine ev_aload_n dX3_consider_82 rfl ?_ | refine ev_aload_nN dX3_consider_82 rfl ?_
    refine ev_V0 dX3_consider_83 st_RX3_21 na_X6_length (Nat.le_of_ble_eq_true rfl) (Nat.le_of_ble_eq_true rfl) (by repeat (first | assumption | exact up_s | refine (up_n (by omega)).trans ?_)) rfl (m6_length (Pr_up hp (by omega)).2.1) ?_
    refine ev_icmp_geT (tgt := 126) dX3_consider_86 (by decide) (by first | assumption | exact nI_le (by omega) (by omega) | decide) ?_
    refine ev_sub ?_ (K)
    repeat (first | exact trivial | refine ⟨rfl, ?_⟩)
  | succ k ih =>
    intro i hi
    have ih := ih (i + 1) (by omega)
    have hw := hw0 i (by omega)
    have hs := hS (15 * w0 i + w1 j)
    refine ev_iload dX3_consider_80 rfl ?_
    first | refine ev_aload_n dX3_consider_82 rfl ?_ | refine ev_aload_nN dX3_consider_82 rfl ?_
    refine ev_V0 dX3_consider_83 st_RX3_21 na_X6_length (Nat.le_of_ble_eq_true rfl) (Nat.le_of_ble_eq_true rfl) (by repeat (first | assumption | exact up_s | refine (up_n (by omega)).trans ?_)) rfl (m6_length (Pr_up hp (by omega)).2.1) ?_
    refine ev_icmp_geF dX3_consider_86 126 (by decide) (by first | assumption | exact nI_ge (by omega) (by omega) | decide) ?_
    first | refine ev_aload_n dX3_consider_89 rfl ?_ | refine ev_aload_nN dX3_consider_89 rfl ?_
    first | refine ev_aload_n dX3_consider_90 rfl ?_ | refine ev_aload_nN dX3_consider_90 rfl ?_
    refine ev_iload dX3_consider_91 rfl ?_
    refine ev_V1 dX3_consider_93 st_RX3_40 na_X6_at (Nat.le_of_ble_eq_true rfl) (Nat.le_of_ble_eq_true rfl) (by repeat (first | assumption | exact up_s | refine (up_n (by omega)).trans ?_)) rfl (m6_atT (Pr_up hp (by omega)).2.1 (show i < l0 by omega)) ?_
    refine ev_iload dX3_consider_96 rfl ?_
    refine ev_V2 dX3_consider_98 st_RX3_44 na_X2_shareOf (Nat.le_of_ble_eq_true rfl) (Nat.le_of_ble_eq_true rfl) (by repeat (first | assumption | exact up_s | refine (up_n (by omega)).trans ?_)) rfl (m2_shareOf ((up_n (by omega)).trans g6) ((up_n (by omega)).trans g7) (show w0 i ≤ 15 by omega) hw1) ?_
    refine ev_istore dX3_consider_101 (Nat.le_of_ble_eq_true rfl) ?_
    first | refine ev_aload_n dX3_consider_103 rfl ?_ | refine ev_aload_nN dX3_consider_103 rfl ?_
    refine ev_iload dX3_consider_104 rfl ?_
    refine ev_iload dX3_consider_106 rfl ?_
    refine ev_iconst dX3_consider_108 ci1 ?_
    first | refine ev_iaddN dX3_consider_109 ?_ | refine ev_iadd dX3_consider_109 ?_
    refine ev_iload dX3_consider_110 rfl ?_
    refine ev_sipush dX3_consider_112 sp1000 ?_
    refine ev_idivN dX3_consider_115 (by omega) (by omega) (by omega) ?_
    refine ev_i2lN dX3_consider_116 (by omega) ?_
    refine ev_sub (ls1 := [(0, .ref 24), (1, .ref p), (2, .ref 6), (3, .ref (p + 1)), (4, .ref (p + 3)), (5, .int (nI j)), (6, .int (nI (w1 j))), (7, .int (nI i)), (8, .int (nI (S (15 * w0 i + w1 j))))]) (by repeat (first | exact trivial | refine ⟨rfl, ?_⟩)) ?_
    refine ev_V3v dX3_consider_117 st_RX3_49 na_X3_setPart (Nat.le_of_ble_eq_true rfl) (Nat.le_of_ble_eq_true rfl) (by repeat (first | assumption | exact up_s | refine (up_n (by omega)).trans ?_)) rfl (m3_setPart g24 hj4 (show i + 1 < 9 by omega)) ?_
    refine ev_iincN (b := 1) dX3_consider_120 rfl (Nat.le_of_ble_eq_true rfl) ?_
    refine ev_goto (tgt := 80) dX3_consider_123 (by decide) ?_
    refine ev_heap (congrArg (fun f => va_up h 25 (aL 36 f)) (cF_step (ptF S w0 w1) (l0 + 1) A j (i + 1) (by omega))) ?_
    refine ev_sub ?_ (ih)
    repeat (first | exact trivial | refine ⟨rfl, ?_⟩)
theorem lp_coJ {S : Nat → Nat} {p t l0 l1 : Nat} {w0 w1 : Nat → Nat} (g24 : h 24 = .inr (3, [.ref 25, .int (nI (min l1 4)), .int (nI N)])) (g6 : Lh h 6 0) (g7 : h 7 = aI 240 S) (hS : SB S) (hp : Pr h p t l0 w0 l1 w1) (hpp : 26 ≤ p) :
    ∀ k j, j + k = min l1 4 → Ev (d + 3) MX3_consider 39 [(0, .ref 24), (1, .ref p), (2, .ref 6), (3, .ref (p + 1)), (4, .ref (p + 3)), (5, .int (nI j))] [] n (va_up h 25 (aL 36 (cF (ptF S w0 w1) (l0 + 1) A j 0))) (.inl none, n, va_up h 25 (aL 36 (cF (ptF S w0 w1) (l0 + 1) A (min l1 4) 0)), 0, 0) := by
  have hl0 := hp.2.1.2.2.1
  have hl1 := hp.2.2.2.2.1
  have hp2 := hp.2.1.1
  have hp3 := hp.2.2.1
  have hg6 := g6
  unfold Lh at hg6
  intro k
  induction k with
  | zero =>
    intro j hj
    have e : j = min l1 4 := by omega
    subst e
    refine ev_iload dX3_consider_39 rfl ?_
    first | refine ev_aload_n dX3_consider_41 rfl ?_ | refine ev_aload_nN dX3_consider_41 rfl ?_
    refine ev_getfield dX3_consider_42 fl_RX3_33 (by repeat (first | assumption | exact up_s | refine (up_n (by omega)).trans ?_)) rfl ?_
    refine ev_icmp_geT (tgt := 132) dX3_consider_45 (by decide) (by first | assumption | exact nI_le (by omega) (by omega) | decide) ?_
    exact ev_vreturnE dX3_consider_132 rfl (by rfl)
  | succ k ih =>
    intro j hj
    have ih := ih (j + 1) (by omega)
    have hw1 := hp.2.2.2.2.2 j (by omega)
    have hs := hS (15 * 15 + w1 j)
    refine ev_iload dX3_consider_39 rfl ?_
    first | refine ev_aload_n dX3_consider_41 rfl ?_ | refine ev_aload_nN dX3_consider_41 rfl ?_
    refine ev_getfield dX3_consider_42 fl_RX3_33 (by repeat (first | assumption | exact up_s | refine (up_n (by omega)).trans ?_)) rfl ?_
    refine ev_icmp_geF dX3_consider_45 132 (by decide) (by first | assumption | exact nI_ge (by omega) (by omega) | decide) ?_
    first | refine ev_aload dX3_consider_48 rfl ?_ | refine ev_aloadN dX3_consider_48 rfl ?_
    refine ev_iload dX3_consider_50 rfl ?_
    refine ev_V1 dX3_consider_52 st_RX3_40 na_X6_at (Nat.le_of_ble_eq_true rfl) (Nat.le_of_ble_eq_true rfl) (by repeat (first | assumption | exact up_s | refine (up_n (by omega)).trans ?_)) rfl (m6_atT (Pr_up hp (by omega)).2.2 (show j < l1 by omega)) ?_
    refine ev_istore dX3_consider_55 (Nat.le_of_ble_eq_true rfl) ?_
    first | refine ev_aload_n dX3_consider_57 rfl ?_ | refine ev_aload_nN dX3_consider_57 rfl ?_
    refine ev_iload dX3_consider_58 rfl ?_
    refine ev_iconst dX3_consider_60 ci0 ?_
    first | refine ev_aload_n dX3_consider_61 rfl ?_ | refine ev_aload_nN dX3_consider_61 rfl ?_
    refine ev_bipush dX3_consider_62 bp15 ?_
    refine ev_iload dX3_consider_64 rfl ?_
    refine ev_V2 dX3_consider_66 st_RX3_44 na_X2_shareOf (Nat.le_of_ble_eq_true rfl) (Nat.le_of_ble_eq_true rfl) (by repeat (first | assumption | exact up_s | refine (up_n (by omega)).trans ?_)) rfl (m2_shareOf ((up_n (by omega)).trans g6) ((up_n (by omega)).trans g7) (show 15 ≤ 15 by omega) hw1) ?_
    refine ev_sipush dX3_consider_69 sp1000 ?_
    refine ev_idivN dX3_consider_72 (by omega) (by omega) (by omega) ?_
    refine ev_i2lN dX3_consider_73 (by omega) ?_
    refine ev_V3v dX3_consider_74 st_RX3_49 na_X3_setPart (Nat.le_of_ble_eq_true rfl) (Nat.le_of_ble_eq_true rfl) (by repeat (first | assumption | exact up_s | refine (up_n (by omega)).trans ?_)) rfl (m3_setPart g24 (show j < 4 by omega) (show 0 < 9 by omega)) ?_
    refine ev_iconst dX3_consider_77 ci0 ?_
    refine ev_istore dX3_consider_78 (Nat.le_of_ble_eq_true rfl) ?_
    refine ev_heap (congrArg (fun f => va_up h 25 (aL 36 f)) (cF_step (ptF S w0 w1) (l0 + 1) A j 0 (by omega))) ?_
    refine ev_sub ?_ (lp_coI (j := j) g24 g6 g7 hS hp hpp (by omega) (by omega) ?_ l0 0 (by omega))
    · repeat (first | exact trivial | refine ⟨rfl, ?_⟩)
    · refine ev_iincN (b := 1) dX3_consider_126 rfl (Nat.le_of_ble_eq_true rfl) ?_
      refine ev_goto (tgt := 39) dX3_consider_129 (by decide) ?_
      refine ev_heap (congrArg (fun f => va_up h 25 (aL 36 f)) (cF_row (ptF S w0 w1) (l0 + 1) A j)) ?_
      refine ev_sub ?_ (ih)
      repeat (first | exact trivial | refine ⟨rfl, ?_⟩)
abbrev LiX (h : Hp) (P N : Nat) (A : Nat → Nat) : Hp := va_up (va_up h 24 (.inr (3, [.ref 25, .int (nI P), .int (nI N)]))) 25 (aL 36 A)
theorem m3_consider {S : Nat → Nat} {p t l0 l1 : Nat} {w0 w1 : Nat → Nat} (g24 : h 24 = .inr (3, [.ref 25, .int (nI P), .int (nI N)])) (g25 : h 25 = aL 36 A) (g6 : Lh h 6 0) (g7 : h 7 = aI 240 S) (hS : SB S) (hp : Pr h p t l0 w0 l1 w1) (hpp : 26 ≤ p) :
    Ev (d + 3) MX3_consider 0 (lv_args 0 [.ref 24, .ref p, .ref 6]) [] n h (.inl none, n, LiX h (min l1 4) (l0 + 1) (cF (ptF S w0 w1) (l0 + 1) A (min l1 4) 0), 0, 0) := by
  have hl0 := hp.2.1.2.2.1
  have hl1 := hp.2.2.2.2.1
  have hp1 := hp.1
  have hp2 := hp.2.1.1
  have hp3 := hp.2.2.1
  have hg6 := g6
  unfold Lh at hg6
  first | refine ev_aload_n dX3_consider_0 rfl ?_ | refine ev_aload_nN dX3_consider_0 rfl ?_
  refine ev_iconst dX3_consider_1 ci0 ?_
  refine ev_V1 dX3_consider_2 st_RX3_15 na_X7_ofSide (Nat.le_of_ble_eq_true rfl) (Nat.le_of_ble_eq_true rfl) (by repeat (first | assumption | exact up_s | refine (up_n (by omega)).trans ?_)) rfl (m7_of0 hp) ?_
  first | refine ev_astore_n dX3_consider_5 (Nat.le_of_ble_eq_true rfl) ?_ | refine ev_astore_nN dX3_consider_5 (Nat.le_of_ble_eq_true rfl) ?_
  first | refine ev_aload_n dX3_consider_6 rfl ?_ | refine ev_aload_nN dX3_consider_6 rfl ?_
  refine ev_iconst dX3_consider_7 ci1 ?_
  refine ev_V1 dX3_consider_8 st_RX3_15 na_X7_ofSide (Nat.le_of_ble_eq_true rfl) (Nat.le_of_ble_eq_true rfl) (by repeat (first | assumption | exact up_s | refine (up_n (by omega)).trans ?_)) rfl (m7_of1 hp) ?_
  refine ev_astore dX3_consider_11 (Nat.le_of_ble_eq_true rfl) ?_
  first | refine ev_aload_n dX3_consider_13 rfl ?_ | refine ev_aload_nN dX3_consider_13 rfl ?_
  first | refine ev_aload dX3_consider_14 rfl ?_ | refine ev_aloadN dX3_consider_14 rfl ?_
  refine ev_V0 dX3_consider_16 st_RX3_21 na_X6_length (Nat.le_of_ble_eq_true rfl) (Nat.le_of_ble_eq_true rfl) (by repeat (first | assumption | exact up_s | refine (up_n (by omega)).trans ?_)) rfl (m6_length hp.2.2) ?_
  refine ev_iconst dX3_consider_19 ci4 ?_
  refine ev_callMinN dX3_consider_20 st_RX3_27 (Nat.le_of_ble_eq_true rfl) (by omega) (by omega) ?_
  refine ev_putfield dX3_consider_23 fl_RX3_33 (fit_3_1 _) (fun q => absurd q (by decide)) (by repeat (first | assumption | exact up_s | refine (up_n (by omega)).trans ?_)) (Nat.le_of_ble_eq_true rfl) ?_
  first | refine ev_aload_n dX3_consider_26 rfl ?_ | refine ev_aload_nN dX3_consider_26 rfl ?_
  first | refine ev_aload_n dX3_consider_27 rfl ?_ | refine ev_aload_nN dX3_consider_27 rfl ?_
  refine ev_V0 dX3_consider_28 st_RX3_21 na_X6_length (Nat.le_of_ble_eq_true rfl) (Nat.le_of_ble_eq_true rfl) (by repeat (first | assumption | exact up_s | refine (up_n (by omega)).trans ?_)) rfl (m6_length (Pr_up hp (by omega)).2.1) ?_
  refine ev_iconst dX3_consider_31 ci1 ?_
  first | refine ev_iaddN dX3_consider_32 ?_ | refine ev_iadd dX3_consider_32 ?_
  refine ev_putfield dX3_consider_33 fl_RX3_37 (fit_3_2 _) (fun q => absurd q (by decide)) (by repeat (first | assumption | exact up_s | refine (up_n (by omega)).trans ?_)) (Nat.le_of_ble_eq_true rfl) ?_
  refine ev_iconst dX3_consider_36 ci0 ?_
  refine ev_istore dX3_consider_37 (Nat.le_of_ble_eq_true rfl) ?_
  refine ev_heap up_u ?_
  refine ev_heap (h2 := va_up (va_up h 24 (.inr (3, [.ref 25, .int (nI (min l1 4)), .int (nI (l0 + 1))]))) 25 (aL 36 (cF (ptF S w0 w1) (l0 + 1) A 0 0))) (by rw [cF_0]; exact (up_id ((up_n (by omega)).trans g25)).symm) ?_
  refine ev_sub ?_ (lp_coJ (N := l0 + 1) up_s ((up_n (by omega)).trans g6) ((up_n (by omega)).trans g7) hS (Pr_up hp (by omega)) hpp (min l1 4) 0 (by omega))
  repeat (first | exact trivial | refine ⟨rfl, ?_⟩)
theorem lp_psI (g24 : h 24 = .inr (3, [.ref 25, .int (nI P), .int (nI N)])) (g25 : h 25 = aL 36 A) (hN : N ≤ 9) {q : Nat → Nat → Nat} {j : Nat} (hj : j < 4) (hq : ∀ i, i < N → A (j * 9 + i) = q j i) {x : Nat} {o9 : Out}
    (K : Ev (d + 2) MX3_productOfSums 48 [(0, .ref 24), (1, .long (lN x)), (3, .int (nI j)), (4, .long (lN (sumN (q j) N))), (6, .int (nI N))] [] n h o9) :
    ∀ k i, i + k = N → Ev (d + 2) MX3_productOfSums 18 [(0, .ref 24), (1, .long (lN x)), (3, .int (nI j)), (4, .long (lN (sumN (q j) i))), (6, .int (nI i))] [] n h o9 := by
  intro k
  induction k with
  | zero =>
    intro i hi
    have e : i = N := by omega
    subst e
    refine ev_iload dX3_productOfSums_18 rfl ?_
    first | refine ev_aload_n dX3_productOfSums_20 rfl ?_ | refine ev_aload_nN dX3_productOfSums_20 rfl ?_
    refine ev_getfield dX3_productOfSums_21 fl_RX3_37 (by repeat (first | assumption | exact up_s | refine (up_n (by omega)).trans ?_)) rfl ?_
    refine ev_icmp_geT (tgt := 48) dX3_productOfSums_24 (by decide) (by first | assumption | exact nI_le (by omega) (by omega) | decide) ?_
    refine ev_sub ?_ (K)
    repeat (first | exact trivial | refine ⟨rfl, ?_⟩)
  | succ k ih =>
    intro i hi
    have ih := ih (i + 1) (by omega)
    have e1 : sumN (q j) (i + 1) = sumN (q j) i + A (j * 9 + i) := by rw [hq i (by omega)]; rfl
    rw [e1] at ih
    refine ev_iload dX3_productOfSums_18 rfl ?_
    first | refine ev_aload_n dX3_productOfSums_20 rfl ?_ | refine ev_aload_nN dX3_productOfSums_20 rfl ?_
    refine ev_getfield dX3_productOfSums_21 fl_RX3_37 (by repeat (first | assumption | exact up_s | refine (up_n (by omega)).trans ?_)) rfl ?_
    refine ev_icmp_geF dX3_productOfSums_24 48 (by decide) (by first | assumption | exact nI_ge (by omega) (by omega) | decide) ?_
    refine ev_lload dX3_productOfSums_27 rfl ?_
    first | refine ev_aload_n dX3_productOfSums_29 rfl ?_ | refine ev_aload_nN dX3_productOfSums_29 rfl ?_
    refine ev_getfield dX3_productOfSums_30 fl_RX3_9 (by repeat (first | assumption | exact up_s | refine (up_n (by omega)).trans ?_)) rfl ?_
    refine ev_iload_n dX3_productOfSums_33 rfl ?_
    refine ev_iload dX3_productOfSums_34 rfl ?_
    refine ev_S3 dX3_productOfSums_36 st_RX3_53 na_X3_partOf (Nat.le_of_ble_eq_true rfl) (Nat.le_of_ble_eq_true rfl) (m3_partOf g25 hj (show i < 9 by omega)) ?_
    first | refine ev_laddN dX3_productOfSums_39 ?_ | refine ev_ladd dX3_productOfSums_39 ?_
    refine ev_lstore dX3_productOfSums_40 (Nat.le_of_ble_eq_true rfl) ?_
    refine ev_iincN (b := 1) dX3_productOfSums_42 rfl (Nat.le_of_ble_eq_true rfl) ?_
    refine ev_goto (tgt := 18) dX3_productOfSums_45 (by decide) ?_
    refine ev_sub ?_ (ih)
    repeat (first | exact trivial | refine ⟨rfl, ?_⟩)
theorem lp_psJ (g24 : h 24 = .inr (3, [.ref 25, .int (nI P), .int (nI N)])) (g25 : h 25 = aL 36 A) (hN : N ≤ 9) (hP : P ≤ 4) {q : Nat → Nat → Nat} (hq : ∀ j i, j < P → i < N → A (j * 9 + i) = q j i) :
    ∀ k j, j + k = P → Ev (d + 2) MX3_productOfSums 4 [(0, .ref 24), (1, .long (lN (prD q N j))), (3, .int (nI j))] [] n h (.inl (some (.long (lN (prD q N P)))), n, h, 0, 0) := by
  intro k
  induction k with
  | zero =>
    intro j hj
    have e : j = P := by omega
    subst e
    refine ev_iload_n dX3_productOfSums_4 rfl ?_
    first | refine ev_aload_n dX3_productOfSums_5 rfl ?_ | refine ev_aload_nN dX3_productOfSums_5 rfl ?_
    refine ev_getfield dX3_productOfSums_6 fl_RX3_33 (by repeat (first | assumption | exact up_s | refine (up_n (by omega)).trans ?_)) rfl ?_
    refine ev_icmp_geT (tgt := 59) dX3_productOfSums_9 (by decide) (by first | assumption | exact nI_le (by omega) (by omega) | decide) ?_
    refine ev_lload_n dX3_productOfSums_59 rfl ?_
    exact ev_lreturnE dX3_productOfSums_60 rfl (by rfl)
  | succ k ih =>
    intro j hj
    have ih := ih (j + 1) (by omega)
    refine ev_iload_n dX3_productOfSums_4 rfl ?_
    first | refine ev_aload_n dX3_productOfSums_5 rfl ?_ | refine ev_aload_nN dX3_productOfSums_5 rfl ?_
    refine ev_getfield dX3_productOfSums_6 fl_RX3_33 (by repeat (first | assumption | exact up_s | refine (up_n (by omega)).trans ?_)) rfl ?_
    refine ev_icmp_geF dX3_productOfSums_9 59 (by decide) (by first | assumption | exact nI_ge (by omega) (by omega) | decide) ?_
    refine ev_lconst dX3_productOfSums_12 lc0 ?_
    refine ev_lstore dX3_productOfSums_13 (Nat.le_of_ble_eq_true rfl) ?_
    refine ev_iconst dX3_productOfSums_15 ci0 ?_
    refine ev_istore dX3_productOfSums_16 (Nat.le_of_ble_eq_true rfl) ?_
    refine ev_sub ?_ (lp_psI (x := prD q N j) (j := j) (q := q) g24 g25 hN (by omega) (fun i hi => hq j i (by omega) hi) ?_ N 0 (by omega))
    · repeat (first | exact trivial | refine ⟨rfl, ?_⟩)
    · refine ev_lload_n dX3_productOfSums_48 rfl ?_
      refine ev_lload dX3_productOfSums_49 rfl ?_
      first | refine ev_lmulN dX3_productOfSums_51 ?_ | refine ev_lmul dX3_productOfSums_51 ?_
      refine ev_lstore_n dX3_productOfSums_52 (Nat.le_of_ble_eq_true rfl) ?_
      refine ev_iincN (b := 1) dX3_productOfSums_53 rfl (Nat.le_of_ble_eq_true rfl) ?_
      refine ev_goto (tgt := 4) dX3_productOfSums_56 (by decide) ?_
      refine ev_sub ?_ (ih)
      repeat (first | exact trivial | refine ⟨rfl, ?_⟩)
theorem m3_productOfSums (g24 : h 24 = .inr (3, [.ref 25, .int (nI P), .int (nI N)])) (g25 : h 25 = aL 36 A) (hN : N ≤ 9) (hP : P ≤ 4) {q : Nat → Nat → Nat} (hq : ∀ j i, j < P → i < N → A (j * 9 + i) = q j i) : Ev (d + 2) MX3_productOfSums 0 (lv_args 0 [.ref 24]) [] n h (.inl (some (.long (lN (prD q N P)))), n, h, 0, 0) := by
  refine ev_lconst dX3_productOfSums_0 lc1 ?_
  refine ev_lstore_n dX3_productOfSums_1 (Nat.le_of_ble_eq_true rfl) ?_
  refine ev_iconst dX3_productOfSums_2 ci0 ?_
  refine ev_istore_n dX3_productOfSums_3 (Nat.le_of_ble_eq_true rfl) ?_
  refine ev_sub ?_ (lp_psJ g24 g25 hN hP hq P 0 (by omega))
  repeat (first | exact trivial | refine ⟨rfl, ?_⟩)
theorem m3_sumOfWays (g25 : h 25 = aL 36 A) (hN : N ≤ 9) (hP : P ≤ 4) {q : Nat → Nat → Nat} (hq : ∀ j i, j < P → i < N → A (j * 9 + i) = q j i) :
    ∀ r p x, p + r = P → Ev (d + 2 + r) MX3_sumOfWays 0 (lv_args 0 [.ref 25, .int (nI P), .int (nI N), .int (nI p), .long (lN x)]) [] n h (.inl (some (.long (lN (x * pwr q N p r)))), n, h, 0, 0) := by
  intro r
  induction r with
  | zero =>
    intro p x hp
    have e : p = P := by omega
    subst e
    refine ev_iload_n dX3_sumOfWays_0 rfl ?_
    refine ev_iload_n dX3_sumOfWays_1 rfl ?_
    refine ev_icmp_geT (tgt := 10) dX3_sumOfWays_2 (by decide) (by first | assumption | exact nI_le (by omega) (by omega) | decide) ?_
    refine ev_lload dX3_sumOfWays_10 rfl ?_
    exact ev_lreturnE dX3_sumOfWays_12 rfl (by rw [show pwr q N p 0 = 1 from rfl, Nat.mul_one])
  | succ r ih =>
    intro p x hp
    have lp : ∀ k i, i + k = N → Ev (d + 2 + (r + 1)) MX3_sumOfWays 19 [(0, .ref 25), (1, .int (nI P)), (2, .int (nI N)), (3, .int (nI p)), (4, .long (lN x)), (6, .long (lN (x * (sumN (q p) i * pwr q N (p + 1) r)))), (8, .int (nI i))] [] n h (.inl (some (.long (lN (x * pwr q N p (r + 1))))), n, h, 0, 0) := by
      intro k
      induction k with
      | zero =>
        intro i hi
        have e : i = N := by omega
        subst e
        refine ev_iload dX3_sumOfWays_19 rfl ?_
        refine ev_iload_n dX3_sumOfWays_21 rfl ?_
        refine ev_icmp_geT (tgt := 59) dX3_sumOfWays_22 (by decide) (by first | assumption | exact nI_le (by omega) (by omega) | decide) ?_
        refine ev_lload dX3_sumOfWays_59 rfl ?_
        exact ev_lreturnE dX3_sumOfWays_61 rfl (by rfl)
      | succ k ih2 =>
        intro i hi
        have ih2 := ih2 (i + 1) (by omega)
        have e1 : x * (sumN (q p) (i + 1) * pwr q N (p + 1) r) = x * (sumN (q p) i * pwr q N (p + 1) r) + x * A (p * 9 + i) * pwr q N (p + 1) r := by
          rw [hq p i (by omega) (by omega)]
          show x * ((sumN (q p) i + q p i) * pwr q N (p + 1) r) = _
          rw [Nat.add_mul, Nat.mul_add, Nat.mul_assoc x]
        rw [e1] at ih2
        have hpo := m3_partOf (d := d + r + 1) (n := n) g25 (show p < 4 by omega) (show i < 9 by omega)
        rw [show d + r + 1 + 1 = d + 2 + r by omega] at hpo
        refine ev_iload dX3_sumOfWays_19 rfl ?_
        refine ev_iload_n dX3_sumOfWays_21 rfl ?_
        refine ev_icmp_geF dX3_sumOfWays_22 59 (by decide) (by first | assumption | exact nI_ge (by omega) (by omega) | decide) ?_
        refine ev_lload dX3_sumOfWays_25 rfl ?_
        first | refine ev_aload_n dX3_sumOfWays_27 rfl ?_ | refine ev_aload_nN dX3_sumOfWays_27 rfl ?_
        refine ev_iload_n dX3_sumOfWays_28 rfl ?_
        refine ev_iload dX3_sumOfWays_29 rfl ?_
        refine ev_S3 dX3_sumOfWays_31 st_RX3_53 na_X3_partOf (Nat.le_of_ble_eq_true rfl) (Nat.le_of_ble_eq_true rfl) (hpo) ?_
        first | refine ev_lmulN dX3_sumOfWays_34 ?_ | refine ev_lmul dX3_sumOfWays_34 ?_
        refine ev_lstore dX3_sumOfWays_35 (Nat.le_of_ble_eq_true rfl) ?_
        refine ev_lload dX3_sumOfWays_37 rfl ?_
        first | refine ev_aload_n dX3_sumOfWays_39 rfl ?_ | refine ev_aload_nN dX3_sumOfWays_39 rfl ?_
        refine ev_iload_n dX3_sumOfWays_40 rfl ?_
        refine ev_iload_n dX3_sumOfWays_41 rfl ?_
        refine ev_iload_n dX3_sumOfWays_42 rfl ?_
        refine ev_iconst dX3_sumOfWays_43 ci1 ?_
        first | refine ev_iaddN dX3_sumOfWays_44 ?_ | refine ev_iadd dX3_sumOfWays_44 ?_
        refine ev_lload dX3_sumOfWays_45 rfl ?_
        refine ev_S5 dX3_sumOfWays_47 st_RX3_57 na_X3_sumOfWays (Nat.le_of_ble_eq_true rfl) (Nat.le_of_ble_eq_true rfl) (ih (p + 1) (x * A (p * 9 + i)) (by omega)) ?_
        first | refine ev_laddN dX3_sumOfWays_50 ?_ | refine ev_ladd dX3_sumOfWays_50 ?_
        refine ev_lstore dX3_sumOfWays_51 (Nat.le_of_ble_eq_true rfl) ?_
        refine ev_iincN (b := 1) dX3_sumOfWays_53 rfl (Nat.le_of_ble_eq_true rfl) ?_
        refine ev_goto (tgt := 19) dX3_sumOfWays_56 (by decide) ?_
        refine ev_sub ?_ (ih2)
        repeat (first | exact trivial | refine ⟨rfl, ?_⟩)
    refine ev_iload_n dX3_sumOfWays_0 rfl ?_
    refine ev_iload_n dX3_sumOfWays_1 rfl ?_
    refine ev_icmp_geF dX3_sumOfWays_2 10 (by decide) (by first | assumption | exact nI_ge (by omega) (by omega) | decide) ?_
    refine ev_iload_n dX3_sumOfWays_5 rfl ?_
    refine ev_iconst dX3_sumOfWays_6 ci4 ?_
    refine ev_icmp_ltT (tgt := 13) dX3_sumOfWays_7 (by decide) (by first | assumption | exact nI_lt (by omega) (by omega) | decide) ?_
    refine ev_lconst dX3_sumOfWays_13 lc0 ?_
    refine ev_lstore dX3_sumOfWays_14 (Nat.le_of_ble_eq_true rfl) ?_
    refine ev_iconst dX3_sumOfWays_16 ci0 ?_
    refine ev_istore dX3_sumOfWays_17 (Nat.le_of_ble_eq_true rfl) ?_
    have lp0 := lp N 0 (by omega)
    rw [show x * (sumN (q p) 0 * pwr q N (p + 1) r) = 0 from by show x * (0 * _) = 0; rw [Nat.zero_mul]; rfl] at lp0
    refine ev_sub ?_ lp0
    repeat (first | exact trivial | refine ⟨rfl, ?_⟩)
theorem m3_sumOfProducts (g24 : h 24 = .inr (3, [.ref 25, .int (nI P), .int (nI N)])) (g25 : h 25 = aL 36 A) (hN : N ≤ 9) (hP : P ≤ 4) {q : Nat → Nat → Nat} (hq : ∀ j i, j < P → i < N → A (j * 9 + i) = q j i) : Ev (d + 7) MX3_sumOfProducts 0 (lv_args 0 [.ref 24]) [] n h (.inl (some (.long (lN (prD q N P)))), n, h, 0, 0) := by
  have hw := m3_sumOfWays (d := d + 4 - P) (n := n) g25 hN hP hq P 0 1 (by omega)
  rw [show d + 4 - P + 2 + P = d + 6 by omega] at hw
  have e := prD_pwr q N P 0
  rw [Nat.zero_add, show prD q N 0 = 1 from rfl] at e
  rw [e] at hw
  first | refine ev_aload_n dX3_sumOfProducts_0 rfl ?_ | refine ev_aload_nN dX3_sumOfProducts_0 rfl ?_
  refine ev_getfield dX3_sumOfProducts_1 fl_RX3_9 (by repeat (first | assumption | exact up_s | refine (up_n (by omega)).trans ?_)) rfl ?_
  first | refine ev_aload_n dX3_sumOfProducts_4 rfl ?_ | refine ev_aload_nN dX3_sumOfProducts_4 rfl ?_
  refine ev_getfield dX3_sumOfProducts_5 fl_RX3_33 (by repeat (first | assumption | exact up_s | refine (up_n (by omega)).trans ?_)) rfl ?_
  first | refine ev_aload_n dX3_sumOfProducts_8 rfl ?_ | refine ev_aload_nN dX3_sumOfProducts_8 rfl ?_
  refine ev_getfield dX3_sumOfProducts_9 fl_RX3_37 (by repeat (first | assumption | exact up_s | refine (up_n (by omega)).trans ?_)) rfl ?_
  refine ev_iconst dX3_sumOfProducts_12 ci0 ?_
  refine ev_lconst dX3_sumOfProducts_13 lc1 ?_
  refine ev_S5 dX3_sumOfProducts_14 st_RX3_57 na_X3_sumOfWays (Nat.le_of_ble_eq_true rfl) (Nat.le_of_ble_eq_true rfl) (hw) ?_
  exact ev_lreturnE dX3_sumOfProducts_17 rfl (by rfl)
end M3
