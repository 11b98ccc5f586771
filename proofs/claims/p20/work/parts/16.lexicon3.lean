/-! lexicons, third part: wholes, apportioning, start and learn -/
def wF (c : Nat → Nat) (s j : Nat) : Nat → Nat := fun k => if k < j then whF c s k else 0
def wR (c : Nat → Nat) (s j : Nat) (R0 : Nat → Int) : Nat → Int := fun k => if k < j then whR c s k else R0 k
theorem wF_0 (c : Nat → Nat) (s : Nat) : wF c s 0 = fun _ => 0 := funext fun k => if_neg (by omega)
theorem wR_0 (c : Nat → Nat) (s : Nat) (R0 : Nat → Int) : wR c s 0 R0 = R0 := funext fun k => if_neg (by omega)
theorem wF_15 (c : Nat → Nat) (s : Nat) : wF c s 15 = whF c s := funext fun k => by
  unfold wF
  split
  · rfl
  · next q => exact (if_neg q).symm
theorem wF_s {c : Nat → Nat} {s j : Nat} (hj : j < 15) : va_up (wF c s j) j (c j * 1000000 / s) = wF c s (j + 1) := by
  funext k
  unfold va_up wF
  by_cases q : k = j
  · subst q
    rw [if_pos rfl, if_pos (by omega)]
    exact (if_pos hj).symm
  · rw [if_neg q]
    by_cases q2 : k < j
    · rw [if_pos q2, if_pos (by omega)]
    · rw [if_neg q2, if_neg (by omega)]
theorem wR_s {c : Nat → Nat} {s j : Nat} {R0 : Nat → Int} (hj : j < 15) : va_up (wR c s j R0) j ((c j * 1000000 % s : Nat) : Int) = wR c s (j + 1) R0 := by
  funext k
  unfold va_up wR
  by_cases q : k = j
  · subst q
    rw [if_pos rfl, if_pos (by omega)]
    exact (if_pos hj).symm
  · rw [if_neg q]
    by_cases q2 : k < j
    · rw [if_pos q2, if_pos (by omega)]
    · rw [if_neg q2, if_neg (by omega)]
theorem up_idN {f : Nat → Nat} {k v : Nat} (h : f k = v) : va_up f k v = f := by
  funext j
  unfold va_up
  split
  · next q => rw [q, h]
  · rfl
theorem whF_le (c : Nat → Nat) {s : Nat} (hs : s = sumN c 15) (h0 : 0 < s) (k : Nat) : whF c s k ≤ 1000000 := by
  rcases Nat.lt_or_ge k 15 with q | q
  · have h1 := sumN_le (f := whF c s) q
    have h2 := wh_le hs h0 (Nat.le_refl 15)
    omega
  · unfold whF
    rw [if_neg (by omega)]
    omega
theorem whR_bd (c : Nat → Nat) {s : Nat} (h0 : 0 < s) (h1 : s < 2 ^ 40) (k : Nat) (hk : k < 15) : -1 ≤ whR c s k ∧ whR c s k < 2 ^ 62 := by
  unfold whR
  rw [if_pos hk]
  have := Nat.mod_lt (c k * 1000000) h0
  constructor <;> omega
section M2C
variable {d n x D : Nat} {h : Hp} {S C F : Nat → Nat} {R : Nat → Int}
theorem lp_gw {wd s : Nat} {c : Nat → Nat} (hc : c = fun k => C (15 * wd + k)) (g : Lh h x D) (hw : wd ≤ 15) (hC : ∀ k, C k ≤ 2000000000) (hs : s = sumN c 15) (h0 : 0 < s) :
    ∀ k j, j + k = 15 → Ev (d + 2) MX2_giveWholes 7 [(0, .ref x), (1, .int (nI wd)), (2, .long (lN s)), (4, .int (nI (1000000 - sumN (whF c s) j))), (5, .int (nI j))] [] n (LX h x S C (wF c s j) (wR c s j R)) (.inl (some (.int (nI (whM c s)))), n, LX h x S C (whF c s) (whR c s), 0, 0) := by
  have s1 : s ≤ 15 * 2000000000 := by rw [hs, hc]; exact sumN_bd fun k _ => hC _
  intro k
  induction k with
  | zero =>
    intro j hj
    have e : j = 15 := by omega
    subst e
    refine ev_iload dX2_giveWholes_7 rfl ?_
    first | refine ev_aload_n dX2_giveWholes_9 rfl ?_ | refine ev_aload_nN dX2_giveWholes_9 rfl ?_
    refine ev_getfield dX2_giveWholes_10 fl_RX2_19 (by repeat (first | assumption | exact up_s | refine (up_n (by omega)).trans ?_)) rfl ?_
    refine ev_alen dX2_giveWholes_13 (by repeat (first | assumption | exact up_s | refine (up_n (by omega)).trans ?_)) (by decide) ?_
    refine ev_icmp_geT (tgt := 101) dX2_giveWholes_14 (by decide) (by first | assumption | exact nI_le (by omega) (by omega) | decide) ?_
    refine ev_extL (a := x + 4) (t := 1) (len := 15) (f := fun k => lZ (wR c s 15 R k)) (f2 := fun k => lZ (whR c s k)) (by omega) LX_4 (fun j hj => by show lZ (if j < 15 then whR c s j else R j) = _; rw [if_pos hj]) ?_
    refine ev_heap (LX_R _) ?_
    refine ev_heap (h2 := LX h x S C (whF c s) (whR c s)) (by rw [wF_15]) ?_
    refine ev_iload dX2_giveWholes_101 rfl ?_
    exact ev_ireturnE dX2_giveWholes_103 rfl (by rfl)
  | succ k ih =>
    intro j hj
    have s2 := hC (15 * wd + j)
    have s3 : c j = C (15 * wd + j) := by rw [hc]
    have s4 : whF c s j = c j * 1000000 / s := if_pos (by omega)
    have s5 := wh_le hs h0 (n := j + 1) (by omega)
    have s6 : sumN (whF c s) (j + 1) = sumN (whF c s) j + whF c s j := rfl
    have s7 : 1000000 - sumN (whF c s) j - whF c s j = 1000000 - sumN (whF c s) (j + 1) := by omega
    have ih := ih (j + 1) (by omega)
    rw [← s7] at ih
    refine ev_iload dX2_giveWholes_7 rfl ?_
    first | refine ev_aload_n dX2_giveWholes_9 rfl ?_ | refine ev_aload_nN dX2_giveWholes_9 rfl ?_
    refine ev_getfield dX2_giveWholes_10 fl_RX2_19 (by repeat (first | assumption | exact up_s | refine (up_n (by omega)).trans ?_)) rfl ?_
    refine ev_alen dX2_giveWholes_13 (by repeat (first | assumption | exact up_s | refine (up_n (by omega)).trans ?_)) (by decide) ?_
    refine ev_icmp_geF dX2_giveWholes_14 101 (by decide) (by first | assumption | exact nI_ge (by omega) (by omega) | decide) ?_
    refine ev_iload dX2_giveWholes_17 rfl ?_
    first | refine ev_aload_n dX2_giveWholes_19 rfl ?_ | refine ev_aload_nN dX2_giveWholes_19 rfl ?_
    refine ev_getfield dX2_giveWholes_20 fl_RX2_22 (by repeat (first | assumption | exact up_s | refine (up_n (by omega)).trans ?_)) rfl ?_
    refine ev_alen dX2_giveWholes_23 (by repeat (first | assumption | exact up_s | refine (up_n (by omega)).trans ?_)) (by decide) ?_
    refine ev_icmp_geF dX2_giveWholes_24 101 (by decide) (by first | assumption | exact nI_ge (by omega) (by omega) | decide) ?_
    first | refine ev_aload_n dX2_giveWholes_27 rfl ?_ | refine ev_aload_nN dX2_giveWholes_27 rfl ?_
    refine ev_iload_n dX2_giveWholes_28 rfl ?_
    refine ev_iload dX2_giveWholes_29 rfl ?_
    refine ev_V2 dX2_giveWholes_31 st_RX2_111 na_X2_countOf (Nat.le_of_ble_eq_true rfl) (Nat.le_of_ble_eq_true rfl) (by repeat (first | assumption | exact up_s | refine (up_n (by omega)).trans ?_)) rfl (m2_countOf (LX_h g) LX_2 hw (show j < 15 by omega)) ?_
    refine ev_ldc2 (v := lN 1000000) dX2_giveWholes_34 (am_in 609 (by decide +kernel) rfl) ?_
    first | refine ev_lmulN dX2_giveWholes_37 ?_ | refine ev_lmul dX2_giveWholes_37 ?_
    refine ev_lstore dX2_giveWholes_38 (Nat.le_of_ble_eq_true rfl) ?_
    first | refine ev_aload_n dX2_giveWholes_40 rfl ?_ | refine ev_aload_nN dX2_giveWholes_40 rfl ?_
    refine ev_getfield dX2_giveWholes_41 fl_RX2_19 (by repeat (first | assumption | exact up_s | refine (up_n (by omega)).trans ?_)) rfl ?_
    refine ev_iload dX2_giveWholes_44 rfl ?_
    refine ev_lload_n dX2_giveWholes_46 rfl ?_
    refine ev_lconst dX2_giveWholes_47 lc0 ?_
    refine ev_lcmpN dX2_giveWholes_48 (by omega) (by omega) ?_
    refine ev_if_leF dX2_giveWholes_49 60 (by decide) (by first | assumption | exact cmp_ngt (by omega)) ?_
    refine ev_lload dX2_giveWholes_52 rfl ?_
    refine ev_lload_n dX2_giveWholes_54 rfl ?_
    refine ev_ldivN dX2_giveWholes_55 (by omega) (by omega) (by omega) ?_
    refine ev_l2iN dX2_giveWholes_56 ?_
    refine ev_goto (tgt := 61) dX2_giveWholes_57 (by decide) ?_
    refine ev_iast dX2_giveWholes_61 (by omega) LX_3 _ _ rfl rfl (by omega) (by omega) ?_
    first | refine ev_aload_n dX2_giveWholes_62 rfl ?_ | refine ev_aload_nN dX2_giveWholes_62 rfl ?_
    refine ev_getfield dX2_giveWholes_63 fl_RX2_22 (by repeat (first | assumption | exact up_s | refine (up_n (by omega)).trans ?_)) rfl ?_
    refine ev_iload dX2_giveWholes_66 rfl ?_
    refine ev_lload_n dX2_giveWholes_68 rfl ?_
    refine ev_lconst dX2_giveWholes_69 lc0 ?_
    refine ev_lcmpN dX2_giveWholes_70 (by omega) (by omega) ?_
    refine ev_if_leF dX2_giveWholes_71 81 (by decide) (by first | assumption | exact cmp_ngt (by omega)) ?_
    refine ev_lload dX2_giveWholes_74 rfl ?_
    refine ev_lload_n dX2_giveWholes_76 rfl ?_
    refine ev_lremN dX2_giveWholes_77 (by omega) (by omega) (by omega) ?_
    refine ev_goto (tgt := 82) dX2_giveWholes_78 (by decide) ?_
    refine ev_rast dX2_giveWholes_82 (by omega) (by repeat (first | assumption | exact up_s | exact LX_4 | refine (up_n (by omega)).trans ?_)) _ _ rfl (lN_lZ _) (by omega) (by omega) ?_
    have e1 := wF_s (c := c) (s := s) (show j < 15 by omega)
    have e2 := wR_s (c := c) (s := s) (R0 := R) (show j < 15 by omega)
    rw [s3] at e1 e2
    refine ev_heap (h2 := LX h x S C (wF c s (j + 1)) (wR c s (j + 1) R)) (by rw [LX_F, LX_R, e1, e2]) ?_
    refine ev_iload dX2_giveWholes_83 rfl ?_
    first | refine ev_aload_n dX2_giveWholes_85 rfl ?_ | refine ev_aload_nN dX2_giveWholes_85 rfl ?_
    refine ev_getfield dX2_giveWholes_86 fl_RX2_19 (by repeat (first | assumption | exact up_s | refine (up_n (by omega)).trans ?_)) rfl ?_
    refine ev_iload dX2_giveWholes_89 rfl ?_
    refine ev_iald dX2_giveWholes_91 (by repeat (first | assumption | exact up_s | refine (up_n (by omega)).trans ?_)) _ rfl (by omega) (by omega) ?_
    refine ev_top (v2 := .int (nI (whF c s j))) (congrArg (fun z => Value.int (nI z)) (if_pos (by omega))) ?_
    first | refine ev_isubN dX2_giveWholes_92 (by omega) ?_ | refine ev_isub dX2_giveWholes_92 ?_
    refine ev_istore dX2_giveWholes_93 (Nat.le_of_ble_eq_true rfl) ?_
    refine ev_iincN (b := 1) dX2_giveWholes_95 rfl (Nat.le_of_ble_eq_true rfl) ?_
    refine ev_goto (tgt := 7) dX2_giveWholes_98 (by decide) ?_
    refine ev_sub ?_ (ih)
    repeat (first | exact trivial | refine ⟨rfl, ?_⟩)
theorem m2_giveWholes {wd s : Nat} {c : Nat → Nat} (hc : c = fun k => C (15 * wd + k)) (g : Lh h x D) (hw : wd ≤ 15) (hC : ∀ k, C k ≤ 2000000000) (hs : s = sumN c 15) (h0 : 0 < s) : Ev (d + 2) MX2_giveWholes 0 (lv_args 0 [.ref x, .int (nI wd), .long (lN s)]) [] n (LX h x S C (fun _ => 0) R) (.inl (some (.int (nI (whM c s)))), n, LX h x S C (whF c s) (whR c s), 0, 0) := by
  refine ev_ldc (v := nI 1000000) dX2_giveWholes_0 (am_in 608 (by decide +kernel) rfl) ?_
  refine ev_istore dX2_giveWholes_2 (Nat.le_of_ble_eq_true rfl) ?_
  refine ev_iconst dX2_giveWholes_4 ci0 ?_
  refine ev_istore dX2_giveWholes_5 (Nat.le_of_ble_eq_true rfl) ?_
  refine ev_heap (h2 := LX h x S C (wF c s 0) (wR c s 0 R)) (by rw [wF_0, wR_0]) ?_
  refine ev_sub ?_ (lp_gw hc g hw hC hs h0 15 0 (by omega))
  repeat (first | exact trivial | refine ⟨rfl, ?_⟩)
theorem lp_ap {wd : Nat} {c : Nat → Nat} {o9 : Out} (hc : c = fun k => C (15 * wd + k)) (g : Lh h x D) (hw : wd ≤ 15) (K : Ev (d + 3) MX2_apportion 36 [(0, .ref x), (1, .int (nI wd)), (2, .long (lN (sumN c 15)))] [] n (LX h x S C F R) o9) :
    ∀ k j, j + k = 15 → Ev (d + 3) MX2_apportion 13 [(0, .ref x), (1, .int (nI wd)), (2, .long (lN (sumN c j))), (4, .int (nI j))] [] n (LX h x S C F R) o9 := by
  intro k
  induction k with
  | zero =>
    intro j hj
    have e : j = 15 := by omega
    subst e
    refine ev_iload dX2_apportion_13 rfl ?_
    refine ev_bipush dX2_apportion_15 bp15 ?_
    refine ev_icmp_geT (tgt := 36) dX2_apportion_17 (by decide) (by first | assumption | exact nI_le (by omega) (by omega) | decide) ?_
    refine ev_sub ?_ (K)
    repeat (first | exact trivial | refine ⟨rfl, ?_⟩)
  | succ k ih =>
    intro j hj
    have ih := ih (j + 1) (by omega)
    have e : sumN c (j + 1) = sumN c j + C (15 * wd + j) := by rw [hc]; rfl
    rw [e] at ih
    refine ev_iload dX2_apportion_13 rfl ?_
    refine ev_bipush dX2_apportion_15 bp15 ?_
    refine ev_icmp_geF dX2_apportion_17 36 (by decide) (by first | assumption | exact nI_ge (by omega) (by omega) | decide) ?_
    refine ev_lload_n dX2_apportion_20 rfl ?_
    first | refine ev_aload_n dX2_apportion_21 rfl ?_ | refine ev_aload_nN dX2_apportion_21 rfl ?_
    refine ev_iload_n dX2_apportion_22 rfl ?_
    refine ev_iload dX2_apportion_23 rfl ?_
    refine ev_V2 dX2_apportion_25 st_RX2_111 na_X2_countOf (Nat.le_of_ble_eq_true rfl) (Nat.le_of_ble_eq_true rfl) (by repeat (first | assumption | exact up_s | refine (up_n (by omega)).trans ?_)) rfl (m2_countOf (LX_h g) LX_2 hw (show j < 15 by omega)) ?_
    first | refine ev_laddN dX2_apportion_28 ?_ | refine ev_ladd dX2_apportion_28 ?_
    refine ev_lstore_n dX2_apportion_29 (Nat.le_of_ble_eq_true rfl) ?_
    refine ev_iincN (b := 1) dX2_apportion_30 rfl (Nat.le_of_ble_eq_true rfl) ?_
    refine ev_goto (tgt := 13) dX2_apportion_33 (by decide) ?_
    refine ev_sub ?_ (ih)
    repeat (first | exact trivial | refine ⟨rfl, ?_⟩)
theorem m2_apportion {wd : Nat} (g : Lh h x D) (hw : wd ≤ 15) (hC : ∀ k, C k ≤ 2000000000) : ∃ R' : Nat → Int, Ev (d + 3) MX2_apportion 0 (lv_args 0 [.ref x, .int (nI wd)]) [] n (LX h x S C F R) (.inl none, n, LX h x S C (apF (fun k => C (15 * wd + k))) R', 0, 0) := by
  obtain ⟨c, hc⟩ : ∃ c : Nat → Nat, c = fun k => C (15 * wd + k) := ⟨_, rfl⟩
  rw [← hc]
  have hbd : sumN c 15 ≤ 15 * 2000000000 := by rw [hc]; exact sumN_bd fun k _ => hC _
  by_cases q : sumN c 15 = 0
  · refine ⟨R, ?_⟩
    have e : apF c = fun _ => 0 := if_pos q
    rw [e]
    first | refine ev_aload_n dX2_apportion_0 rfl ?_ | refine ev_aload_nN dX2_apportion_0 rfl ?_
    refine ev_getfield dX2_apportion_1 fl_RX2_19 (by repeat (first | assumption | exact up_s | refine (up_n (by omega)).trans ?_)) rfl ?_
    refine ev_iconst dX2_apportion_4 ci0 ?_
    refine ev_S2v dX2_apportion_5 st_RX2_108 na_J7_fill_53178 (Nat.le_of_ble_eq_true rfl) (Nat.le_of_ble_eq_true rfl) (mJ_fillI (v := 0) (by omega) (by omega) LX_3) ?_
    refine ev_lconst dX2_apportion_8 lc0 ?_
    refine ev_lstore_n dX2_apportion_9 (Nat.le_of_ble_eq_true rfl) ?_
    refine ev_iconst dX2_apportion_10 ci0 ?_
    refine ev_istore dX2_apportion_11 (Nat.le_of_ble_eq_true rfl) ?_
    refine ev_heap (LX_F _) ?_
    refine ev_sub ?_ (lp_ap (R := R) hc g hw ?_ 15 0 (by omega))
    · repeat (first | exact trivial | refine ⟨rfl, ?_⟩)
    · rw [q]
      refine ev_lload_n dX2_apportion_36 rfl ?_
      refine ev_lconst dX2_apportion_37 lc0 ?_
      refine ev_lcmpN dX2_apportion_38 (by omega) (by omega) ?_
      refine ev_if_leT (tgt := 52) dX2_apportion_39 (by decide) (by first | assumption | exact cmp_le (by omega)) ?_
      exact ev_vreturnE dX2_apportion_52 rfl (by rfl)
  · refine ⟨(grF (whM c (sumN c 15)) (whF c (sumN c 15), whR c (sumN c 15))).2, ?_⟩
    have e : apF c = (grF (whM c (sumN c 15)) (whF c (sumN c 15), whR c (sumN c 15))).1 := if_neg q
    rw [e]
    first | refine ev_aload_n dX2_apportion_0 rfl ?_ | refine ev_aload_nN dX2_apportion_0 rfl ?_
    refine ev_getfield dX2_apportion_1 fl_RX2_19 (by repeat (first | assumption | exact up_s | refine (up_n (by omega)).trans ?_)) rfl ?_
    refine ev_iconst dX2_apportion_4 ci0 ?_
    refine ev_S2v dX2_apportion_5 st_RX2_108 na_J7_fill_53178 (Nat.le_of_ble_eq_true rfl) (Nat.le_of_ble_eq_true rfl) (mJ_fillI (v := 0) (by omega) (by omega) LX_3) ?_
    refine ev_lconst dX2_apportion_8 lc0 ?_
    refine ev_lstore_n dX2_apportion_9 (Nat.le_of_ble_eq_true rfl) ?_
    refine ev_iconst dX2_apportion_10 ci0 ?_
    refine ev_istore dX2_apportion_11 (Nat.le_of_ble_eq_true rfl) ?_
    refine ev_heap (LX_F _) ?_
    refine ev_sub ?_ (lp_ap (R := R) hc g hw ?_ 15 0 (by omega))
    · repeat (first | exact trivial | refine ⟨rfl, ?_⟩)
    · refine ev_lload_n dX2_apportion_36 rfl ?_
      refine ev_lconst dX2_apportion_37 lc0 ?_
      refine ev_lcmpN dX2_apportion_38 (by omega) (by omega) ?_
      refine ev_if_leF dX2_apportion_39 52 (by decide) (by first | assumption | exact cmp_ngt (by omega)) ?_
      first | refine ev_aload_n dX2_apportion_42 rfl ?_ | refine ev_aload_nN dX2_apportion_42 rfl ?_
      first | refine ev_aload_n dX2_apportion_43 rfl ?_ | refine ev_aload_nN dX2_apportion_43 rfl ?_
      refine ev_iload_n dX2_apportion_44 rfl ?_
      refine ev_lload_n dX2_apportion_45 rfl ?_
      refine ev_V2 dX2_apportion_46 st_RX2_115 na_X2_giveWholes (Nat.le_of_ble_eq_true rfl) (Nat.le_of_ble_eq_true rfl) (by repeat (first | assumption | exact up_s | refine (up_n (by omega)).trans ?_)) rfl (m2_giveWholes hc g hw hC rfl (by omega)) ?_
      refine ev_V1v dX2_apportion_49 st_RX2_119 na_X2_giveRests (Nat.le_of_ble_eq_true rfl) (Nat.le_of_ble_eq_true rfl) (by repeat (first | assumption | exact up_s | refine (up_n (by omega)).trans ?_)) rfl (m2_giveRests g (whF_le c rfl (by omega)) (whR_bd c (by omega) (by omega)) (whM_lt rfl (by omega))) ?_
      exact ev_vreturnE dX2_apportion_52 rfl (by rfl)
theorem lp_rs {wd : Nat} (hx1 : 4 ≤ x) (g : Lh h x D) (hw : wd ≤ 15) (hS : SB S) (hF : ∀ k, k < 15 → F k ≤ 1000000) :
    ∀ k j, j + k = 15 → Ev (d + 1) MX2_replaceShares 4 [(0, .ref x), (1, .int (nI wd)), (2, .int (nI (rsN F (15 * wd) S j))), (3, .int (nI j))] [] n (LX h x (rsS F (15 * wd) j S) C F R) (.inl (some (.int (nI (rsN F (15 * wd) S 15)))), n, LX h x (rsS F (15 * wd) 15 S) C F R, 0, 0) := by
  intro k
  induction k with
  | zero =>
    intro j hj
    have e : j = 15 := by omega
    subst e
    refine ev_iload_n dX2_replaceShares_4 rfl ?_
    first | refine ev_aload_n dX2_replaceShares_5 rfl ?_ | refine ev_aload_nN dX2_replaceShares_5 rfl ?_
    refine ev_getfield dX2_replaceShares_6 fl_RX2_19 (by repeat (first | assumption | exact up_s | refine (up_n (by omega)).trans ?_)) rfl ?_
    refine ev_alen dX2_replaceShares_9 (by repeat (first | assumption | exact up_s | refine (up_n (by omega)).trans ?_)) (by decide) ?_
    refine ev_icmp_geT (tgt := 73) dX2_replaceShares_10 (by decide) (by first | assumption | exact nI_le (by omega) (by omega) | decide) ?_
    refine ev_iload_n dX2_replaceShares_73 rfl ?_
    exact ev_ireturnE dX2_replaceShares_74 rfl (by rfl)
  | succ k ih =>
    intro j hj
    have s1 := rsS_SB (b := 15 * wd) hF hS j (by omega) (15 * wd + j)
    have s2 := hF j (by omega)
    have ih := ih (j + 1) (by omega)
    by_cases q : rsS F (15 * wd) j S (15 * wd + j) = F j
    · have e1 : rsS F (15 * wd) (j + 1) S = rsS F (15 * wd) j S := up_idN q
      have e2 : rsN F (15 * wd) S (j + 1) = rsN F (15 * wd) S j := by show _ + ite _ _ _ = _; rw [if_pos q]; rfl
      rw [e1, e2] at ih
      refine ev_iload_n dX2_replaceShares_4 rfl ?_
      first | refine ev_aload_n dX2_replaceShares_5 rfl ?_ | refine ev_aload_nN dX2_replaceShares_5 rfl ?_
      refine ev_getfield dX2_replaceShares_6 fl_RX2_19 (by repeat (first | assumption | exact up_s | refine (up_n (by omega)).trans ?_)) rfl ?_
      refine ev_alen dX2_replaceShares_9 (by repeat (first | assumption | exact up_s | refine (up_n (by omega)).trans ?_)) (by decide) ?_
      refine ev_icmp_geF dX2_replaceShares_10 73 (by decide) (by first | assumption | exact nI_ge (by omega) (by omega) | decide) ?_
      refine ev_iload_n dX2_replaceShares_13 rfl ?_
      refine ev_iload_n dX2_replaceShares_14 rfl ?_
      refine ev_S2 dX2_replaceShares_15 st_RX2_29 na_X2_cellOf (Nat.le_of_ble_eq_true rfl) (Nat.le_of_ble_eq_true rfl) (m2_cellOf hw (show j < 15 by omega)) ?_
      refine ev_istore dX2_replaceShares_18 (Nat.le_of_ble_eq_true rfl) ?_
      refine ev_iload dX2_replaceShares_20 rfl ?_
      refine ev_if_ltF dX2_replaceShares_22 67 (by decide) (by first | assumption | exact nI_pos (by omega) | decide) ?_
      refine ev_iload dX2_replaceShares_25 rfl ?_
      first | refine ev_aload_n dX2_replaceShares_27 rfl ?_ | refine ev_aload_nN dX2_replaceShares_27 rfl ?_
      refine ev_getfield dX2_replaceShares_28 fl_RX2_9 (by repeat (first | assumption | exact up_s | refine (up_n (by omega)).trans ?_)) rfl ?_
      refine ev_alen dX2_replaceShares_31 (by repeat (first | assumption | exact up_s | refine (up_n (by omega)).trans ?_)) (by decide) ?_
      refine ev_icmp_geF dX2_replaceShares_32 67 (by decide) (by first | assumption | exact nI_ge (by omega) (by omega) | decide) ?_
      first | refine ev_aload_n dX2_replaceShares_35 rfl ?_ | refine ev_aload_nN dX2_replaceShares_35 rfl ?_
      refine ev_getfield dX2_replaceShares_36 fl_RX2_9 (by repeat (first | assumption | exact up_s | refine (up_n (by omega)).trans ?_)) rfl ?_
      refine ev_iload dX2_replaceShares_39 rfl ?_
      refine ev_iald dX2_replaceShares_41 (by repeat (first | assumption | exact up_s | refine (up_n (by omega)).trans ?_)) _ rfl (by omega) (by omega) ?_
      first | refine ev_aload_n dX2_replaceShares_42 rfl ?_ | refine ev_aload_nN dX2_replaceShares_42 rfl ?_
      refine ev_getfield dX2_replaceShares_43 fl_RX2_19 (by repeat (first | assumption | exact up_s | refine (up_n (by omega)).trans ?_)) rfl ?_
      refine ev_iload_n dX2_replaceShares_46 rfl ?_
      refine ev_iald dX2_replaceShares_47 (by repeat (first | assumption | exact up_s | refine (up_n (by omega)).trans ?_)) _ rfl (by omega) (by omega) ?_
      refine ev_icmp_eqT (tgt := 67) dX2_replaceShares_48 (by decide) (by first | assumption | exact n_eq (by omega) | decide) ?_
      refine ev_iincN (b := 1) dX2_replaceShares_67 rfl (Nat.le_of_ble_eq_true rfl) ?_
      refine ev_goto (tgt := 4) dX2_replaceShares_70 (by decide) ?_
      refine ev_sub ?_ (ih)
      repeat (first | exact trivial | refine ⟨rfl, ?_⟩)
    · have e1 : rsS F (15 * wd) (j + 1) S = va_up (rsS F (15 * wd) j S) (15 * wd + j) (F j) := rfl
      have e2 : rsN F (15 * wd) S (j + 1) = rsN F (15 * wd) S j + 1 := by show _ + ite _ _ _ = _; rw [if_neg q]
      rw [e1, e2, ← LX_S (h := h) (x := x) (S := rsS F (15 * wd) j S)] at ih
      refine ev_iload_n dX2_replaceShares_4 rfl ?_
      first | refine ev_aload_n dX2_replaceShares_5 rfl ?_ | refine ev_aload_nN dX2_replaceShares_5 rfl ?_
      refine ev_getfield dX2_replaceShares_6 fl_RX2_19 (by repeat (first | assumption | exact up_s | refine (up_n (by omega)).trans ?_)) rfl ?_
      refine ev_alen dX2_replaceShares_9 (by repeat (first | assumption | exact up_s | refine (up_n (by omega)).trans ?_)) (by decide) ?_
      refine ev_icmp_geF dX2_replaceShares_10 73 (by decide) (by first | assumption | exact nI_ge (by omega) (by omega) | decide) ?_
      refine ev_iload_n dX2_replaceShares_13 rfl ?_
      refine ev_iload_n dX2_replaceShares_14 rfl ?_
      refine ev_S2 dX2_replaceShares_15 st_RX2_29 na_X2_cellOf (Nat.le_of_ble_eq_true rfl) (Nat.le_of_ble_eq_true rfl) (m2_cellOf hw (show j < 15 by omega)) ?_
      refine ev_istore dX2_replaceShares_18 (Nat.le_of_ble_eq_true rfl) ?_
      refine ev_iload dX2_replaceShares_20 rfl ?_
      refine ev_if_ltF dX2_replaceShares_22 67 (by decide) (by first | assumption | exact nI_pos (by omega) | decide) ?_
      refine ev_iload dX2_replaceShares_25 rfl ?_
      first | refine ev_aload_n dX2_replaceShares_27 rfl ?_ | refine ev_aload_nN dX2_replaceShares_27 rfl ?_
      refine ev_getfield dX2_replaceShares_28 fl_RX2_9 (by repeat (first | assumption | exact up_s | refine (up_n (by omega)).trans ?_)) rfl ?_
      refine ev_alen dX2_replaceShares_31 (by repeat (first | assumption | exact up_s | refine (up_n (by omega)).trans ?_)) (by decide) ?_
      refine ev_icmp_geF dX2_replaceShares_32 67 (by decide) (by first | assumption | exact nI_ge (by omega) (by omega) | decide) ?_
      first | refine ev_aload_n dX2_replaceShares_35 rfl ?_ | refine ev_aload_nN dX2_replaceShares_35 rfl ?_
      refine ev_getfield dX2_replaceShares_36 fl_RX2_9 (by repeat (first | assumption | exact up_s | refine (up_n (by omega)).trans ?_)) rfl ?_
      refine ev_iload dX2_replaceShares_39 rfl ?_
      refine ev_iald dX2_replaceShares_41 (by repeat (first | assumption | exact up_s | refine (up_n (by omega)).trans ?_)) _ rfl (by omega) (by omega) ?_
      first | refine ev_aload_n dX2_replaceShares_42 rfl ?_ | refine ev_aload_nN dX2_replaceShares_42 rfl ?_
      refine ev_getfield dX2_replaceShares_43 fl_RX2_19 (by repeat (first | assumption | exact up_s | refine (up_n (by omega)).trans ?_)) rfl ?_
      refine ev_iload_n dX2_replaceShares_46 rfl ?_
      refine ev_iald dX2_replaceShares_47 (by repeat (first | assumption | exact up_s | refine (up_n (by omega)).trans ?_)) _ rfl (by omega) (by omega) ?_
      refine ev_icmp_eqF dX2_replaceShares_48 67 (by decide) (by first | assumption | exact n_ne (by omega) (by omega) (by omega) | decide) ?_
      first | refine ev_aload_n dX2_replaceShares_51 rfl ?_ | refine ev_aload_nN dX2_replaceShares_51 rfl ?_
      refine ev_getfield dX2_replaceShares_52 fl_RX2_9 (by repeat (first | assumption | exact up_s | refine (up_n (by omega)).trans ?_)) rfl ?_
      refine ev_iload dX2_replaceShares_55 rfl ?_
      first | refine ev_aload_n dX2_replaceShares_57 rfl ?_ | refine ev_aload_nN dX2_replaceShares_57 rfl ?_
      refine ev_getfield dX2_replaceShares_58 fl_RX2_19 (by repeat (first | assumption | exact up_s | refine (up_n (by omega)).trans ?_)) rfl ?_
      refine ev_iload_n dX2_replaceShares_61 rfl ?_
      refine ev_iald dX2_replaceShares_62 (by repeat (first | assumption | exact up_s | refine (up_n (by omega)).trans ?_)) _ rfl (by omega) (by omega) ?_
      refine ev_iast dX2_replaceShares_63 (by omega) (by repeat (first | assumption | exact up_s | refine (up_n (by omega)).trans ?_)) _ _ rfl rfl (by omega) (by omega) ?_
      refine ev_iincN (b := 1) dX2_replaceShares_64 rfl (Nat.le_of_ble_eq_true rfl) ?_
      refine ev_iincN (b := 1) dX2_replaceShares_67 rfl (Nat.le_of_ble_eq_true rfl) ?_
      refine ev_goto (tgt := 4) dX2_replaceShares_70 (by decide) ?_
      refine ev_sub ?_ (ih)
      repeat (first | exact trivial | refine ⟨rfl, ?_⟩)
theorem m2_replaceShares {wd : Nat} (hx1 : 4 ≤ x) (g : Lh h x D) (hw : wd ≤ 15) (hS : SB S) (hF : ∀ k, k < 15 → F k ≤ 1000000) : Ev (d + 1) MX2_replaceShares 0 (lv_args 0 [.ref x, .int (nI wd)]) [] n (LX h x S C F R) (.inl (some (.int (nI (rsN F (15 * wd) S 15)))), n, LX h x (rsS F (15 * wd) 15 S) C F R, 0, 0) := by
  refine ev_iconst dX2_replaceShares_0 ci0 ?_
  refine ev_istore_n dX2_replaceShares_1 (Nat.le_of_ble_eq_true rfl) ?_
  refine ev_iconst dX2_replaceShares_2 ci0 ?_
  refine ev_istore_n dX2_replaceShares_3 (Nat.le_of_ble_eq_true rfl) ?_
  refine ev_sub ?_ (lp_rs hx1 g hw hS hF 15 0 (by omega))
  repeat (first | exact trivial | refine ⟨rfl, ?_⟩)
theorem lp_aa (hx1 : 4 ≤ x) (g : Lh h x D) (hS : SB S) (hC : ∀ k, C k ≤ 2000000000) :
    ∀ k wd (F : Nat → Nat) (R : Nat → Int), wd + k = 16 → ∃ (F' : Nat → Nat) (R' : Nat → Int), Ev (d + 4) MX2_apportionAll 4 [(0, .ref x), (1, .int (nI (apN C 0 S wd))), (2, .int (nI wd))] [] n (LX h x (apS C 0 wd S) C F R) (.inl (some (.int (nI (apN C 0 S 16)))), n, LX h x (apS C 0 16 S) C F' R', 0, 0) := by
  intro k
  induction k with
  | zero =>
    intro wd F R hw
    have e : wd = 16 := by omega
    subst e
    refine ⟨F, R, ?_⟩
    refine ev_iload_n dX2_apportionAll_4 rfl ?_
    refine ev_bipush dX2_apportionAll_5 bp15 ?_
    refine ev_icmp_gtT (tgt := 29) dX2_apportionAll_7 (by decide) (by first | assumption | exact nI_lt (by omega) (by omega) | decide) ?_
    refine ev_iload_n dX2_apportionAll_29 rfl ?_
    exact ev_ireturnE dX2_apportionAll_30 rfl (by rfl)
  | succ k ih =>
    intro wd F R hw
    obtain ⟨R1, e1⟩ := m2_apportion (d := d) (n := n) (S := apS C 0 wd S) (F := F) (R := R) (wd := wd) g (by omega) hC
    obtain ⟨F2, R2, e2⟩ := ih (wd + 1) (apF (fun k => C (15 * wd + k))) R1 (by omega)
    refine ⟨F2, R2, ?_⟩
    refine ev_iload_n dX2_apportionAll_4 rfl ?_
    refine ev_bipush dX2_apportionAll_5 bp15 ?_
    refine ev_icmp_gtF dX2_apportionAll_7 29 (by decide) (by first | assumption | exact nI_nlt (by omega) (by omega) | decide) ?_
    first | refine ev_aload_n dX2_apportionAll_10 rfl ?_ | refine ev_aload_nN dX2_apportionAll_10 rfl ?_
    refine ev_iload_n dX2_apportionAll_11 rfl ?_
    refine ev_V1v dX2_apportionAll_12 st_RX2_101 na_X2_apportion (Nat.le_of_ble_eq_true rfl) (Nat.le_of_ble_eq_true rfl) (by repeat (first | assumption | exact up_s | refine (up_n (by omega)).trans ?_)) rfl (e1) ?_
    refine ev_iload_n dX2_apportionAll_15 rfl ?_
    first | refine ev_aload_n dX2_apportionAll_16 rfl ?_ | refine ev_aload_nN dX2_apportionAll_16 rfl ?_
    refine ev_iload_n dX2_apportionAll_17 rfl ?_
    refine ev_V1 dX2_apportionAll_18 st_RX2_105 na_X2_replaceShares (Nat.le_of_ble_eq_true rfl) (Nat.le_of_ble_eq_true rfl) (by repeat (first | assumption | exact up_s | refine (up_n (by omega)).trans ?_)) rfl (m2_replaceShares hx1 g (by omega) (apS_SB hS wd) (fun k hk => apF_le _ hk)) ?_
    first | refine ev_iaddN dX2_apportionAll_21 ?_ | refine ev_iadd dX2_apportionAll_21 ?_
    refine ev_istore_n dX2_apportionAll_22 (Nat.le_of_ble_eq_true rfl) ?_
    refine ev_iincN (b := 1) dX2_apportionAll_23 rfl (Nat.le_of_ble_eq_true rfl) ?_
    refine ev_goto (tgt := 4) dX2_apportionAll_26 (by decide) ?_
    refine ev_sub ?_ (e2)
    repeat (first | exact trivial | refine ⟨rfl, ?_⟩)
theorem m2_apportionAll (hx1 : 4 ≤ x) (g : Lh h x D) (hS : SB S) (hC : ∀ k, C k ≤ 2000000000) : ∃ (F' : Nat → Nat) (R' : Nat → Int), Ev (d + 4) MX2_apportionAll 0 (lv_args 0 [.ref x]) [] n (LX h x S C F R) (.inl (some (.int (nI (apN C 0 S 16)))), n, LX h x (apS C 0 16 S) C F' R', 0, 0) := by
  obtain ⟨F', R', e⟩ := lp_aa (d := d) (n := n) hx1 g hS hC 16 0 F R (by omega)
  refine ⟨F', R', ?_⟩
  refine ev_iconst dX2_apportionAll_0 ci0 ?_
  refine ev_istore_n dX2_apportionAll_1 (Nat.le_of_ble_eq_true rfl) ?_
  refine ev_iconst dX2_apportionAll_2 ci0 ?_
  refine ev_istore_n dX2_apportionAll_3 (Nat.le_of_ble_eq_true rfl) ?_
  refine ev_sub ?_ (e)
  repeat (first | exact trivial | refine ⟨rfl, ?_⟩)
theorem lp_sz (g : Lh h x D) (g1 : h (x + 1) = aI 240 S) (hS : SB S) :
    ∀ k j, j + k = 240 → Ev d MX2_sharesAboveZero 4 [(0, .ref x), (1, .int (nI (szN S j))), (2, .int (nI j))] [] n h (.inl (some (.int (nI (szN S 240)))), n, h, 0, 0) := by
  intro k
  induction k with
  | zero =>
    intro j hj
    have e : j = 240 := by omega
    subst e
    refine ev_iload_n dX2_sharesAboveZero_4 rfl ?_
    first | refine ev_aload_n dX2_sharesAboveZero_5 rfl ?_ | refine ev_aload_nN dX2_sharesAboveZero_5 rfl ?_
    refine ev_getfield dX2_sharesAboveZero_6 fl_RX2_9 (by repeat (first | assumption | exact up_s | refine (up_n (by omega)).trans ?_)) rfl ?_
    refine ev_alen dX2_sharesAboveZero_9 (by repeat (first | assumption | exact up_s | refine (up_n (by omega)).trans ?_)) (by decide) ?_
    refine ev_icmp_geT (tgt := 31) dX2_sharesAboveZero_10 (by decide) (by first | assumption | exact nI_le (by omega) (by omega) | decide) ?_
    refine ev_iload_n dX2_sharesAboveZero_31 rfl ?_
    exact ev_ireturnE dX2_sharesAboveZero_32 rfl (by rfl)
  | succ k ih =>
    intro j hj
    have s1 := hS j
    have ih := ih (j + 1) (by omega)
    by_cases q : 0 < S j
    · have e : szN S (j + 1) = szN S j + 1 := by show _ + ite _ _ _ = _; rw [if_pos q]
      rw [e] at ih
      refine ev_iload_n dX2_sharesAboveZero_4 rfl ?_
      first | refine ev_aload_n dX2_sharesAboveZero_5 rfl ?_ | refine ev_aload_nN dX2_sharesAboveZero_5 rfl ?_
      refine ev_getfield dX2_sharesAboveZero_6 fl_RX2_9 (by repeat (first | assumption | exact up_s | refine (up_n (by omega)).trans ?_)) rfl ?_
      refine ev_alen dX2_sharesAboveZero_9 (by repeat (first | assumption | exact up_s | refine (up_n (by omega)).trans ?_)) (by decide) ?_
      refine ev_icmp_geF dX2_sharesAboveZero_10 31 (by decide) (by first | assumption | exact nI_ge (by omega) (by omega) | decide) ?_
      first | refine ev_aload_n dX2_sharesAboveZero_13 rfl ?_ | refine ev_aload_nN dX2_sharesAboveZero_13 rfl ?_
      refine ev_getfield dX2_sharesAboveZero_14 fl_RX2_9 (by repeat (first | assumption | exact up_s | refine (up_n (by omega)).trans ?_)) rfl ?_
      refine ev_iload_n dX2_sharesAboveZero_17 rfl ?_
      refine ev_iald dX2_sharesAboveZero_18 (by repeat (first | assumption | exact up_s | refine (up_n (by omega)).trans ?_)) _ rfl (by omega) (by omega) ?_
      refine ev_if_leF dX2_sharesAboveZero_19 25 (by decide) (by first | assumption | exact nI_nle (by omega) (by omega) | decide) ?_
      refine ev_iincN (b := 1) dX2_sharesAboveZero_22 rfl (Nat.le_of_ble_eq_true rfl) ?_
      refine ev_iincN (b := 1) dX2_sharesAboveZero_25 rfl (Nat.le_of_ble_eq_true rfl) ?_
      refine ev_goto (tgt := 4) dX2_sharesAboveZero_28 (by decide) ?_
      refine ev_sub ?_ (ih)
      repeat (first | exact trivial | refine ⟨rfl, ?_⟩)
    · have e : szN S (j + 1) = szN S j := by show _ + ite _ _ _ = _; rw [if_neg q]; rfl
      rw [e] at ih
      refine ev_iload_n dX2_sharesAboveZero_4 rfl ?_
      first | refine ev_aload_n dX2_sharesAboveZero_5 rfl ?_ | refine ev_aload_nN dX2_sharesAboveZero_5 rfl ?_
      refine ev_getfield dX2_sharesAboveZero_6 fl_RX2_9 (by repeat (first | assumption | exact up_s | refine (up_n (by omega)).trans ?_)) rfl ?_
      refine ev_alen dX2_sharesAboveZero_9 (by repeat (first | assumption | exact up_s | refine (up_n (by omega)).trans ?_)) (by decide) ?_
      refine ev_icmp_geF dX2_sharesAboveZero_10 31 (by decide) (by first | assumption | exact nI_ge (by omega) (by omega) | decide) ?_
      first | refine ev_aload_n dX2_sharesAboveZero_13 rfl ?_ | refine ev_aload_nN dX2_sharesAboveZero_13 rfl ?_
      refine ev_getfield dX2_sharesAboveZero_14 fl_RX2_9 (by repeat (first | assumption | exact up_s | refine (up_n (by omega)).trans ?_)) rfl ?_
      refine ev_iload_n dX2_sharesAboveZero_17 rfl ?_
      refine ev_iald dX2_sharesAboveZero_18 (by repeat (first | assumption | exact up_s | refine (up_n (by omega)).trans ?_)) _ rfl (by omega) (by omega) ?_
      refine ev_if_leT (tgt := 25) dX2_sharesAboveZero_19 (by decide) (by first | assumption | exact z_le (by omega) | decide) ?_
      refine ev_iincN (b := 1) dX2_sharesAboveZero_25 rfl (Nat.le_of_ble_eq_true rfl) ?_
      refine ev_goto (tgt := 4) dX2_sharesAboveZero_28 (by decide) ?_
      refine ev_sub ?_ (ih)
      repeat (first | exact trivial | refine ⟨rfl, ?_⟩)
theorem m2_sharesAboveZero (g : Lh h x D) (g1 : h (x + 1) = aI 240 S) (hS : SB S) : Ev d MX2_sharesAboveZero 0 (lv_args 0 [.ref x]) [] n h (.inl (some (.int (nI (szN S 240)))), n, h, 0, 0) := by
  refine ev_iconst dX2_sharesAboveZero_0 ci0 ?_
  refine ev_istore_n dX2_sharesAboveZero_1 (Nat.le_of_ble_eq_true rfl) ?_
  refine ev_iconst dX2_sharesAboveZero_2 ci0 ?_
  refine ev_istore_n dX2_sharesAboveZero_3 (Nat.le_of_ble_eq_true rfl) ?_
  refine ev_sub ?_ (lp_sz g g1 hS 240 0 (by omega))
  repeat (first | exact trivial | refine ⟨rfl, ?_⟩)
variable {made size : Nat} {t : Nat → Nat} {l : Nat → Nat → Nat} {w : Nat → Nat → Nat → Nat}
/-- the counts of a beginning, and of a round -/
def cmC (t : Nat → Nat) (l : Nat → Nat → Nat) (w : Nat → Nat → Nat → Nat) (D off made : Nat) : Nat → Nat := ccF t (fun i C => mtO off (w D i) (l D i) (w (1 - D) i) (l (1 - D) i) C) made (fun _ => 0)
def caC (t : Nat → Nat) (l : Nat → Nat → Nat) (w : Nat → Nat → Nat → Nat) (S : Nat → Nat) (D off made : Nat) : Nat → Nat := ccF t (fun i C => anO S off (w D i) (l D i) (w (1 - D) i) (l (1 - D) i) C) made (fun _ => 0)
theorem cmC_le (D off made k : Nat) : cmC t l w D off made k ≤ 1 := ccF_le1 (fun i C hC k => mtO_le hC _ k) made k
theorem caC_le (G : Cp h made size t l w) {D : Nat} (hD : D ≤ 1) (off k : Nat) : caC t l w S D off made k ≤ 2000000000 := by
  have h1 := ccF_le (t := t) (f := fun i C => anO S off (w D i) (l D i) (w (1 - D) i) (l (1 - D) i) C) (K := 72000000) (n := made) (fun i hi C B hB k => by
    have s1 := (Pr_side (G.2.2.2.2.2 i hi) hD).2.2.1
    have s2 := (Pr_side (G.2.2.2.2.2 i hi) (show 1 - D ≤ 1 by omega)).2.2.1
    have s3 := anO_le (S := S) (off := off) (wa := w D i) (wb := w (1 - D) i) s1 hB (l (1 - D) i) k
    have : l (1 - D) i * 9000000 ≤ 72000000 := by omega
    omega) made (Nat.le_refl _) k
  have h2 := G.2.2.1
  have : made * 72000000 ≤ 1440000000 := by omega
  unfold caC
  omega
theorem m2_start (g : Lh h x D) (hS : SB S) (hD : D ≤ 1) (hx1 : 4 ≤ x) (hx2 : x + 4 < 26) (G : Cp h made size t l w) : ∃ (F' : Nat → Nat) (R' : Nat → Int), Ev (d + 5) MX2_start 0 (lv_args 0 [.ref x, .ref 3]) [] n (LX h x S C F R) (.inl (some (.int (nI (szN (apS (cmC t l w D 0 made) 0 16 S) 240)))), n, LX h x (apS (cmC t l w D 0 made) 0 16 S) (cmC t l w D 0 made) F' R', 0, 0) := by
  obtain ⟨F', R', e⟩ := m2_apportionAll (d := d) (n := n) (C := cmC t l w D 0 made) (F := F) (R := R) hx1 g hS (fun k => Nat.le_trans (cmC_le D 0 made k) (by omega))
  refine ⟨F', R', ?_⟩
  first | refine ev_aload_n dX2_start_0 rfl ?_ | refine ev_aload_nN dX2_start_0 rfl ?_
  first | refine ev_aload_n dX2_start_1 rfl ?_ | refine ev_aload_nN dX2_start_1 rfl ?_
  refine ev_V1v dX2_start_2 st_RX2_33 na_X2_countMeetings (Nat.le_of_ble_eq_true rfl) (Nat.le_of_ble_eq_true rfl) (by repeat (first | assumption | exact up_s | refine (up_n (by omega)).trans ?_)) rfl (m2_countMeetings g hD hx1 hx2 G) ?_
  first | refine ev_aload_n dX2_start_5 rfl ?_ | refine ev_aload_nN dX2_start_5 rfl ?_
  refine ev_V0 dX2_start_6 st_RX2_37 na_X2_apportionAll (Nat.le_of_ble_eq_true rfl) (Nat.le_of_ble_eq_true rfl) (by repeat (first | assumption | exact up_s | refine (up_n (by omega)).trans ?_)) rfl (e) ?_
  refine ev_pop dX2_start_9 rfl ?_
  first | refine ev_aload_n dX2_start_10 rfl ?_ | refine ev_aload_nN dX2_start_10 rfl ?_
  refine ev_V0 dX2_start_11 st_RX2_41 na_X2_sharesAboveZero (Nat.le_of_ble_eq_true rfl) (Nat.le_of_ble_eq_true rfl) (by repeat (first | assumption | exact up_s | refine (up_n (by omega)).trans ?_)) rfl (m2_sharesAboveZero (LX_h g) LX_1 (apS_SB hS 16)) ?_
  exact ev_ireturnE dX2_start_14 rfl (by rfl)
theorem m2_learn (g : Lh h x D) (hS : SB S) (hD : D ≤ 1) (hx1 : 4 ≤ x) (hx2 : x + 4 < 26) (G : Cp h made size t l w) : ∃ (F' : Nat → Nat) (R' : Nat → Int), Ev (d + 5) MX2_learn 0 (lv_args 0 [.ref x, .ref 3]) [] n (LX h x S C F R) (.inl (some (.int (nI (apN (caC t l w S D 0 made) 0 S 16)))), n, LX h x (apS (caC t l w S D 0 made) 0 16 S) (caC t l w S D 0 made) F' R', 0, 0) := by
  obtain ⟨F', R', e⟩ := m2_apportionAll (d := d) (n := n) (C := caC t l w S D 0 made) (F := F) (R := R) hx1 g hS (caC_le G hD 0)
  refine ⟨F', R', ?_⟩
  first | refine ev_aload_n dX2_learn_0 rfl ?_ | refine ev_aload_nN dX2_learn_0 rfl ?_
  first | refine ev_aload_n dX2_learn_1 rfl ?_ | refine ev_aload_nN dX2_learn_1 rfl ?_
  refine ev_V1v dX2_learn_2 st_RX2_44 na_X2_countAnswers (Nat.le_of_ble_eq_true rfl) (Nat.le_of_ble_eq_true rfl) (by repeat (first | assumption | exact up_s | refine (up_n (by omega)).trans ?_)) rfl (m2_countAnswers g hS hD hx1 hx2 G) ?_
  first | refine ev_aload_n dX2_learn_5 rfl ?_ | refine ev_aload_nN dX2_learn_5 rfl ?_
  refine ev_V0 dX2_learn_6 st_RX2_37 na_X2_apportionAll (Nat.le_of_ble_eq_true rfl) (Nat.le_of_ble_eq_true rfl) (by repeat (first | assumption | exact up_s | refine (up_n (by omega)).trans ?_)) rfl (e) ?_
  exact ev_ireturnE dX2_learn_9 rfl (by rfl)
end M2C
