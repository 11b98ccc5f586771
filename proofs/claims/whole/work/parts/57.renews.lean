/-! the model: a row's new shares -/
abbrev NX (h : Hp) (F : Nat → Nat) (R : Nat → Int) : Hp := va_up (va_up h 41 (aI 15 F)) 40 (aR 15 R)
theorem NX_F {h : Hp} {F : Nat → Nat} {R : Nat → Int} (F' : Nat → Nat) : va_up (NX h F R) 41 (aI 15 F') = NX h F' R := by
  rw [up_c (k := 40) (by omega), up_u]
theorem NX_R {h : Hp} {F : Nat → Nat} {R : Nat → Int} (R' : Nat → Int) : va_up (NX h F R) 40 (aR 15 R') = NX h F R' := up_u
theorem NX_40 {h : Hp} {F : Nat → Nat} {R : Nat → Int} : NX h F R 40 = aR 15 R := up_s
theorem NX_41 {h : Hp} {F : Nat → Nat} {R : Nat → Int} : NX h F R 41 = aI 15 F := (up_n (by omega)).trans up_s
theorem NX_o {h : Hp} {F : Nat → Nat} {R : Nat → Int} {a : Nat} (q : a ≠ 40 ∧ a ≠ 41) : NX h F R a = h a := (up_n q.1).trans (up_n q.2)
theorem NX_id {h : Hp} {F : Nat → Nat} {R : Nat → Int} (e1 : h 41 = aI 15 F) (e2 : h 40 = aR 15 R) : NX h F R = h := by
  show va_up (va_up h 41 (aI 15 F)) 40 (aR 15 R) = h
  rw [show va_up h 41 (aI 15 F) = h from up_id e1, show va_up h 40 (aR 15 R) = h from up_id e2]
def uF (c : Nat → Nat) (s j : Nat) (F0 : Nat → Nat) : Nat → Nat := fun k => if k < j then whF c s k else F0 k
theorem uF_0 (c : Nat → Nat) (s : Nat) (F0 : Nat → Nat) : uF c s 0 F0 = F0 := funext fun k => if_neg (by omega)
theorem uF_s {c : Nat → Nat} {s j : Nat} {F0 : Nat → Nat} (hj : j < 15) : va_up (uF c s j F0) j (c j * 1000000 / s) = uF c s (j + 1) F0 := by
  funext k
  show (if k = j then _ else if k < j then whF c s k else F0 k) = if k < j + 1 then whF c s k else F0 k
  by_cases e : k = j
  · subst e
    rw [if_pos rfl, if_pos (by omega)]
    exact (if_pos hj).symm
  · rw [if_neg e]
    by_cases z : k < j
    · rw [if_pos z, if_pos (by omega)]
    · rw [if_neg z, if_neg (by omega)]
theorem prF_1 (R : Nat → Int) : (prF R 1).1 = 0 := by
  unfold prF
  split <;> rfl
theorem prF_val {R : Nat → Int} (h : -1 ≤ R 0) : ∀ k, (prF R (k + 1)).2 = R (prF R (k + 1)).1
  | 0 => by
    unfold prF
    split
    · rfl
    · next q =>
      have q : ¬ (-1 : Int) < R 0 := q
      show (-1 : Int) = R 0
      omega
  | k + 1 => by
    have ih := prF_val h k
    unfold prF
    split
    · rfl
    · exact ih
theorem nI_dec (k : Nat) : nI (k + 1) + Int32.ofInt (-1) = nI k := by
  rw [cm1, ← Int32.sub_eq_add_neg, show (1 : Int32) = nI 1 from by decide +kernel, nI_sub (by omega)]
  rfl
theorem whF_z {c : Nat → Nat} {k : Nat} : whF c 0 k = 0 := by
  show (if k < 15 then c k * 1000000 / 0 else 0) = 0
  split
  · exact Nat.div_zero _
  · rfl
section MT
variable {d n : Nat} {h : Hp} {made th : Nat} {F C : Nat → Nat} {R : Nat → Int}
theorem lm_rnA (g31 : h 31 = MO made F th) (g39 : h 39 = aL 480 C) {r : Nat} (hr : r + 15 ≤ 480) {o9 : Out} (K : Ev d MX10_renews 30 [(0, .ref 31), (1, .int (nI r)), (2, .long (lN (sumN (fun x => C (r + x)) 15)))] [] n h o9) :
    ∀ k x, x + k = 15 → Ev d MX10_renews 5 [(0, .ref 31), (1, .int (nI r)), (2, .long (lN (sumN (fun x => C (r + x)) x))), (4, .int (nI x))] [] n h o9 := by
  intro k
  induction k with
  | zero =>
    intro x hx
    have e : x = 15 := by omega
    subst e
    refine ev_iload dX10_renews_5 rfl ?_
    refine ev_bipush dX10_renews_7 bp15 ?_
    refine ev_icmp_geT (tgt := 30) dX10_renews_9 (by decide) (by first | assumption | exact nI_le (by omega) (by omega) | decide) ?_
    refine ev_sub ?_ (K)
    repeat (first | exact trivial | refine ⟨rfl, ?_⟩)
  | succ k ih =>
    intro x hx
    have ih := ih (x + 1) (by omega)
    clear K
    have e1 : sumN (fun x => C (r + x)) (x + 1) = sumN (fun x => C (r + x)) x + C (r + x) := rfl
    rw [e1] at ih
    clear e1
    refine ev_iload dX10_renews_5 rfl ?_
    refine ev_bipush dX10_renews_7 bp15 ?_
    refine ev_icmp_geF dX10_renews_9 30 (by decide) (by first | assumption | exact nI_ge (by omega) (by omega) | decide) ?_
    refine ev_lload_n dX10_renews_12 rfl ?_
    first | refine ev_aload_n dX10_renews_13 rfl ?_ | refine ev_aload_nN dX10_renews_13 rfl ?_
    refine ev_getfield dX10_renews_14 fl_RX10_32 (by repeat (first | assumption | exact up_s | refine (up_n (by omega)).trans ?_)) rfl ?_
    refine ev_iload_n dX10_renews_17 rfl ?_
    refine ev_iload dX10_renews_18 rfl ?_
    first | refine ev_iaddN dX10_renews_20 ?_ | refine ev_iadd dX10_renews_20 ?_
    refine ev_lald dX10_renews_21 (by repeat (first | assumption | exact up_s | refine (up_n (by omega)).trans ?_)) _ rfl (by omega) (by omega) ?_
    first | refine ev_laddN dX10_renews_22 ?_ | refine ev_ladd dX10_renews_22 ?_
    refine ev_lstore_n dX10_renews_23 (Nat.le_of_ble_eq_true rfl) ?_
    refine ev_iincN (b := 1) dX10_renews_24 rfl (Nat.le_of_ble_eq_true rfl) ?_
    refine ev_goto (tgt := 5) dX10_renews_27 (by decide) ?_
    refine ev_sub ?_ (ih)
    repeat (first | exact trivial | refine ⟨rfl, ?_⟩)
theorem lm_rnB (g31 : h 31 = MO made F th) (g39 : h 39 = aL 480 C) (hC : ∀ k, C k ≤ 3000000000) {r s : Nat} {c : Nat → Nat} (hc : c = fun x => C (r + x)) (hs : s = sumN c 15) (hr : r + 15 ≤ 480) {F0 : Nat → Nat} {R0 : Nat → Int} {A : Nat} (hA : A = if s = 0 then 0 else 1000000) {o9 : Out} (K : Ev d MX10_renews 130 [(0, .ref 31), (1, .int (nI r)), (4, .int (nI (A - sumN (whF c s) 15)))] [] n (NX h (uF c s 15 F0) (wR c s 15 R0)) o9) :
    ∀ k x, x + k = 15 → Ev d MX10_renews 47 [(0, .ref 31), (1, .int (nI r)), (2, .long (lN s)), (4, .int (nI (A - sumN (whF c s) x))), (5, .int (nI x))] [] n (NX h (uF c s x F0) (wR c s x R0)) o9 := by
  have s1 : s ≤ 15 * 3000000000 := by rw [hs, hc]; exact sumN_bd fun k _ => hC _
  intro k
  induction k with
  | zero =>
    intro x hx
    have e : x = 15 := by omega
    subst e
    refine ev_iload dX10_renews_47 rfl ?_
    refine ev_bipush dX10_renews_49 bp15 ?_
    refine ev_icmp_geT (tgt := 130) dX10_renews_51 (by decide) (by first | assumption | exact nI_le (by omega) (by omega) | decide) ?_
    refine ev_sub ?_ (K)
    repeat (first | exact trivial | refine ⟨rfl, ?_⟩)
  | succ k ih =>
    intro x hx
    have ih := ih (x + 1) (by omega)
    clear K
    have s2 := hC (r + x)
    have s3 : c x = C (r + x) := by rw [hc]
    have s4 : whF c s x = c x * 1000000 / s := if_pos (by omega)
    have s6 : sumN (whF c s) (x + 1) = sumN (whF c s) x + whF c s x := rfl
    have e1 := uF_s (c := c) (s := s) (F0 := F0) (show x < 15 by omega)
    have e2 := wR_s (c := c) (s := s) (R0 := R0) (show x < 15 by omega)
    rw [s3] at e1 e2 s4
    have e9 : ∀ (fv : Nat) (rv : Int), fv = C (r + x) * 1000000 / s → rv = ((C (r + x) * 1000000 % s : Nat) : Int) → va_up (va_up (NX h (uF c s x F0) (wR c s x R0)) 41 (aI 15 (va_up (uF c s x F0) x fv))) 40 (aR 15 (va_up (wR c s x R0) x rv)) = NX h (uF c s (x + 1) F0) (wR c s (x + 1) R0) := fun fv rv q1 q2 => by rw [NX_F, NX_R, q1, q2, e1, e2]
    have u1 : uF c s (x + 1) F0 x = C (r + x) * 1000000 / s := by rw [← s4]; exact if_pos (by omega)
    by_cases z : s = 0
    · have z1 : C (r + x) = 0 := by
        have h9 := sumN_le (f := c) (show x < 15 by omega)
        omega
      have s7 : A - sumN (whF c s) (x + 1) = A - sumN (whF c s) x - 0 := by
        rw [if_pos z] at hA
        omega
      rw [s7] at ih
      have u1 : uF c s (x + 1) F0 x = 0 := by rw [u1, z1, Nat.zero_mul, Nat.zero_div]
      refine ev_iload dX10_renews_47 rfl ?_
      refine ev_bipush dX10_renews_49 bp15 ?_
      refine ev_icmp_geF dX10_renews_51 130 (by decide) (by first | assumption | exact nI_ge (by omega) (by omega) | decide) ?_
      first | refine ev_aload_n dX10_renews_54 rfl ?_ | refine ev_aload_nN dX10_renews_54 rfl ?_
      refine ev_getfield dX10_renews_55 fl_RX10_32 (by repeat (first | assumption | exact up_s | refine (up_n (by omega)).trans ?_)) rfl ?_
      refine ev_iload_n dX10_renews_58 rfl ?_
      refine ev_iload dX10_renews_59 rfl ?_
      first | refine ev_iaddN dX10_renews_61 ?_ | refine ev_iadd dX10_renews_61 ?_
      refine ev_lald dX10_renews_62 (by repeat (first | assumption | exact up_s | refine (up_n (by omega)).trans ?_)) _ rfl (by omega) (by omega) ?_
      refine ev_ldc2 (v := lN 1000000) dX10_renews_63 (am_in 945 (by decide +kernel) rfl) ?_
      first | refine ev_lmulN dX10_renews_66 ?_ | refine ev_lmul dX10_renews_66 ?_
      refine ev_lstore dX10_renews_67 (Nat.le_of_ble_eq_true rfl) ?_
      first | refine ev_aload_n dX10_renews_69 rfl ?_ | refine ev_aload_nN dX10_renews_69 rfl ?_
      refine ev_getfield dX10_renews_70 fl_RX10_39 (by repeat (first | assumption | exact up_s | refine (up_n (by omega)).trans ?_)) rfl ?_
      refine ev_iload dX10_renews_73 rfl ?_
      refine ev_lload_n dX10_renews_75 rfl ?_
      refine ev_lconst dX10_renews_76 lc0 ?_
      refine ev_lcmpN dX10_renews_77 (by omega) (by omega) ?_
      refine ev_if_neF dX10_renews_78 85 (by decide) (by first | assumption | exact cmp_eq (by omega)) ?_
      refine ev_iconst dX10_renews_81 ci0 ?_
      refine ev_goto (tgt := 90) dX10_renews_82 (by decide) ?_
      refine ev_iast dX10_renews_90 (by omega) NX_41 _ _ rfl rfl (by omega) (by omega) ?_
      first | refine ev_aload_n dX10_renews_91 rfl ?_ | refine ev_aload_nN dX10_renews_91 rfl ?_
      refine ev_getfield dX10_renews_92 fl_RX10_36 (by repeat (first | assumption | exact up_s | refine (up_n (by omega)).trans ?_)) rfl ?_
      refine ev_iload dX10_renews_95 rfl ?_
      refine ev_lload_n dX10_renews_97 rfl ?_
      refine ev_lconst dX10_renews_98 lc0 ?_
      refine ev_lcmpN dX10_renews_99 (by omega) (by omega) ?_
      refine ev_if_neF dX10_renews_100 107 (by decide) (by first | assumption | exact cmp_eq (by omega)) ?_
      refine ev_lconst dX10_renews_103 lc0 ?_
      refine ev_goto (tgt := 111) dX10_renews_104 (by decide) ?_
      refine ev_rast dX10_renews_111 (by omega) (by repeat (first | assumption | exact up_s | exact NX_40 | refine (up_n (by omega)).trans ?_)) _ _ rfl (lN_lZ _) (by omega) (by omega) ?_
      refine ev_heap (e9 0 _ (by rw [z1, Nat.zero_mul, Nat.zero_div]) (by rw [z1, Nat.zero_mul, Nat.zero_mod])) ?_
      refine ev_iload dX10_renews_112 rfl ?_
      first | refine ev_aload_n dX10_renews_114 rfl ?_ | refine ev_aload_nN dX10_renews_114 rfl ?_
      refine ev_getfield dX10_renews_115 fl_RX10_39 (by repeat (first | assumption | exact up_s | refine (up_n (by omega)).trans ?_)) rfl ?_
      refine ev_iload dX10_renews_118 rfl ?_
      refine ev_iald dX10_renews_120 (by repeat (first | assumption | exact up_s | refine (up_n (by omega)).trans ?_)) _ rfl (by omega) (by omega) ?_
      refine ev_top (v2 := .int (nI 0)) (congrArg (fun z => Value.int (nI z)) u1) ?_
      first | refine ev_isubN dX10_renews_121 (by omega) ?_ | refine ev_isub dX10_renews_121 ?_
      refine ev_istore dX10_renews_122 (Nat.le_of_ble_eq_true rfl) ?_
      refine ev_iincN (b := 1) dX10_renews_124 rfl (Nat.le_of_ble_eq_true rfl) ?_
      refine ev_goto (tgt := 47) dX10_renews_127 (by decide) ?_
      refine ev_sub ?_ (ih)
      repeat (first | exact trivial | refine ⟨rfl, ?_⟩)
    · have s5 := wh_le hs (by omega) (n := x + 1) (by omega)
      rw [if_neg z] at hA
      have s7 : A - sumN (whF c s) (x + 1) = A - sumN (whF c s) x - whF c s x := by omega
      rw [s7, s4] at ih
      refine ev_iload dX10_renews_47 rfl ?_
      refine ev_bipush dX10_renews_49 bp15 ?_
      refine ev_icmp_geF dX10_renews_51 130 (by decide) (by first | assumption | exact nI_ge (by omega) (by omega) | decide) ?_
      first | refine ev_aload_n dX10_renews_54 rfl ?_ | refine ev_aload_nN dX10_renews_54 rfl ?_
      refine ev_getfield dX10_renews_55 fl_RX10_32 (by repeat (first | assumption | exact up_s | refine (up_n (by omega)).trans ?_)) rfl ?_
      refine ev_iload_n dX10_renews_58 rfl ?_
      refine ev_iload dX10_renews_59 rfl ?_
      first | refine ev_iaddN dX10_renews_61 ?_ | refine ev_iadd dX10_renews_61 ?_
      refine ev_lald dX10_renews_62 (by repeat (first | assumption | exact up_s | refine (up_n (by omega)).trans ?_)) _ rfl (by omega) (by omega) ?_
      refine ev_ldc2 (v := lN 1000000) dX10_renews_63 (am_in 945 (by decide +kernel) rfl) ?_
      first | refine ev_lmulN dX10_renews_66 ?_ | refine ev_lmul dX10_renews_66 ?_
      refine ev_lstore dX10_renews_67 (Nat.le_of_ble_eq_true rfl) ?_
      first | refine ev_aload_n dX10_renews_69 rfl ?_ | refine ev_aload_nN dX10_renews_69 rfl ?_
      refine ev_getfield dX10_renews_70 fl_RX10_39 (by repeat (first | assumption | exact up_s | refine (up_n (by omega)).trans ?_)) rfl ?_
      refine ev_iload dX10_renews_73 rfl ?_
      refine ev_lload_n dX10_renews_75 rfl ?_
      refine ev_lconst dX10_renews_76 lc0 ?_
      refine ev_lcmpN dX10_renews_77 (by omega) (by omega) ?_
      refine ev_if_neT (tgt := 85) dX10_renews_78 (by decide) (by first | assumption | exact cmp_ne0 (by omega)) ?_
      refine ev_lload dX10_renews_85 rfl ?_
      refine ev_lload_n dX10_renews_87 rfl ?_
      refine ev_ldivN dX10_renews_88 (by omega) (by omega) (by omega) ?_
      refine ev_l2iN dX10_renews_89 ?_
      refine ev_iast dX10_renews_90 (by omega) NX_41 _ _ rfl rfl (by omega) (by omega) ?_
      first | refine ev_aload_n dX10_renews_91 rfl ?_ | refine ev_aload_nN dX10_renews_91 rfl ?_
      refine ev_getfield dX10_renews_92 fl_RX10_36 (by repeat (first | assumption | exact up_s | refine (up_n (by omega)).trans ?_)) rfl ?_
      refine ev_iload dX10_renews_95 rfl ?_
      refine ev_lload_n dX10_renews_97 rfl ?_
      refine ev_lconst dX10_renews_98 lc0 ?_
      refine ev_lcmpN dX10_renews_99 (by omega) (by omega) ?_
      refine ev_if_neT (tgt := 107) dX10_renews_100 (by decide) (by first | assumption | exact cmp_ne0 (by omega)) ?_
      refine ev_lload dX10_renews_107 rfl ?_
      refine ev_lload_n dX10_renews_109 rfl ?_
      refine ev_lremN dX10_renews_110 (by omega) (by omega) (by omega) ?_
      refine ev_rast dX10_renews_111 (by omega) (by repeat (first | assumption | exact up_s | exact NX_40 | refine (up_n (by omega)).trans ?_)) _ _ rfl (lN_lZ _) (by omega) (by omega) ?_
      refine ev_heap (e9 _ _ rfl rfl) ?_
      refine ev_iload dX10_renews_112 rfl ?_
      first | refine ev_aload_n dX10_renews_114 rfl ?_ | refine ev_aload_nN dX10_renews_114 rfl ?_
      refine ev_getfield dX10_renews_115 fl_RX10_39 (by repeat (first | assumption | exact up_s | refine (up_n (by omega)).trans ?_)) rfl ?_
      refine ev_iload dX10_renews_118 rfl ?_
      refine ev_iald dX10_renews_120 (by repeat (first | assumption | exact up_s | refine (up_n (by omega)).trans ?_)) _ rfl (by omega) (by omega) ?_
      refine ev_top (v2 := .int (nI (C (r + x) * 1000000 / s))) (congrArg (fun z => Value.int (nI z)) u1) ?_
      first | refine ev_isubN dX10_renews_121 (by omega) ?_ | refine ev_isub dX10_renews_121 ?_
      refine ev_istore dX10_renews_122 (Nat.le_of_ble_eq_true rfl) ?_
      refine ev_iincN (b := 1) dX10_renews_124 rfl (Nat.le_of_ble_eq_true rfl) ?_
      refine ev_goto (tgt := 47) dX10_renews_127 (by decide) ?_
      refine ev_sub ?_ (ih)
      repeat (first | exact trivial | refine ⟨rfl, ?_⟩)
theorem lm_rnS (g31 : h 31 = MO made F th) (g40 : h 40 = aR 15 R) (hR : ∀ k, k < 15 → -1 ≤ R k ∧ R k < 2 ^ 62) {A r : Nat} {o9 : Out} (K : Ev d MX10_renews 181 [(0, .ref 31), (1, .int (nI r)), (4, .int (nI A)), (5, .int (nI (prF R 15).1))] [] n h o9) :
    ∀ k x, x + 1 + k = 15 → Ev d MX10_renews 141 [(0, .ref 31), (1, .int (nI r)), (4, .int (nI A)), (5, .int (nI (prF R (x + 1)).1)), (6, .int (nI (x + 1)))] [] n h o9 := by
  intro k
  induction k with
  | zero =>
    intro x hx
    have e : x = 14 := by omega
    subst e
    refine ev_iload dX10_renews_141 rfl ?_
    refine ev_bipush dX10_renews_143 bp15 ?_
    refine ev_icmp_geT (tgt := 181) dX10_renews_145 (by decide) (by first | assumption | exact nI_le (by omega) (by omega) | decide) ?_
    refine ev_sub ?_ (K)
    repeat (first | exact trivial | refine ⟨rfl, ?_⟩)
  | succ k ih =>
    intro x hx
    have ih := ih (x + 1) (by omega)
    clear K
    have p1 := prF_lt R (x + 1) (by omega)
    have p2 := prF_val (hR 0 (by omega)).1 x
    have p3 := hR (prF R (x + 1)).1 (by omega)
    have p4 := hR (x + 1) (by omega)
    rcases Int.lt_or_le (prF R (x + 1)).2 (R (x + 1)) with q | q
    · have e : prF R (x + 1 + 1) = (x + 1, R (x + 1)) := if_pos q
      rw [e] at ih
      refine ev_iload dX10_renews_141 rfl ?_
      refine ev_bipush dX10_renews_143 bp15 ?_
      refine ev_icmp_geF dX10_renews_145 181 (by decide) (by first | assumption | exact nI_ge (by omega) (by omega) | decide) ?_
      first | refine ev_aload_n dX10_renews_148 rfl ?_ | refine ev_aload_nN dX10_renews_148 rfl ?_
      refine ev_getfield dX10_renews_149 fl_RX10_36 (by repeat (first | assumption | exact up_s | refine (up_n (by omega)).trans ?_)) rfl ?_
      refine ev_iload dX10_renews_152 rfl ?_
      refine ev_lald dX10_renews_154 (by repeat (first | assumption | exact up_s | refine (up_n (by omega)).trans ?_)) _ rfl (by omega) (by omega) ?_
      first | refine ev_aload_n dX10_renews_155 rfl ?_ | refine ev_aload_nN dX10_renews_155 rfl ?_
      refine ev_getfield dX10_renews_156 fl_RX10_36 (by repeat (first | assumption | exact up_s | refine (up_n (by omega)).trans ?_)) rfl ?_
      refine ev_iload dX10_renews_159 rfl ?_
      refine ev_lald dX10_renews_161 (by repeat (first | assumption | exact up_s | refine (up_n (by omega)).trans ?_)) _ rfl (by omega) (by omega) ?_
      refine ev_lcmpZ dX10_renews_162 (by omega) (by omega) (by omega) (by omega) ?_
      refine ev_if_leF dX10_renews_163 171 (by decide) (by first | assumption | exact cmz_ngt (by omega)) ?_
      refine ev_iload dX10_renews_166 rfl ?_
      refine ev_goto (tgt := 173) dX10_renews_168 (by decide) ?_
      refine ev_istore dX10_renews_173 (Nat.le_of_ble_eq_true rfl) ?_
      refine ev_iincN (b := 1) dX10_renews_175 rfl (Nat.le_of_ble_eq_true rfl) ?_
      refine ev_goto (tgt := 141) dX10_renews_178 (by decide) ?_
      refine ev_sub ?_ (ih)
      repeat (first | exact trivial | refine ⟨rfl, ?_⟩)
    · have e : prF R (x + 1 + 1) = prF R (x + 1) := if_neg (by omega)
      rw [e] at ih
      refine ev_iload dX10_renews_141 rfl ?_
      refine ev_bipush dX10_renews_143 bp15 ?_
      refine ev_icmp_geF dX10_renews_145 181 (by decide) (by first | assumption | exact nI_ge (by omega) (by omega) | decide) ?_
      first | refine ev_aload_n dX10_renews_148 rfl ?_ | refine ev_aload_nN dX10_renews_148 rfl ?_
      refine ev_getfield dX10_renews_149 fl_RX10_36 (by repeat (first | assumption | exact up_s | refine (up_n (by omega)).trans ?_)) rfl ?_
      refine ev_iload dX10_renews_152 rfl ?_
      refine ev_lald dX10_renews_154 (by repeat (first | assumption | exact up_s | refine (up_n (by omega)).trans ?_)) _ rfl (by omega) (by omega) ?_
      first | refine ev_aload_n dX10_renews_155 rfl ?_ | refine ev_aload_nN dX10_renews_155 rfl ?_
      refine ev_getfield dX10_renews_156 fl_RX10_36 (by repeat (first | assumption | exact up_s | refine (up_n (by omega)).trans ?_)) rfl ?_
      refine ev_iload dX10_renews_159 rfl ?_
      refine ev_lald dX10_renews_161 (by repeat (first | assumption | exact up_s | refine (up_n (by omega)).trans ?_)) _ rfl (by omega) (by omega) ?_
      refine ev_lcmpZ dX10_renews_162 (by omega) (by omega) (by omega) (by omega) ?_
      refine ev_if_leT (tgt := 171) dX10_renews_163 (by decide) (by first | assumption | exact cmz_le (by omega)) ?_
      refine ev_iload dX10_renews_171 rfl ?_
      refine ev_istore dX10_renews_173 (Nat.le_of_ble_eq_true rfl) ?_
      refine ev_iincN (b := 1) dX10_renews_175 rfl (Nat.le_of_ble_eq_true rfl) ?_
      refine ev_goto (tgt := 141) dX10_renews_178 (by decide) ?_
      refine ev_sub ?_ (ih)
      repeat (first | exact trivial | refine ⟨rfl, ?_⟩)
theorem lm_rnC (g31 : h 31 = MO made F th) {F0 : Nat → Nat} {R0 : Nat → Int} (hR : ∀ k, k < 15 → -1 ≤ R0 k ∧ R0 k < 2 ^ 62) {m r : Nat} (hm : m < 15) :
    ∀ k i, i + k = m → Ev d MX10_renews 130 [(0, .ref 31), (1, .int (nI r)), (4, .int (nI k))] [] n (NX h (grF i (F0, R0)).1 (grF i (F0, R0)).2) (.inl none, n, NX h (grF m (F0, R0)).1 (grF m (F0, R0)).2, 0, 0) := by
  intro k
  induction k with
  | zero =>
    intro i hi
    have e : i = m := by omega
    subst e
    refine ev_iload dX10_renews_130 rfl ?_
    refine ev_if_leT (tgt := 208) dX10_renews_132 (by decide) (by first | assumption | exact z_le (by omega) | decide) ?_
    exact ev_vreturnE dX10_renews_208 rfl (by rfl)
  | succ k ih =>
    intro i hi
    have ih := ih (i + 1) (by omega)
    have h1 := prF_lt (grF i (F0, R0)).2 15 (by omega)
    have h2 := grF_R (x := (F0, R0)) hR i
    have hb := lm_rnS (d := d) (n := n) (h := NX h (grF i (F0, R0)).1 (grF i (F0, R0)).2) (F := F) (made := made) (th := th) (A := k + 1) (r := r) (o9 := (.inl none, n, NX h (grF m (F0, R0)).1 (grF m (F0, R0)).2, 0, 0)) ((NX_o (by omega)).trans g31) NX_40 h2 (by
      first | refine ev_aload_n dX10_renews_181 rfl ?_ | refine ev_aload_nN dX10_renews_181 rfl ?_
      refine ev_getfield dX10_renews_182 fl_RX10_39 (by repeat (first | assumption | exact up_s | refine (up_n (by omega)).trans ?_)) rfl ?_
      refine ev_iload dX10_renews_185 rfl ?_
      refine ev_dup2_11 dX10_renews_187 rfl rfl ?_
      refine ev_iald dX10_renews_188 (by repeat (first | assumption | exact up_s | refine (up_n (by omega)).trans ?_)) _ rfl (by omega) (by omega) ?_
      refine ev_iconst dX10_renews_189 ci1 ?_
      first | refine ev_iaddN dX10_renews_190 ?_ | refine ev_iadd dX10_renews_190 ?_
      refine ev_iast dX10_renews_191 (by omega) NX_41 _ _ rfl rfl h1 (by omega) ?_
      refine ev_heap (NX_F _) ?_
      first | refine ev_aload_n dX10_renews_192 rfl ?_ | refine ev_aload_nN dX10_renews_192 rfl ?_
      refine ev_getfield dX10_renews_193 fl_RX10_36 (by repeat (first | assumption | exact up_s | refine (up_n (by omega)).trans ?_)) rfl ?_
      refine ev_iload dX10_renews_196 rfl ?_
      refine ev_ldc2 (v := lZ (-1)) dX10_renews_198 (am_in 950 (by decide +kernel) rfl) ?_
      refine ev_rast dX10_renews_201 (by omega) NX_40 _ (-1) rfl rfl h1 (by omega) ?_
      refine ev_heap (NX_R _) ?_
      refine ev_iinc dX10_renews_202 rfl (nI_dec k) (Nat.le_of_ble_eq_true rfl) ?_
      refine ev_goto (tgt := 130) dX10_renews_205 (by decide) ?_
      refine ev_sub ?_ (ih)
      repeat (first | exact trivial | refine ⟨rfl, ?_⟩)
      ) 14 0 (by omega)
    rw [show (0 : Nat) + 1 = 1 from rfl, prF_1] at hb
    refine ev_iload dX10_renews_130 rfl ?_
    refine ev_if_leF dX10_renews_132 208 (by decide) (by first | assumption | exact nI_nle (by omega) (by omega) | decide) ?_
    refine ev_iconst dX10_renews_135 ci0 ?_
    refine ev_istore dX10_renews_136 (Nat.le_of_ble_eq_true rfl) ?_
    refine ev_iconst dX10_renews_138 ci1 ?_
    refine ev_istore dX10_renews_139 (Nat.le_of_ble_eq_true rfl) ?_
    refine ev_sub ?_ (hb)
    repeat (first | exact trivial | refine ⟨rfl, ?_⟩)
theorem mm_renews (g31 : h 31 = MO made F th) (g39 : h 39 = aL 480 C) (hC : ∀ k, C k ≤ 3000000000) {r : Nat} (hr : r + 15 ≤ 480) {F0 : Nat → Nat} {R0 : Nat → Int} (g41 : h 41 = aI 15 F0) (g40 : h 40 = aR 15 R0) : ∃ R', Ev d MX10_renews 0 (lv_args 0 [.ref 31, .int (nI r)]) [] n h (.inl none, n, NX h (apF (fun x => C (r + x))) R', 0, 0) := by
  obtain ⟨c, hc⟩ : ∃ c : Nat → Nat, c = fun x => C (r + x) := ⟨_, rfl⟩
  have hcs : ∀ k, sumN (fun x => C (r + x)) k = sumN c k := fun k => by rw [hc]
  rw [← hc]
  have hbd : sumN c 15 ≤ 15 * 3000000000 := by rw [hc]; exact sumN_bd fun k _ => hC _
  have hm : (if sumN c 15 = 0 then 0 else 1000000) - sumN (whF c (sumN c 15)) 15 < 15 := by
    by_cases z : sumN c 15 = 0
    · rw [if_pos z]; omega
    · rw [if_neg z]; exact whM_lt rfl (by omega)
  have hR : ∀ k, k < 15 → -1 ≤ whR c (sumN c 15) k ∧ whR c (sumN c 15) k < 2 ^ 62 := by
    intro k hk
    by_cases z : sumN c 15 = 0
    · have h9 := sumN_le (f := c) hk
      have e : whR c (sumN c 15) k = ((c k * 1000000 % sumN c 15 : Nat) : Int) := if_pos hk
      rw [e, z, show c k = 0 by omega]
      constructor <;> omega
    · exact whR_bd c (by omega) (by omega) k hk
  have hF : (grF ((if sumN c 15 = 0 then 0 else 1000000) - sumN (whF c (sumN c 15)) 15) (whF c (sumN c 15), whR c (sumN c 15))).1 = apF c := by
    unfold apF
    by_cases z : sumN c 15 = 0
    · rw [if_pos z, if_pos z, z, Nat.zero_sub]
      exact funext fun k => whF_z
    · rw [if_neg z, if_neg z]; rfl
  refine ⟨(grF ((if sumN c 15 = 0 then 0 else 1000000) - sumN (whF c (sumN c 15)) 15) (whF c (sumN c 15), whR c (sumN c 15))).2, ?_⟩
  have hC1 := lm_rnC (d := d) (n := n) (r := r) (h := h) (F0 := whF c (sumN c 15)) (R0 := whR c (sumN c 15)) g31 hR hm _ 0 (Nat.zero_add _)
  rw [hF] at hC1
  have hB := lm_rnB (d := d) (n := n) (F0 := F0) (R0 := R0) (o9 := (.inl none, n, NX h (apF c) (grF ((if sumN c 15 = 0 then 0 else 1000000) - sumN (whF c (sumN c 15)) 15) (whF c (sumN c 15), whR c (sumN c 15))).2, 0, 0)) g31 g39 hC hc rfl hr rfl (by
    refine ev_ext (a := 41) (t := 0) (len := 15) (f := fun k => nI (uF c (sumN c 15) 15 F0 k)) (f2 := fun k => nI (whF c (sumN c 15) k)) (by omega) NX_41 (fun j hj => by show nI (if j < 15 then _ else _) = _; rw [if_pos hj]) ?_
    refine ev_heap (NX_F _) ?_
    refine ev_extL (a := 40) (t := 1) (len := 15) (f := fun k => lZ (wR c (sumN c 15) 15 R0 k)) (f2 := fun k => lZ (whR c (sumN c 15) k)) (by omega) NX_40 (fun j hj => by show lZ (if j < 15 then _ else _) = _; rw [if_pos hj]) ?_
    refine ev_heap (NX_R _) ?_
    exact hC1) 15 0 (by omega)
  rw [uF_0, wR_0, NX_id g41 g40] at hB
  clear hC1
  have hA := lm_rnA (d := d) (n := n) g31 g39 hr (o9 := (.inl none, n, NX h (apF c) (grF ((if sumN c 15 = 0 then 0 else 1000000) - sumN (whF c (sumN c 15)) 15) (whF c (sumN c 15), whR c (sumN c 15))).2, 0, 0)) (by
    rw [hcs]
    by_cases z : sumN c 15 = 0
    · rw [if_pos z] at hB ⊢
      refine ev_lload_n dX10_renews_30 rfl ?_
      refine ev_lconst dX10_renews_31 lc0 ?_
      refine ev_lcmpN dX10_renews_32 (by omega) (by omega) ?_
      refine ev_if_neF dX10_renews_33 40 (by decide) (by first | assumption | exact cmp_eq (by omega)) ?_
      refine ev_iconst dX10_renews_36 ci0 ?_
      refine ev_goto (tgt := 42) dX10_renews_37 (by decide) ?_
      refine ev_istore dX10_renews_42 (Nat.le_of_ble_eq_true rfl) ?_
      refine ev_iconst dX10_renews_44 ci0 ?_
      refine ev_istore dX10_renews_45 (Nat.le_of_ble_eq_true rfl) ?_
      refine ev_sub ?_ (hB)
      repeat (first | exact trivial | refine ⟨rfl, ?_⟩)
    · rw [if_neg z] at hB ⊢
      refine ev_lload_n dX10_renews_30 rfl ?_
      refine ev_lconst dX10_renews_31 lc0 ?_
      refine ev_lcmpN dX10_renews_32 (by omega) (by omega) ?_
      refine ev_if_neT (tgt := 40) dX10_renews_33 (by decide) (by first | assumption | exact cmp_ne0 (by omega)) ?_
      refine ev_ldc (v := nI 1000000) dX10_renews_40 (am_in 932 (by decide +kernel) rfl) ?_
      refine ev_istore dX10_renews_42 (Nat.le_of_ble_eq_true rfl) ?_
      refine ev_iconst dX10_renews_44 ci0 ?_
      refine ev_istore dX10_renews_45 (Nat.le_of_ble_eq_true rfl) ?_
      refine ev_sub ?_ (hB)
      repeat (first | exact trivial | refine ⟨rfl, ?_⟩)
      ) 15 0 (by omega)
  rw [hcs] at hA
  refine ev_lconst dX10_renews_0 lc0 ?_
  refine ev_lstore_n dX10_renews_1 (Nat.le_of_ble_eq_true rfl) ?_
  refine ev_iconst dX10_renews_2 ci0 ?_
  refine ev_istore dX10_renews_3 (Nat.le_of_ble_eq_true rfl) ?_
  refine ev_sub ?_ (hA)
  repeat (first | exact trivial | refine ⟨rfl, ?_⟩)
end MT
