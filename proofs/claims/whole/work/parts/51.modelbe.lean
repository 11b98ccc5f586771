/-! the model begins: the pairs -/
section MP
variable {d n : Nat} {h h' : Hp} {made th : Nat} {t : Nat → Nat} {l : Nat → Nat → Nat} {w : Nat → Nat → Nat → Nat} {S : Nat → Nat → Nat} {W : Nat → Nat} {F : Nat → Nat}
theorem lm_bp (q : WF made t l w S W) (g31 : h 31 = MO made F th) (ga : MA h made t l w S W) {o9 : Out} (K : Ev (d + 2) MX10_begin 46 [(0, .ref 31), (1, .int (nI made))] [] n (va_up h 39 (aL 480 (bmF t l w made))) o9) :
    ∀ k i, i + k = made → Ev (d + 2) MX10_begin 11 [(0, .ref 31), (1, .int (nI i))] [] n (va_up h 39 (aL 480 (bmF t l w i))) o9 := by
  have hm := q.1
  obtain ⟨go, b5, c5⟩ := ga.2.2.2.2.1
  intro k
  induction k with
  | zero =>
    intro i hi
    have e : i = made := by omega
    subst e
    refine ev_iload_n dX10_begin_11 rfl ?_
    first | refine ev_aload_n dX10_begin_12 rfl ?_ | refine ev_aload_nN dX10_begin_12 rfl ?_
    refine ev_getfield dX10_begin_13 fl_RX10_52 (by repeat (first | assumption | exact up_s | refine (up_n (by omega)).trans ?_)) rfl ?_
    refine ev_icmp_geT (tgt := 46) dX10_begin_16 (by decide) (by first | assumption | exact nI_le (by omega) (by omega) | decide) ?_
    refine ev_sub ?_ (K)
    repeat (first | exact trivial | refine ⟨rfl, ?_⟩)
  | succ k ih =>
    intro i hi
    have ih := ih (i + 1) (by omega)
    clear K
    have him : i < made := by omega
    rcases q.2.1 i with ht | ht
    · have e1 : bmF t l w (i + 1) = bmF t l w i := if_neg (by omega)
      rw [e1] at ih
      have eg : go i = 1 := (c5 i (by omega)).trans (if_pos ⟨him, ht⟩)
      refine ev_iload_n dX10_begin_11 rfl ?_
      first | refine ev_aload_n dX10_begin_12 rfl ?_ | refine ev_aload_nN dX10_begin_12 rfl ?_
      refine ev_getfield dX10_begin_13 fl_RX10_52 (by repeat (first | assumption | exact up_s | refine (up_n (by omega)).trans ?_)) rfl ?_
      refine ev_icmp_geF dX10_begin_16 46 (by decide) (by first | assumption | exact nI_ge (by omega) (by omega) | decide) ?_
      first | refine ev_aload_n dX10_begin_19 rfl ?_ | refine ev_aload_nN dX10_begin_19 rfl ?_
      refine ev_getfield dX10_begin_20 fl_RX10_22 (by repeat (first | assumption | exact up_s | refine (up_n (by omega)).trans ?_)) rfl ?_
      refine ev_iload_n dX10_begin_23 rfl ?_
      refine ev_bald dX10_begin_24 (by repeat (first | assumption | exact up_s | refine (up_n (by omega)).trans ?_)) _ rfl (by omega) (by omega) ?_
      refine ev_if_neT (tgt := 40) dX10_begin_25 (by decide) (by first | assumption | exact nI_ne0 (by omega) (by omega) | decide) ?_
      refine ev_iincN (b := 1) dX10_begin_40 rfl (Nat.le_of_ble_eq_true rfl) ?_
      refine ev_goto (tgt := 11) dX10_begin_43 (by decide) ?_
      refine ev_sub ?_ (ih)
      repeat (first | exact trivial | refine ⟨rfl, ?_⟩)
    · have e1 : bmF t l w (i + 1) = mtO (240 * 1) (w 1 i) (l 1 i) (w 0 i) (l 0 i) (mtO (240 * 0) (w 0 i) (l 0 i) (w 1 i) (l 1 i) (bmF t l w i)) := if_pos ht
      rw [e1] at ih
      clear e1
      have eg : go i = 0 := (c5 i (by omega)).trans (if_neg (by omega))
      refine ev_iload_n dX10_begin_11 rfl ?_
      first | refine ev_aload_n dX10_begin_12 rfl ?_ | refine ev_aload_nN dX10_begin_12 rfl ?_
      refine ev_getfield dX10_begin_13 fl_RX10_52 (by repeat (first | assumption | exact up_s | refine (up_n (by omega)).trans ?_)) rfl ?_
      refine ev_icmp_geF dX10_begin_16 46 (by decide) (by first | assumption | exact nI_ge (by omega) (by omega) | decide) ?_
      first | refine ev_aload_n dX10_begin_19 rfl ?_ | refine ev_aload_nN dX10_begin_19 rfl ?_
      refine ev_getfield dX10_begin_20 fl_RX10_22 (by repeat (first | assumption | exact up_s | refine (up_n (by omega)).trans ?_)) rfl ?_
      refine ev_iload_n dX10_begin_23 rfl ?_
      refine ev_bald dX10_begin_24 (by repeat (first | assumption | exact up_s | refine (up_n (by omega)).trans ?_)) _ rfl (by omega) (by omega) ?_
      refine ev_if_neF dX10_begin_25 40 (by decide) (by first | assumption | exact z_eq (by omega) | decide) ?_
      first | refine ev_aload_n dX10_begin_28 rfl ?_ | refine ev_aload_nN dX10_begin_28 rfl ?_
      refine ev_iconst dX10_begin_29 ci0 ?_
      refine ev_iload_n dX10_begin_30 rfl ?_
      refine ev_V2v dX10_begin_31 st_RX10_87 na_X10_marks (Nat.le_of_ble_eq_true rfl) (Nat.le_of_ble_eq_true rfl) (by repeat (first | assumption | exact up_s | refine (up_n (by omega)).trans ?_)) rfl (mm_marks (D := 0) q g31 ga him (by omega)) ?_
      first | refine ev_aload_n dX10_begin_34 rfl ?_ | refine ev_aload_nN dX10_begin_34 rfl ?_
      refine ev_iconst dX10_begin_35 ci1 ?_
      refine ev_iload_n dX10_begin_36 rfl ?_
      refine ev_V2v dX10_begin_37 st_RX10_87 na_X10_marks (Nat.le_of_ble_eq_true rfl) (Nat.le_of_ble_eq_true rfl) (by repeat (first | assumption | exact up_s | refine (up_n (by omega)).trans ?_)) rfl (mm_marks (D := 1) q g31 ga him (by omega)) ?_
      refine ev_iincN (b := 1) dX10_begin_40 rfl (Nat.le_of_ble_eq_true rfl) ?_
      refine ev_goto (tgt := 11) dX10_begin_43 (by decide) ?_
      refine ev_sub ?_ (ih)
      repeat (first | exact trivial | refine ⟨rfl, ?_⟩)
theorem lm_bm (g31 : h 31 = MO made F th) {C : Nat → Nat} (g39 : h 39 = aL 480 C) (hC : ∀ x, C x ≤ 1) {r s : Nat} (hr : r + 15 ≤ 480) {o9 : Out} (K : Ev d MX10_begin 97 [(0, .ref 31), (1, .int (nI s)), (2, .int (nI r)), (3, .int (nI (sumN (fun x => C (r + x)) 15))), (4, .int (nI (r + 15)))] [] n h o9) :
    ∀ k x, x + k = 15 → Ev d MX10_begin 62 [(0, .ref 31), (1, .int (nI s)), (2, .int (nI r)), (3, .int (nI (sumN (fun x => C (r + x)) x))), (4, .int (nI (r + x)))] [] n h o9 := by
  intro k
  induction k with
  | zero =>
    intro x hx
    have e : x = 15 := by omega
    subst e
    refine ev_iload dX10_begin_62 rfl ?_
    refine ev_iload_n dX10_begin_64 rfl ?_
    refine ev_bipush dX10_begin_65 bp15 ?_
    first | refine ev_iaddN dX10_begin_67 ?_ | refine ev_iadd dX10_begin_67 ?_
    refine ev_icmp_geT (tgt := 97) dX10_begin_68 (by decide) (by first | assumption | exact nI_le (by omega) (by omega) | decide) ?_
    refine ev_sub ?_ (K)
    repeat (first | exact trivial | refine ⟨rfl, ?_⟩)
  | succ k ih =>
    intro x hx
    have ih := ih (x + 1) (by omega)
    clear K
    have c1 := hC (r + x)
    have e1 : sumN (fun x => C (r + x)) (x + 1) = sumN (fun x => C (r + x)) x + C (r + x) := rfl
    rw [e1] at ih
    clear e1
    rcases (show C (r + x) = 0 ∨ C (r + x) = 1 by omega) with q | q
    · rw [q] at ih
      refine ev_iload dX10_begin_62 rfl ?_
      refine ev_iload_n dX10_begin_64 rfl ?_
      refine ev_bipush dX10_begin_65 bp15 ?_
      first | refine ev_iaddN dX10_begin_67 ?_ | refine ev_iadd dX10_begin_67 ?_
      refine ev_icmp_geF dX10_begin_68 97 (by decide) (by first | assumption | exact nI_ge (by omega) (by omega) | decide) ?_
      refine ev_iload_n dX10_begin_71 rfl ?_
      first | refine ev_aload_n dX10_begin_72 rfl ?_ | refine ev_aload_nN dX10_begin_72 rfl ?_
      refine ev_getfield dX10_begin_73 fl_RX10_32 (by repeat (first | assumption | exact up_s | refine (up_n (by omega)).trans ?_)) rfl ?_
      refine ev_iload dX10_begin_76 rfl ?_
      refine ev_lald dX10_begin_78 (by repeat (first | assumption | exact up_s | refine (up_n (by omega)).trans ?_)) _ rfl (by omega) (by omega) ?_
      refine ev_lconst dX10_begin_79 lc0 ?_
      refine ev_lcmpN dX10_begin_80 (by omega) (by omega) ?_
      refine ev_if_leT (tgt := 88) dX10_begin_81 (by decide) (by first | assumption | exact cmp_le (by omega)) ?_
      refine ev_iconst dX10_begin_88 ci0 ?_
      first | refine ev_iaddN dX10_begin_89 ?_ | refine ev_iadd dX10_begin_89 ?_
      refine ev_istore_n dX10_begin_90 (Nat.le_of_ble_eq_true rfl) ?_
      refine ev_iincN (b := 1) dX10_begin_91 rfl (Nat.le_of_ble_eq_true rfl) ?_
      refine ev_goto (tgt := 62) dX10_begin_94 (by decide) ?_
      refine ev_sub ?_ (ih)
      repeat (first | exact trivial | refine ⟨rfl, ?_⟩)
    · rw [q] at ih
      refine ev_iload dX10_begin_62 rfl ?_
      refine ev_iload_n dX10_begin_64 rfl ?_
      refine ev_bipush dX10_begin_65 bp15 ?_
      first | refine ev_iaddN dX10_begin_67 ?_ | refine ev_iadd dX10_begin_67 ?_
      refine ev_icmp_geF dX10_begin_68 97 (by decide) (by first | assumption | exact nI_ge (by omega) (by omega) | decide) ?_
      refine ev_iload_n dX10_begin_71 rfl ?_
      first | refine ev_aload_n dX10_begin_72 rfl ?_ | refine ev_aload_nN dX10_begin_72 rfl ?_
      refine ev_getfield dX10_begin_73 fl_RX10_32 (by repeat (first | assumption | exact up_s | refine (up_n (by omega)).trans ?_)) rfl ?_
      refine ev_iload dX10_begin_76 rfl ?_
      refine ev_lald dX10_begin_78 (by repeat (first | assumption | exact up_s | refine (up_n (by omega)).trans ?_)) _ rfl (by omega) (by omega) ?_
      refine ev_lconst dX10_begin_79 lc0 ?_
      refine ev_lcmpN dX10_begin_80 (by omega) (by omega) ?_
      refine ev_if_leF dX10_begin_81 88 (by decide) (by first | assumption | exact cmp_ngt (by omega)) ?_
      refine ev_iconst dX10_begin_84 ci1 ?_
      refine ev_goto (tgt := 89) dX10_begin_85 (by decide) ?_
      first | refine ev_iaddN dX10_begin_89 ?_ | refine ev_iadd dX10_begin_89 ?_
      refine ev_istore_n dX10_begin_90 (Nat.le_of_ble_eq_true rfl) ?_
      refine ev_iincN (b := 1) dX10_begin_91 rfl (Nat.le_of_ble_eq_true rfl) ?_
      refine ev_goto (tgt := 62) dX10_begin_94 (by decide) ?_
      refine ev_sub ?_ (ih)
      repeat (first | exact trivial | refine ⟨rfl, ?_⟩)
end MP
