/-! lexicons: the object x, its rows x+1 .. x+4 -/
abbrev Lh (h : Hp) (x D : Nat) : Prop := h x = .inr (2, [.int (nI D), .ref (x + 1), .ref (x + 2), .ref (x + 3), .ref (x + 4)])
abbrev LX (h : Hp) (x : Nat) (S C F : Nat → Nat) (R : Nat → Int) : Hp := va_up (va_up (va_up (va_up h (x + 1) (aI 240 S)) (x + 2) (aL 240 C)) (x + 3) (aI 15 F)) (x + 4) (aR 15 R)
section LXS
variable {h : Hp} {x : Nat} {S C F : Nat → Nat} {R : Nat → Int}
theorem LX_S (S' : Nat → Nat) : va_up (LX h x S C F R) (x + 1) (aI 240 S') = LX h x S' C F R := by
  rw [up_c (k := x + 4) (by omega), up_c (k := x + 3) (by omega), up_c (k := x + 2) (by omega), up_u]
theorem LX_C (C' : Nat → Nat) : va_up (LX h x S C F R) (x + 2) (aL 240 C') = LX h x S C' F R := by
  rw [up_c (k := x + 4) (by omega), up_c (k := x + 3) (by omega), up_u]
theorem LX_F (F' : Nat → Nat) : va_up (LX h x S C F R) (x + 3) (aI 15 F') = LX h x S C F' R := by
  rw [up_c (k := x + 4) (by omega), up_u]
theorem LX_R (R' : Nat → Int) : va_up (LX h x S C F R) (x + 4) (aR 15 R') = LX h x S C F R' := up_u
theorem LX_h {D : Nat} (g : Lh h x D) : Lh (LX h x S C F R) x D := (up_n (by omega)).trans ((up_n (by omega)).trans ((up_n (by omega)).trans ((up_n (by omega)).trans g)))
theorem LX_1 : LX h x S C F R (x + 1) = aI 240 S := (up_n (by omega)).trans ((up_n (by omega)).trans ((up_n (by omega)).trans up_s))
theorem LX_2 : LX h x S C F R (x + 2) = aL 240 C := (up_n (by omega)).trans ((up_n (by omega)).trans up_s)
theorem LX_3 : LX h x S C F R (x + 3) = aI 15 F := (up_n (by omega)).trans up_s
theorem LX_4 : LX h x S C F R (x + 4) = aR 15 R := up_s
theorem LX_o {a : Nat} (ha : a < x + 1 ∨ x + 4 < a) : LX h x S C F R a = h a := (up_n (by omega)).trans ((up_n (by omega)).trans ((up_n (by omega)).trans (up_n (by omega))))
theorem LX_id {e1 : h (x + 1) = aI 240 S} {e2 : h (x + 2) = aL 240 C} {e3 : h (x + 3) = aI 15 F} {e4 : h (x + 4) = aR 15 R} : LX h x S C F R = h := by
  show va_up (va_up (va_up (va_up h (x + 1) (aI 240 S)) (x + 2) (aL 240 C)) (x + 3) (aI 15 F)) (x + 4) (aR 15 R) = h
  rw [show va_up h (x + 1) (aI 240 S) = h from up_id e1, show va_up h (x + 2) (aL 240 C) = h from up_id e2, show va_up h (x + 3) (aI 15 F) = h from up_id e3, show va_up h (x + 4) (aR 15 R) = h from up_id e4]
theorem LX_LX (S' C' F' : Nat → Nat) (R' : Nat → Int) : LX (LX h x S C F R) x S' C' F' R' = LX h x S' C' F' R' := by
  show va_up (va_up (va_up (va_up (LX h x S C F R) (x + 1) (aI 240 S')) (x + 2) (aL 240 C')) (x + 3) (aI 15 F')) (x + 4) (aR 15 R') = _
  rw [LX_S, LX_C, LX_F, LX_R]
theorem LX_Sn {a len : Nat} {w : Nat → Nat} (g : Sn h a len w) (ha : x + 4 < a) : Sn (LX h x S C F R) a len w :=
  Sn_up (Sn_up (Sn_up (Sn_up g (by omega) (by omega)) (by omega) (by omega)) (by omega) (by omega)) (by omega) (by omega)
theorem LX_Cp {made size : Nat} {t : Nat → Nat} {l : Nat → Nat → Nat} {w : Nat → Nat → Nat → Nat} (g : Cp h made size t l w) (h1 : 4 ≤ x) (h2 : x + 4 < 26) : Cp (LX h x S C F R) made size t l w :=
  Cp_up (Cp_up (Cp_up (Cp_up g (by omega)) (by omega)) (by omega)) (by omega)
end LXS
theorem fill_eq (C : Nat → Nat) (i v : Nat) : va_up (fun c => if c < i then v else C c) i v = fun c => if c < i + 1 then v else C c := by
  funext c
  show (if c = i then v else if c < i then v else C c) = _
  by_cases q : c = i
  · rw [if_pos q, if_pos (by omega)]
  · rw [if_neg q]
    by_cases q2 : c < i
    · rw [if_pos q2, if_pos (by omega)]
    · rw [if_neg q2, if_neg (by omega)]
theorem lp_fillL {d n a N v : Nat} {h : Hp} {C : Nat → Nat} (ha : 2 ≤ a) (hN : N < 2 ^ 31) (g : h a = aL N C) : ∀ k i, i + k = N → Ev d MJ7_fill_d0a16 6 [(0, .ref a), (1, .long (lN v)), (3, .int (nI i)), (4, .int (nI N))] [] n (va_up h a (aL N (fun c => if c < i then v else C c))) (.inl none, n, va_up h a (aL N (fun _ => v)), 0, 0) := by
  intro k
  induction k with
  | zero =>
    intro i hi
    have e : i = N := by omega
    subst e
    refine ev_iload_n dJ7_fill_d0a16_6 rfl ?_
    refine ev_iload dJ7_fill_d0a16_7 rfl ?_
    refine ev_icmp_geT (tgt := 22) dJ7_fill_d0a16_9 (by decide) (by first | assumption | exact nI_le (by omega) (by omega) | decide) ?_
    refine ev_extL (f2 := fun _ => lN v) ha up_s (fun j hj => by simp only [hj, if_true]) ?_
    refine ev_heap up_u ?_
    exact ev_vreturnE dJ7_fill_d0a16_22 rfl (by rfl)
  | succ k ih =>
    intro i hi
    refine ev_iload_n dJ7_fill_d0a16_6 rfl ?_
    refine ev_iload dJ7_fill_d0a16_7 rfl ?_
    refine ev_icmp_geF dJ7_fill_d0a16_9 22 (by decide) (by first | assumption | exact nI_ge (by omega) (by omega) | decide) ?_
    first | refine ev_aload_n dJ7_fill_d0a16_12 rfl ?_ | refine ev_aload_nN dJ7_fill_d0a16_12 rfl ?_
    refine ev_iload_n dJ7_fill_d0a16_13 rfl ?_
    refine ev_lload_n dJ7_fill_d0a16_14 rfl ?_
    first | refine ev_last dJ7_fill_d0a16_15 (by omega) (by repeat (first | assumption | exact up_s | refine (up_n (by omega)).trans ?_)) _ _ rfl rfl (by omega) (by omega) ?_ | refine ev_rast dJ7_fill_d0a16_15 (by omega) (by repeat (first | assumption | exact up_s | refine (up_n (by omega)).trans ?_)) _ _ rfl rfl (by omega) (by omega) ?_
    refine ev_iincN (b := 1) dJ7_fill_d0a16_16 rfl (Nat.le_of_ble_eq_true rfl) ?_
    refine ev_goto (tgt := 6) dJ7_fill_d0a16_19 (by decide) ?_
    refine ev_heap (up_u.trans (congrArg (fun f => va_up h a (aL N f)) (fill_eq C i v))) ?_
    refine ev_sub ?_ (ih (i + 1) (by omega))
    repeat (first | exact trivial | refine ⟨rfl, ?_⟩)
theorem mJ_fillL {d n a N v : Nat} {h : Hp} {C : Nat → Nat} (ha : 2 ≤ a) (hN : N < 2 ^ 31) (g : h a = aL N C) : Ev d MJ7_fill_d0a16 0 (lv_args 0 [.ref a, .long (lN v)]) [] n h (.inl none, n, va_up h a (aL N (fun _ => v)), 0, 0) := by
  refine ev_iconst dJ7_fill_d0a16_0 ci0 ?_
  refine ev_istore_n dJ7_fill_d0a16_1 (Nat.le_of_ble_eq_true rfl) ?_
  first | refine ev_aload_n dJ7_fill_d0a16_2 rfl ?_ | refine ev_aload_nN dJ7_fill_d0a16_2 rfl ?_
  refine ev_alen dJ7_fill_d0a16_3 (by repeat (first | assumption | exact up_s | refine (up_n (by omega)).trans ?_)) (by decide) ?_
  refine ev_istore dJ7_fill_d0a16_4 (Nat.le_of_ble_eq_true rfl) ?_
  refine ev_heap (h2 := va_up h a (aL N (fun c => if c < 0 then v else C c))) (by rw [show (fun c => if c < 0 then v else C c) = C from funext fun c => if_neg (Nat.not_lt_zero c)]; exact (up_id g).symm) ?_
  refine ev_sub ?_ (lp_fillL ha hN g N 0 (by omega))
  repeat (first | exact trivial | refine ⟨rfl, ?_⟩)
theorem lp_fillI {d n a N v : Nat} {h : Hp} {C : Nat → Nat} (ha : 2 ≤ a) (hN : N < 2 ^ 31) (g : h a = aI N C) : ∀ k i, i + k = N → Ev d MJ7_fill_53178 5 [(0, .ref a), (1, .int (nI v)), (2, .int (nI i)), (3, .int (nI N))] [] n (va_up h a (aI N (fun c => if c < i then v else C c))) (.inl none, n, va_up h a (aI N (fun _ => v)), 0, 0) := by
  intro k
  induction k with
  | zero =>
    intro i hi
    have e : i = N := by omega
    subst e
    refine ev_iload_n dJ7_fill_53178_5 rfl ?_
    refine ev_iload_n dJ7_fill_53178_6 rfl ?_
    refine ev_icmp_geT (tgt := 20) dJ7_fill_53178_7 (by decide) (by first | assumption | exact nI_le (by omega) (by omega) | decide) ?_
    refine ev_ext (f2 := fun _ => nI v) ha up_s (fun j hj => by simp only [hj, if_true]) ?_
    refine ev_heap up_u ?_
    exact ev_vreturnE dJ7_fill_53178_20 rfl (by rfl)
  | succ k ih =>
    intro i hi
    refine ev_iload_n dJ7_fill_53178_5 rfl ?_
    refine ev_iload_n dJ7_fill_53178_6 rfl ?_
    refine ev_icmp_geF dJ7_fill_53178_7 20 (by decide) (by first | assumption | exact nI_ge (by omega) (by omega) | decide) ?_
    first | refine ev_aload_n dJ7_fill_53178_10 rfl ?_ | refine ev_aload_nN dJ7_fill_53178_10 rfl ?_
    refine ev_iload_n dJ7_fill_53178_11 rfl ?_
    refine ev_iload_n dJ7_fill_53178_12 rfl ?_
    refine ev_iast dJ7_fill_53178_13 (by omega) (by repeat (first | assumption | exact up_s | refine (up_n (by omega)).trans ?_)) _ _ rfl rfl (by omega) (by omega) ?_
    refine ev_iincN (b := 1) dJ7_fill_53178_14 rfl (Nat.le_of_ble_eq_true rfl) ?_
    refine ev_goto (tgt := 5) dJ7_fill_53178_17 (by decide) ?_
    refine ev_heap (up_u.trans (congrArg (fun f => va_up h a (aI N f)) (fill_eq C i v))) ?_
    refine ev_sub ?_ (ih (i + 1) (by omega))
    repeat (first | exact trivial | refine ⟨rfl, ?_⟩)
theorem mJ_fillI {d n a N v : Nat} {h : Hp} {C : Nat → Nat} (ha : 2 ≤ a) (hN : N < 2 ^ 31) (g : h a = aI N C) : Ev d MJ7_fill_53178 0 (lv_args 0 [.ref a, .int (nI v)]) [] n h (.inl none, n, va_up h a (aI N (fun _ => v)), 0, 0) := by
  refine ev_iconst dJ7_fill_53178_0 ci0 ?_
  refine ev_istore_n dJ7_fill_53178_1 (Nat.le_of_ble_eq_true rfl) ?_
  first | refine ev_aload_n dJ7_fill_53178_2 rfl ?_ | refine ev_aload_nN dJ7_fill_53178_2 rfl ?_
  refine ev_alen dJ7_fill_53178_3 (by repeat (first | assumption | exact up_s | refine (up_n (by omega)).trans ?_)) (by decide) ?_
  refine ev_istore_n dJ7_fill_53178_4 (Nat.le_of_ble_eq_true rfl) ?_
  refine ev_heap (h2 := va_up h a (aI N (fun c => if c < 0 then v else C c))) (by rw [show (fun c => if c < 0 then v else C c) = C from funext fun c => if_neg (Nat.not_lt_zero c)]; exact (up_id g).symm) ?_
  refine ev_sub ?_ (lp_fillI ha hN g N 0 (by omega))
  repeat (first | exact trivial | refine ⟨rfl, ?_⟩)
section M2
variable {d n x D : Nat} {h : Hp} {S C F : Nat → Nat} {R : Nat → Int}
theorem m2_cellOf {wd o : Nat} (hw : wd ≤ 15) (ho : o < 15) : Ev d MX2_cellOf 0 (lv_args 0 [.int (nI wd), .int (nI o)]) [] n h (.inl (some (.int (nI (15 * wd + o)))), n, h, 0, 0) := by
  refine ev_iload_n dX2_cellOf_0 rfl ?_
  refine ev_if_ltF dX2_cellOf_1 24 (by decide) (by first | assumption | exact nI_pos (by omega) | decide) ?_
  refine ev_iload_n dX2_cellOf_4 rfl ?_
  refine ev_bipush dX2_cellOf_5 bp15 ?_
  refine ev_icmp_gtF dX2_cellOf_7 24 (by decide) (by first | assumption | exact nI_nlt (by omega) (by omega) | decide) ?_
  refine ev_iload_n dX2_cellOf_10 rfl ?_
  refine ev_if_ltF dX2_cellOf_11 24 (by decide) (by first | assumption | exact nI_pos (by omega) | decide) ?_
  refine ev_iload_n dX2_cellOf_14 rfl ?_
  refine ev_bipush dX2_cellOf_15 bp15 ?_
  refine ev_icmp_geF dX2_cellOf_17 24 (by decide) (by first | assumption | exact nI_ge (by omega) (by omega) | decide) ?_
  refine ev_iconst dX2_cellOf_20 ci1 ?_
  refine ev_goto (tgt := 25) dX2_cellOf_21 (by decide) ?_
  refine ev_istore_n dX2_cellOf_25 (Nat.le_of_ble_eq_true rfl) ?_
  refine ev_iload_n dX2_cellOf_26 rfl ?_
  refine ev_if_eqF dX2_cellOf_27 39 (by decide) (by first | assumption | exact nI_ne0 (by omega) (by omega) | decide) ?_
  refine ev_iload_n dX2_cellOf_30 rfl ?_
  refine ev_bipush dX2_cellOf_31 bp15 ?_
  first | refine ev_imulN dX2_cellOf_33 ?_ | refine ev_imul dX2_cellOf_33 ?_
  refine ev_iload_n dX2_cellOf_34 rfl ?_
  first | refine ev_iaddN dX2_cellOf_35 ?_ | refine ev_iadd dX2_cellOf_35 ?_
  refine ev_goto (tgt := 40) dX2_cellOf_36 (by decide) ?_
  exact ev_ireturnE dX2_cellOf_40 rfl (by rw [Nat.mul_comm])
theorem m2_shareOf (g : Lh h x D) (g1 : h (x + 1) = aI 240 S) {wd o : Nat} (hw : wd ≤ 15) (ho : o < 15) : Ev (d + 1) MX2_shareOf 0 (lv_args 0 [.ref x, .int (nI wd), .int (nI o)]) [] n h (.inl (some (.int (nI (S (15 * wd + o))))), n, h, 0, 0) := by
  refine ev_iload_n dX2_shareOf_0 rfl ?_
  refine ev_iload_n dX2_shareOf_1 rfl ?_
  refine ev_S2 dX2_shareOf_2 st_RX2_29 na_X2_cellOf (Nat.le_of_ble_eq_true rfl) (Nat.le_of_ble_eq_true rfl) (m2_cellOf hw ho) ?_
  refine ev_istore_n dX2_shareOf_5 (Nat.le_of_ble_eq_true rfl) ?_
  refine ev_iload_n dX2_shareOf_6 rfl ?_
  refine ev_if_ltF dX2_shareOf_7 28 (by decide) (by first | assumption | exact nI_pos (by omega) | decide) ?_
  refine ev_iload_n dX2_shareOf_10 rfl ?_
  first | refine ev_aload_n dX2_shareOf_11 rfl ?_ | refine ev_aload_nN dX2_shareOf_11 rfl ?_
  refine ev_getfield dX2_shareOf_12 fl_RX2_9 (by repeat (first | assumption | exact up_s | refine (up_n (by omega)).trans ?_)) rfl ?_
  refine ev_alen dX2_shareOf_15 (by repeat (first | assumption | exact up_s | refine (up_n (by omega)).trans ?_)) (by decide) ?_
  refine ev_icmp_geF dX2_shareOf_16 28 (by decide) (by first | assumption | exact nI_ge (by omega) (by omega) | decide) ?_
  first | refine ev_aload_n dX2_shareOf_19 rfl ?_ | refine ev_aload_nN dX2_shareOf_19 rfl ?_
  refine ev_getfield dX2_shareOf_20 fl_RX2_9 (by repeat (first | assumption | exact up_s | refine (up_n (by omega)).trans ?_)) rfl ?_
  refine ev_iload_n dX2_shareOf_23 rfl ?_
  refine ev_iald dX2_shareOf_24 (by repeat (first | assumption | exact up_s | refine (up_n (by omega)).trans ?_)) _ rfl (by omega) (by omega) ?_
  refine ev_goto (tgt := 29) dX2_shareOf_25 (by decide) ?_
  exact ev_ireturnE dX2_shareOf_29 rfl (by rfl)
theorem m2_countOf (g : Lh h x D) (g2 : h (x + 2) = aL 240 C) {wd o : Nat} (hw : wd ≤ 15) (ho : o < 15) : Ev (d + 1) MX2_countOf 0 (lv_args 0 [.ref x, .int (nI wd), .int (nI o)]) [] n h (.inl (some (.long (lN (C (15 * wd + o))))), n, h, 0, 0) := by
  refine ev_iload_n dX2_countOf_0 rfl ?_
  refine ev_iload_n dX2_countOf_1 rfl ?_
  refine ev_S2 dX2_countOf_2 st_RX2_29 na_X2_cellOf (Nat.le_of_ble_eq_true rfl) (Nat.le_of_ble_eq_true rfl) (m2_cellOf hw ho) ?_
  refine ev_istore_n dX2_countOf_5 (Nat.le_of_ble_eq_true rfl) ?_
  refine ev_iload_n dX2_countOf_6 rfl ?_
  refine ev_if_ltF dX2_countOf_7 28 (by decide) (by first | assumption | exact nI_pos (by omega) | decide) ?_
  refine ev_iload_n dX2_countOf_10 rfl ?_
  first | refine ev_aload_n dX2_countOf_11 rfl ?_ | refine ev_aload_nN dX2_countOf_11 rfl ?_
  refine ev_getfield dX2_countOf_12 fl_RX2_15 (by repeat (first | assumption | exact up_s | refine (up_n (by omega)).trans ?_)) rfl ?_
  refine ev_alen dX2_countOf_15 (by repeat (first | assumption | exact up_s | refine (up_n (by omega)).trans ?_)) (by decide) ?_
  refine ev_icmp_geF dX2_countOf_16 28 (by decide) (by first | assumption | exact nI_ge (by omega) (by omega) | decide) ?_
  first | refine ev_aload_n dX2_countOf_19 rfl ?_ | refine ev_aload_nN dX2_countOf_19 rfl ?_
  refine ev_getfield dX2_countOf_20 fl_RX2_15 (by repeat (first | assumption | exact up_s | refine (up_n (by omega)).trans ?_)) rfl ?_
  refine ev_iload_n dX2_countOf_23 rfl ?_
  refine ev_lald dX2_countOf_24 (by repeat (first | assumption | exact up_s | refine (up_n (by omega)).trans ?_)) _ rfl (by omega) (by omega) ?_
  refine ev_goto (tgt := 29) dX2_countOf_25 (by decide) ?_
  exact ev_lreturnE dX2_countOf_29 rfl (by rfl)
theorem m2_meet (g : Lh h x D) {wd o : Nat} (hw : wd ≤ 15) (ho : o < 15) : Ev (d + 1) MX2_meet 0 (lv_args 0 [.ref x, .int (nI wd), .int (nI o)]) [] n (LX h x S C F R) (.inl none, n, LX h x S (va_up C (15 * wd + o) 1) F R, 0, 0) := by
  refine ev_iload_n dX2_meet_0 rfl ?_
  refine ev_iload_n dX2_meet_1 rfl ?_
  refine ev_S2 dX2_meet_2 st_RX2_29 na_X2_cellOf (Nat.le_of_ble_eq_true rfl) (Nat.le_of_ble_eq_true rfl) (m2_cellOf hw ho) ?_
  refine ev_istore_n dX2_meet_5 (Nat.le_of_ble_eq_true rfl) ?_
  refine ev_iload_n dX2_meet_6 rfl ?_
  refine ev_if_ltF dX2_meet_7 26 (by decide) (by first | assumption | exact nI_pos (by omega) | decide) ?_
  refine ev_iload_n dX2_meet_10 rfl ?_
  first | refine ev_aload_n dX2_meet_11 rfl ?_ | refine ev_aload_nN dX2_meet_11 rfl ?_
  refine ev_getfield dX2_meet_12 fl_RX2_15 (by repeat (first | assumption | exact up_s | refine (up_n (by omega)).trans ?_)) rfl ?_
  refine ev_alen dX2_meet_15 (by repeat (first | assumption | exact up_s | refine (up_n (by omega)).trans ?_)) (by decide) ?_
  refine ev_icmp_geF dX2_meet_16 26 (by decide) (by first | assumption | exact nI_ge (by omega) (by omega) | decide) ?_
  first | refine ev_aload_n dX2_meet_19 rfl ?_ | refine ev_aload_nN dX2_meet_19 rfl ?_
  refine ev_getfield dX2_meet_20 fl_RX2_15 (by repeat (first | assumption | exact up_s | refine (up_n (by omega)).trans ?_)) rfl ?_
  refine ev_iload_n dX2_meet_23 rfl ?_
  refine ev_lconst dX2_meet_24 lc1 ?_
  first | refine ev_last dX2_meet_25 (by omega) (by repeat (first | assumption | exact up_s | refine (up_n (by omega)).trans ?_)) _ _ rfl rfl (by omega) (by omega) ?_ | refine ev_rast dX2_meet_25 (by omega) (by repeat (first | assumption | exact up_s | refine (up_n (by omega)).trans ?_)) _ _ rfl rfl (by omega) (by omega) ?_
  exact ev_vreturnE dX2_meet_26 rfl (by rw [LX_C])
theorem lp_meetI {a b la o j : Nat} {wa C0 : Nat → Nat} {o9 : Out} (g : Lh h x D) (Sa : Sn h a la wa) (ha : x + 4 < a) (ho : o < 15) (K : Ev (d + 2) MX2_meetAll 55 [(0, .ref x), (1, .ref a), (2, .ref b), (3, .int (nI j))] [] n (LX h x S (mtI 0 o wa la C0) F R) o9) :
    ∀ k i, i + k = la → Ev (d + 2) MX2_meetAll 28 [(0, .ref x), (1, .ref a), (2, .ref b), (3, .int (nI j)), (4, .int (nI o)), (5, .int (nI i))] [] n (LX h x S (mtI 0 o wa i C0) F R) o9 := by
  have s3 := Sa.2.2.1
  have sa1 := Sa.1
  intro k
  induction k with
  | zero =>
    intro i hi
    have e : i = la := by omega
    subst e
    refine ev_iload dX2_meetAll_28 rfl ?_
    first | refine ev_aload_n dX2_meetAll_30 rfl ?_ | refine ev_aload_nN dX2_meetAll_30 rfl ?_
    refine ev_V0 dX2_meetAll_31 st_RX2_72 na_X6_length (Nat.le_of_ble_eq_true rfl) (Nat.le_of_ble_eq_true rfl) (by repeat (first | assumption | exact up_s | refine (up_n (by omega)).trans ?_)) rfl (m6_length (LX_Sn Sa ha)) ?_
    refine ev_icmp_geT (tgt := 55) dX2_meetAll_34 (by decide) (by first | assumption | exact nI_le (by omega) (by omega) | decide) ?_
    refine ev_sub ?_ (K)
    repeat (first | exact trivial | refine ⟨rfl, ?_⟩)
  | succ k ih =>
    intro i hi
    have s4 := Sa.2.2.2 i (by omega)
    refine ev_iload dX2_meetAll_28 rfl ?_
    first | refine ev_aload_n dX2_meetAll_30 rfl ?_ | refine ev_aload_nN dX2_meetAll_30 rfl ?_
    refine ev_V0 dX2_meetAll_31 st_RX2_72 na_X6_length (Nat.le_of_ble_eq_true rfl) (Nat.le_of_ble_eq_true rfl) (by repeat (first | assumption | exact up_s | refine (up_n (by omega)).trans ?_)) rfl (m6_length (LX_Sn Sa ha)) ?_
    refine ev_icmp_geF dX2_meetAll_34 55 (by decide) (by first | assumption | exact nI_ge (by omega) (by omega) | decide) ?_
    first | refine ev_aload_n dX2_meetAll_37 rfl ?_ | refine ev_aload_nN dX2_meetAll_37 rfl ?_
    first | refine ev_aload_n dX2_meetAll_38 rfl ?_ | refine ev_aload_nN dX2_meetAll_38 rfl ?_
    refine ev_iload dX2_meetAll_39 rfl ?_
    refine ev_V1 dX2_meetAll_41 st_RX2_77 na_X6_at (Nat.le_of_ble_eq_true rfl) (Nat.le_of_ble_eq_true rfl) (by repeat (first | assumption | exact up_s | refine (up_n (by omega)).trans ?_)) rfl (m6_atT (LX_Sn Sa ha) (show i < la by omega)) ?_
    refine ev_iload dX2_meetAll_44 rfl ?_
    refine ev_V2v dX2_meetAll_46 st_RX2_81 na_X2_meet (Nat.le_of_ble_eq_true rfl) (Nat.le_of_ble_eq_true rfl) (by repeat (first | assumption | exact up_s | refine (up_n (by omega)).trans ?_)) rfl (m2_meet g (by omega) ho) ?_
    refine ev_iincN (b := 1) dX2_meetAll_49 rfl (Nat.le_of_ble_eq_true rfl) ?_
    refine ev_goto (tgt := 28) dX2_meetAll_52 (by decide) ?_
    refine ev_sub ?_ (ih (i + 1) (by omega))
    repeat (first | exact trivial | refine ⟨rfl, ?_⟩)
theorem lp_meetO {a b la lb : Nat} {wa wb C0 : Nat → Nat} (g : Lh h x D) (Sa : Sn h a la wa) (ha : x + 4 < a) (Sb : Sn h b lb wb) (hb : x + 4 < b) :
    ∀ k j, j + k = lb → Ev (d + 2) MX2_meetAll 2 [(0, .ref x), (1, .ref a), (2, .ref b), (3, .int (nI j))] [] n (LX h x S (mtO 0 wa la wb j C0) F R) (.inl none, n, LX h x S (mtO 0 wa la wb lb C0) F R, 0, 0) := by
  have s3 := Sb.2.2.1
  have sb1 := Sb.1
  intro k
  induction k with
  | zero =>
    intro j hj
    have e : j = lb := by omega
    subst e
    refine ev_iload_n dX2_meetAll_2 rfl ?_
    first | refine ev_aload_n dX2_meetAll_3 rfl ?_ | refine ev_aload_nN dX2_meetAll_3 rfl ?_
    refine ev_V0 dX2_meetAll_4 st_RX2_72 na_X6_length (Nat.le_of_ble_eq_true rfl) (Nat.le_of_ble_eq_true rfl) (by repeat (first | assumption | exact up_s | refine (up_n (by omega)).trans ?_)) rfl (m6_length (LX_Sn Sb hb)) ?_
    refine ev_icmp_geT (tgt := 61) dX2_meetAll_7 (by decide) (by first | assumption | exact nI_le (by omega) (by omega) | decide) ?_
    exact ev_vreturnE dX2_meetAll_61 rfl (by rfl)
  | succ k ih =>
    intro j hj
    have s4 := Sb.2.2.2 j (by omega)
    refine ev_iload_n dX2_meetAll_2 rfl ?_
    first | refine ev_aload_n dX2_meetAll_3 rfl ?_ | refine ev_aload_nN dX2_meetAll_3 rfl ?_
    refine ev_V0 dX2_meetAll_4 st_RX2_72 na_X6_length (Nat.le_of_ble_eq_true rfl) (Nat.le_of_ble_eq_true rfl) (by repeat (first | assumption | exact up_s | refine (up_n (by omega)).trans ?_)) rfl (m6_length (LX_Sn Sb hb)) ?_
    refine ev_icmp_geF dX2_meetAll_7 61 (by decide) (by first | assumption | exact nI_ge (by omega) (by omega) | decide) ?_
    first | refine ev_aload_n dX2_meetAll_10 rfl ?_ | refine ev_aload_nN dX2_meetAll_10 rfl ?_
    refine ev_iload_n dX2_meetAll_11 rfl ?_
    refine ev_V1 dX2_meetAll_12 st_RX2_77 na_X6_at (Nat.le_of_ble_eq_true rfl) (Nat.le_of_ble_eq_true rfl) (by repeat (first | assumption | exact up_s | refine (up_n (by omega)).trans ?_)) rfl (m6_atT (LX_Sn Sb hb) (show j < lb by omega)) ?_
    refine ev_istore dX2_meetAll_15 (Nat.le_of_ble_eq_true rfl) ?_
    first | refine ev_aload_n dX2_meetAll_17 rfl ?_ | refine ev_aload_nN dX2_meetAll_17 rfl ?_
    refine ev_bipush dX2_meetAll_18 bp15 ?_
    refine ev_iload dX2_meetAll_20 rfl ?_
    refine ev_V2v dX2_meetAll_22 st_RX2_81 na_X2_meet (Nat.le_of_ble_eq_true rfl) (Nat.le_of_ble_eq_true rfl) (by repeat (first | assumption | exact up_s | refine (up_n (by omega)).trans ?_)) rfl (m2_meet g (Nat.le_refl 15) s4) ?_
    refine ev_iconst dX2_meetAll_25 ci0 ?_
    refine ev_istore dX2_meetAll_26 (Nat.le_of_ble_eq_true rfl) ?_
    refine ev_sub ?_ (lp_meetI (b := b) (j := j) (C0 := va_up (mtO 0 wa la wb j C0) (15 * 15 + wb j + 0) 1) g Sa ha s4 ?_ la 0 (by omega))
    · repeat (first | exact trivial | refine ⟨rfl, ?_⟩)
    · refine ev_iincN (b := 1) dX2_meetAll_55 rfl (Nat.le_of_ble_eq_true rfl) ?_
      refine ev_goto (tgt := 2) dX2_meetAll_58 (by decide) ?_
      refine ev_sub ?_ (ih (j + 1) (by omega))
      repeat (first | exact trivial | refine ⟨rfl, ?_⟩)
theorem m2_meetAll {a b la lb : Nat} {wa wb : Nat → Nat} (g : Lh h x D) (Sa : Sn h a la wa) (ha : x + 4 < a) (Sb : Sn h b lb wb) (hb : x + 4 < b) : Ev (d + 2) MX2_meetAll 0 (lv_args 0 [.ref x, .ref a, .ref b]) [] n (LX h x S C F R) (.inl none, n, LX h x S (mtO 0 wa la wb lb C) F R, 0, 0) := by
  refine ev_iconst dX2_meetAll_0 ci0 ?_
  refine ev_istore_n dX2_meetAll_1 (Nat.le_of_ble_eq_true rfl) ?_
  refine ev_sub ?_ (lp_meetO (C0 := C) g Sa ha Sb hb lb 0 (by omega))
  repeat (first | exact trivial | refine ⟨rfl, ?_⟩)
theorem lp_sum {a la o : Nat} {wa : Nat → Nat} (g : Lh h x D) (g1 : h (x + 1) = aI 240 S) (hS : SB S) (Sa : Sn h a la wa) (ho : o < 15) :
    ∀ k i, i + k = la → Ev (d + 2) MX2_sumOfShares 12 [(0, .ref x), (1, .ref a), (2, .int (nI o)), (3, .long (lN (sm S 0 o wa i))), (5, .int (nI i))] [] n h (.inl (some (.long (lN (sm S 0 o wa la)))), n, h, 0, 0) := by
  have s3 := Sa.2.2.1
  have sa1 := Sa.1
  intro k
  induction k with
  | zero =>
    intro i hi
    have e : i = la := by omega
    subst e
    refine ev_iload dX2_sumOfShares_12 rfl ?_
    first | refine ev_aload_n dX2_sumOfShares_14 rfl ?_ | refine ev_aload_nN dX2_sumOfShares_14 rfl ?_
    refine ev_V0 dX2_sumOfShares_15 st_RX2_72 na_X6_length (Nat.le_of_ble_eq_true rfl) (Nat.le_of_ble_eq_true rfl) (by repeat (first | assumption | exact up_s | refine (up_n (by omega)).trans ?_)) rfl (m6_length Sa) ?_
    refine ev_icmp_geT (tgt := 42) dX2_sumOfShares_18 (by decide) (by first | assumption | exact nI_le (by omega) (by omega) | decide) ?_
    refine ev_lload_n dX2_sumOfShares_42 rfl ?_
    exact ev_lreturnE dX2_sumOfShares_43 rfl (by rfl)
  | succ k ih =>
    intro i hi
    have s4 := Sa.2.2.2 i (by omega)
    have s5 := hS (15 * wa i + o)
    refine ev_iload dX2_sumOfShares_12 rfl ?_
    first | refine ev_aload_n dX2_sumOfShares_14 rfl ?_ | refine ev_aload_nN dX2_sumOfShares_14 rfl ?_
    refine ev_V0 dX2_sumOfShares_15 st_RX2_72 na_X6_length (Nat.le_of_ble_eq_true rfl) (Nat.le_of_ble_eq_true rfl) (by repeat (first | assumption | exact up_s | refine (up_n (by omega)).trans ?_)) rfl (m6_length Sa) ?_
    refine ev_icmp_geF dX2_sumOfShares_18 42 (by decide) (by first | assumption | exact nI_ge (by omega) (by omega) | decide) ?_
    refine ev_lload_n dX2_sumOfShares_21 rfl ?_
    first | refine ev_aload_n dX2_sumOfShares_22 rfl ?_ | refine ev_aload_nN dX2_sumOfShares_22 rfl ?_
    first | refine ev_aload_n dX2_sumOfShares_23 rfl ?_ | refine ev_aload_nN dX2_sumOfShares_23 rfl ?_
    refine ev_iload dX2_sumOfShares_24 rfl ?_
    refine ev_V1 dX2_sumOfShares_26 st_RX2_77 na_X6_at (Nat.le_of_ble_eq_true rfl) (Nat.le_of_ble_eq_true rfl) (by repeat (first | assumption | exact up_s | refine (up_n (by omega)).trans ?_)) rfl (m6_atT Sa (show i < la by omega)) ?_
    refine ev_iload_n dX2_sumOfShares_29 rfl ?_
    refine ev_V2 dX2_sumOfShares_30 st_RX2_96 na_X2_shareOf (Nat.le_of_ble_eq_true rfl) (Nat.le_of_ble_eq_true rfl) (by repeat (first | assumption | exact up_s | refine (up_n (by omega)).trans ?_)) rfl (m2_shareOf g g1 (by omega) ho) ?_
    refine ev_i2lN dX2_sumOfShares_33 (by omega) ?_
    first | refine ev_laddN dX2_sumOfShares_34 ?_ | refine ev_ladd dX2_sumOfShares_34 ?_
    refine ev_lstore_n dX2_sumOfShares_35 (Nat.le_of_ble_eq_true rfl) ?_
    refine ev_iincN (b := 1) dX2_sumOfShares_36 rfl (Nat.le_of_ble_eq_true rfl) ?_
    refine ev_goto (tgt := 12) dX2_sumOfShares_39 (by decide) ?_
    refine ev_sub ?_ (ih (i + 1) (by omega))
    repeat (first | exact trivial | refine ⟨rfl, ?_⟩)
theorem m2_sum {a la o : Nat} {wa : Nat → Nat} (g : Lh h x D) (g1 : h (x + 1) = aI 240 S) (hS : SB S) (Sa : Sn h a la wa) (ho : o < 15) : Ev (d + 2) MX2_sumOfShares 0 (lv_args 0 [.ref x, .ref a, .int (nI o)]) [] n h (.inl (some (.long (lN (sm S 0 o wa la)))), n, h, 0, 0) := by
  have s5 := hS (15 * 15 + o)
  first | refine ev_aload_n dX2_sumOfShares_0 rfl ?_ | refine ev_aload_nN dX2_sumOfShares_0 rfl ?_
  refine ev_bipush dX2_sumOfShares_1 bp15 ?_
  refine ev_iload_n dX2_sumOfShares_3 rfl ?_
  refine ev_V2 dX2_sumOfShares_4 st_RX2_96 na_X2_shareOf (Nat.le_of_ble_eq_true rfl) (Nat.le_of_ble_eq_true rfl) (by repeat (first | assumption | exact up_s | refine (up_n (by omega)).trans ?_)) rfl (m2_shareOf g g1 (Nat.le_refl 15) ho) ?_
  refine ev_i2lN dX2_sumOfShares_7 (by omega) ?_
  refine ev_lstore_n dX2_sumOfShares_8 (Nat.le_of_ble_eq_true rfl) ?_
  refine ev_iconst dX2_sumOfShares_9 ci0 ?_
  refine ev_istore dX2_sumOfShares_10 (Nat.le_of_ble_eq_true rfl) ?_
  refine ev_sub ?_ (lp_sum g g1 hS Sa ho la 0 (by omega))
  repeat (first | exact trivial | refine ⟨rfl, ?_⟩)
theorem m2_add (g : Lh h x D) (hS : SB S) {B : Nat} (hB : B ≤ 2000000000) (hC : ∀ c, C c ≤ B) {wd o s : Nat} (hw : wd ≤ 15) (ho : o < 15) (hs : s < 2 ^ 40) : Ev (d + 2) MX2_addAnswer 0 (lv_args 0 [.ref x, .int (nI wd), .int (nI o), .long (lN s)]) [] n (LX h x S C F R) (.inl none, n, LX h x S (adI S C (15 * wd + o) s) F R, 0, 0) := by
  have s5 := hS (15 * wd + o)
  have s6 := hC (15 * wd + o)
  rcases Nat.eq_zero_or_pos s with q | q
  · subst q
    refine ev_iload_n dX2_addAnswer_0 rfl ?_
    refine ev_iload_n dX2_addAnswer_1 rfl ?_
    refine ev_S2 dX2_addAnswer_2 st_RX2_29 na_X2_cellOf (Nat.le_of_ble_eq_true rfl) (Nat.le_of_ble_eq_true rfl) (m2_cellOf hw ho) ?_
    refine ev_istore dX2_addAnswer_5 (Nat.le_of_ble_eq_true rfl) ?_
    refine ev_lload_n dX2_addAnswer_7 rfl ?_
    refine ev_lconst dX2_addAnswer_8 lc0 ?_
    refine ev_lcmpN dX2_addAnswer_9 (by omega) (by omega) ?_
    refine ev_if_leT (tgt := 51) dX2_addAnswer_10 (by decide) (by first | assumption | exact cmp_le (by omega)) ?_
    exact ev_vreturnE dX2_addAnswer_51 rfl (by rfl)
  · have e : adI S C (15 * wd + o) s = va_up C (15 * wd + o) (C (15 * wd + o) + S (15 * wd + o) * 1000000 / s) := if_pos q
    rw [e]
    refine ev_iload_n dX2_addAnswer_0 rfl ?_
    refine ev_iload_n dX2_addAnswer_1 rfl ?_
    refine ev_S2 dX2_addAnswer_2 st_RX2_29 na_X2_cellOf (Nat.le_of_ble_eq_true rfl) (Nat.le_of_ble_eq_true rfl) (m2_cellOf hw ho) ?_
    refine ev_istore dX2_addAnswer_5 (Nat.le_of_ble_eq_true rfl) ?_
    refine ev_lload_n dX2_addAnswer_7 rfl ?_
    refine ev_lconst dX2_addAnswer_8 lc0 ?_
    refine ev_lcmpN dX2_addAnswer_9 (by omega) (by omega) ?_
    refine ev_if_leF dX2_addAnswer_10 51 (by decide) (by first | assumption | exact cmp_ngt (by omega)) ?_
    refine ev_iload dX2_addAnswer_13 rfl ?_
    refine ev_if_ltF dX2_addAnswer_15 51 (by decide) (by first | assumption | exact nI_pos (by omega) | decide) ?_
    refine ev_iload dX2_addAnswer_18 rfl ?_
    first | refine ev_aload_n dX2_addAnswer_20 rfl ?_ | refine ev_aload_nN dX2_addAnswer_20 rfl ?_
    refine ev_getfield dX2_addAnswer_21 fl_RX2_15 (by repeat (first | assumption | exact up_s | refine (up_n (by omega)).trans ?_)) rfl ?_
    refine ev_alen dX2_addAnswer_24 (by repeat (first | assumption | exact up_s | refine (up_n (by omega)).trans ?_)) (by decide) ?_
    refine ev_icmp_geF dX2_addAnswer_25 51 (by decide) (by first | assumption | exact nI_ge (by omega) (by omega) | decide) ?_
    first | refine ev_aload_n dX2_addAnswer_28 rfl ?_ | refine ev_aload_nN dX2_addAnswer_28 rfl ?_
    refine ev_getfield dX2_addAnswer_29 fl_RX2_15 (by repeat (first | assumption | exact up_s | refine (up_n (by omega)).trans ?_)) rfl ?_
    refine ev_iload dX2_addAnswer_32 rfl ?_
    refine ev_dup2_11 dX2_addAnswer_34 rfl rfl ?_
    refine ev_lald dX2_addAnswer_35 (by repeat (first | assumption | exact up_s | refine (up_n (by omega)).trans ?_)) _ rfl (by omega) (by omega) ?_
    first | refine ev_aload_n dX2_addAnswer_36 rfl ?_ | refine ev_aload_nN dX2_addAnswer_36 rfl ?_
    refine ev_iload_n dX2_addAnswer_37 rfl ?_
    refine ev_iload_n dX2_addAnswer_38 rfl ?_
    refine ev_V2 dX2_addAnswer_39 st_RX2_96 na_X2_shareOf (Nat.le_of_ble_eq_true rfl) (Nat.le_of_ble_eq_true rfl) (by repeat (first | assumption | exact up_s | refine (up_n (by omega)).trans ?_)) rfl (m2_shareOf (LX_h g) LX_1 hw ho) ?_
    refine ev_i2lN dX2_addAnswer_42 (by omega) ?_
    refine ev_ldc2 (v := lN 1000000) dX2_addAnswer_43 (am_in 609 (by decide +kernel) rfl) ?_
    first | refine ev_lmulN dX2_addAnswer_46 ?_ | refine ev_lmul dX2_addAnswer_46 ?_
    refine ev_lload_n dX2_addAnswer_47 rfl ?_
    refine ev_ldivN dX2_addAnswer_48 (by omega) (by omega) (by omega) ?_
    first | refine ev_laddN dX2_addAnswer_49 ?_ | refine ev_ladd dX2_addAnswer_49 ?_
    first | refine ev_last dX2_addAnswer_50 (by omega) (by repeat (first | assumption | exact up_s | refine (up_n (by omega)).trans ?_)) _ _ rfl rfl (by omega) (by omega) ?_ | refine ev_rast dX2_addAnswer_50 (by omega) (by repeat (first | assumption | exact up_s | refine (up_n (by omega)).trans ?_)) _ _ rfl rfl (by omega) (by omega) ?_
    exact ev_vreturnE dX2_addAnswer_51 rfl (by rw [LX_C])
theorem lp_ansI {a b la o j s : Nat} {wa C0 : Nat → Nat} {o9 : Out} (g : Lh h x D) (hS : SB S) {B : Nat} (hB : B + 8000000 ≤ 2000000000) (hC : ∀ c, C0 c ≤ B) (Sa : Sn h a la wa) (ha : x + 4 < a) (ho : o < 15) (hs : s < 2 ^ 40) (hge : ∀ k, k < la → S (15 * wa k + o + 0) ≤ s) (K : Ev (d + 3) MX2_answerAll 68 [(0, .ref x), (1, .ref a), (2, .ref b), (3, .int (nI j))] [] n (LX h x S (anI S 0 o s wa la C0) F R) o9) :
    ∀ k i, i + k = la → Ev (d + 3) MX2_answerAll 39 [(0, .ref x), (1, .ref a), (2, .ref b), (3, .int (nI j)), (4, .int (nI o)), (5, .long (lN s)), (7, .int (nI i))] [] n (LX h x S (anI S 0 o s wa i C0) F R) o9 := by
  have s3 := Sa.2.2.1
  have sa1 := Sa.1
  intro k
  induction k with
  | zero =>
    intro i hi
    have e : i = la := by omega
    subst e
    refine ev_iload dX2_answerAll_39 rfl ?_
    first | refine ev_aload_n dX2_answerAll_41 rfl ?_ | refine ev_aload_nN dX2_answerAll_41 rfl ?_
    refine ev_V0 dX2_answerAll_42 st_RX2_72 na_X6_length (Nat.le_of_ble_eq_true rfl) (Nat.le_of_ble_eq_true rfl) (by repeat (first | assumption | exact up_s | refine (up_n (by omega)).trans ?_)) rfl (m6_length (LX_Sn Sa ha)) ?_
    refine ev_icmp_geT (tgt := 68) dX2_answerAll_45 (by decide) (by first | assumption | exact nI_le (by omega) (by omega) | decide) ?_
    refine ev_sub ?_ (K)
    repeat (first | exact trivial | refine ⟨rfl, ?_⟩)
  | succ k ih =>
    intro i hi
    have s4 := Sa.2.2.2 i (by omega)
    have s5 := anI_le (S := S) (off := 0) (o := o) hge hC i (by omega)
    refine ev_iload dX2_answerAll_39 rfl ?_
    first | refine ev_aload_n dX2_answerAll_41 rfl ?_ | refine ev_aload_nN dX2_answerAll_41 rfl ?_
    refine ev_V0 dX2_answerAll_42 st_RX2_72 na_X6_length (Nat.le_of_ble_eq_true rfl) (Nat.le_of_ble_eq_true rfl) (by repeat (first | assumption | exact up_s | refine (up_n (by omega)).trans ?_)) rfl (m6_length (LX_Sn Sa ha)) ?_
    refine ev_icmp_geF dX2_answerAll_45 68 (by decide) (by first | assumption | exact nI_ge (by omega) (by omega) | decide) ?_
    first | refine ev_aload_n dX2_answerAll_48 rfl ?_ | refine ev_aload_nN dX2_answerAll_48 rfl ?_
    first | refine ev_aload_n dX2_answerAll_49 rfl ?_ | refine ev_aload_nN dX2_answerAll_49 rfl ?_
    refine ev_iload dX2_answerAll_50 rfl ?_
    refine ev_V1 dX2_answerAll_52 st_RX2_77 na_X6_at (Nat.le_of_ble_eq_true rfl) (Nat.le_of_ble_eq_true rfl) (by repeat (first | assumption | exact up_s | refine (up_n (by omega)).trans ?_)) rfl (m6_atT (LX_Sn Sa ha) (show i < la by omega)) ?_
    refine ev_iload dX2_answerAll_55 rfl ?_
    refine ev_lload dX2_answerAll_57 rfl ?_
    refine ev_V3v dX2_answerAll_59 st_RX2_92 na_X2_addAnswer (Nat.le_of_ble_eq_true rfl) (Nat.le_of_ble_eq_true rfl) (by repeat (first | assumption | exact up_s | refine (up_n (by omega)).trans ?_)) rfl (m2_add g hS (B := B + i * 1000000) (by omega) s5 (by omega) ho hs) ?_
    refine ev_iincN (b := 1) dX2_answerAll_62 rfl (Nat.le_of_ble_eq_true rfl) ?_
    refine ev_goto (tgt := 39) dX2_answerAll_65 (by decide) ?_
    refine ev_sub ?_ (ih (i + 1) (by omega))
    repeat (first | exact trivial | refine ⟨rfl, ?_⟩)
theorem lp_ansO {a b la lb : Nat} {wa wb C0 : Nat → Nat} (g : Lh h x D) (hS : SB S) {B : Nat} (hB : B + 72000000 ≤ 2000000000) (hC : ∀ c, C0 c ≤ B) (Sa : Sn h a la wa) (ha : x + 4 < a) (Sb : Sn h b lb wb) (hb : x + 4 < b) :
    ∀ k j, j + k = lb → Ev (d + 3) MX2_answerAll 2 [(0, .ref x), (1, .ref a), (2, .ref b), (3, .int (nI j))] [] n (LX h x S (anO S 0 wa la wb j C0) F R) (.inl none, n, LX h x S (anO S 0 wa la wb lb C0) F R, 0, 0) := by
  have s3 := Sb.2.2.1
  have sb1 := Sb.1
  have s2 := Sa.2.2.1
  intro k
  induction k with
  | zero =>
    intro j hj
    have e : j = lb := by omega
    subst e
    refine ev_iload_n dX2_answerAll_2 rfl ?_
    first | refine ev_aload_n dX2_answerAll_3 rfl ?_ | refine ev_aload_nN dX2_answerAll_3 rfl ?_
    refine ev_V0 dX2_answerAll_4 st_RX2_72 na_X6_length (Nat.le_of_ble_eq_true rfl) (Nat.le_of_ble_eq_true rfl) (by repeat (first | assumption | exact up_s | refine (up_n (by omega)).trans ?_)) rfl (m6_length (LX_Sn Sb hb)) ?_
    refine ev_icmp_geT (tgt := 74) dX2_answerAll_7 (by decide) (by first | assumption | exact nI_le (by omega) (by omega) | decide) ?_
    exact ev_vreturnE dX2_answerAll_74 rfl (by rfl)
  | succ k ih =>
    intro j hj
    have s4 := Sb.2.2.2 j (by omega)
    have s5 := anO_le (S := S) (off := 0) (wa := wa) (wb := wb) s2 hC j
    have s6 := sm_le hS 0 (wb j) wa la
    have s7 : sm S 0 (wb j) wa la < 2 ^ 40 := by
      have : (la + 1) * 1000000 ≤ 9000000 := by omega
      omega
    have s8 := adI_le (C := anO S 0 wa la wb j C0) (sm_ge0 S 0 (wb j) wa la) s5
    refine ev_iload_n dX2_answerAll_2 rfl ?_
    first | refine ev_aload_n dX2_answerAll_3 rfl ?_ | refine ev_aload_nN dX2_answerAll_3 rfl ?_
    refine ev_V0 dX2_answerAll_4 st_RX2_72 na_X6_length (Nat.le_of_ble_eq_true rfl) (Nat.le_of_ble_eq_true rfl) (by repeat (first | assumption | exact up_s | refine (up_n (by omega)).trans ?_)) rfl (m6_length (LX_Sn Sb hb)) ?_
    refine ev_icmp_geF dX2_answerAll_7 74 (by decide) (by first | assumption | exact nI_ge (by omega) (by omega) | decide) ?_
    first | refine ev_aload_n dX2_answerAll_10 rfl ?_ | refine ev_aload_nN dX2_answerAll_10 rfl ?_
    refine ev_iload_n dX2_answerAll_11 rfl ?_
    refine ev_V1 dX2_answerAll_12 st_RX2_77 na_X6_at (Nat.le_of_ble_eq_true rfl) (Nat.le_of_ble_eq_true rfl) (by repeat (first | assumption | exact up_s | refine (up_n (by omega)).trans ?_)) rfl (m6_atT (LX_Sn Sb hb) (show j < lb by omega)) ?_
    refine ev_istore dX2_answerAll_15 (Nat.le_of_ble_eq_true rfl) ?_
    first | refine ev_aload_n dX2_answerAll_17 rfl ?_ | refine ev_aload_nN dX2_answerAll_17 rfl ?_
    first | refine ev_aload_n dX2_answerAll_18 rfl ?_ | refine ev_aload_nN dX2_answerAll_18 rfl ?_
    refine ev_iload dX2_answerAll_19 rfl ?_
    refine ev_V2 dX2_answerAll_21 st_RX2_88 na_X2_sumOfShares (Nat.le_of_ble_eq_true rfl) (Nat.le_of_ble_eq_true rfl) (by repeat (first | assumption | exact up_s | refine (up_n (by omega)).trans ?_)) rfl (m2_sum (LX_h g) LX_1 hS (LX_Sn Sa ha) s4) ?_
    refine ev_lstore dX2_answerAll_24 (Nat.le_of_ble_eq_true rfl) ?_
    first | refine ev_aload_n dX2_answerAll_26 rfl ?_ | refine ev_aload_nN dX2_answerAll_26 rfl ?_
    refine ev_bipush dX2_answerAll_27 bp15 ?_
    refine ev_iload dX2_answerAll_29 rfl ?_
    refine ev_lload dX2_answerAll_31 rfl ?_
    refine ev_V3v dX2_answerAll_33 st_RX2_92 na_X2_addAnswer (Nat.le_of_ble_eq_true rfl) (Nat.le_of_ble_eq_true rfl) (by repeat (first | assumption | exact up_s | refine (up_n (by omega)).trans ?_)) rfl (m2_add g hS (B := B + j * 9000000) (by omega) s5 (Nat.le_refl 15) s4 s7) ?_
    refine ev_iconst dX2_answerAll_36 ci0 ?_
    refine ev_istore dX2_answerAll_37 (Nat.le_of_ble_eq_true rfl) ?_
    refine ev_sub ?_ (lp_ansI (b := b) (j := j) (C0 := adI S (anO S 0 wa la wb j C0) (15 * 15 + wb j + 0) (sm S 0 (wb j) wa la)) g hS (B := B + j * 9000000 + 1000000) (by omega) s8 Sa ha s4 s7 (sm_ge S 0 (wb j) wa la) ?_ la 0 (by omega))
    · repeat (first | exact trivial | refine ⟨rfl, ?_⟩)
    · refine ev_iincN (b := 1) dX2_answerAll_68 rfl (Nat.le_of_ble_eq_true rfl) ?_
      refine ev_goto (tgt := 2) dX2_answerAll_71 (by decide) ?_
      refine ev_sub ?_ (ih (j + 1) (by omega))
      repeat (first | exact trivial | refine ⟨rfl, ?_⟩)
theorem m2_answerAll {a b la lb : Nat} {wa wb : Nat → Nat} (g : Lh h x D) (hS : SB S) {B : Nat} (hB : B + 72000000 ≤ 2000000000) (hC : ∀ c, C c ≤ B) (Sa : Sn h a la wa) (ha : x + 4 < a) (Sb : Sn h b lb wb) (hb : x + 4 < b) : Ev (d + 3) MX2_answerAll 0 (lv_args 0 [.ref x, .ref a, .ref b]) [] n (LX h x S C F R) (.inl none, n, LX h x S (anO S 0 wa la wb lb C) F R, 0, 0) := by
  refine ev_iconst dX2_answerAll_0 ci0 ?_
  refine ev_istore_n dX2_answerAll_1 (Nat.le_of_ble_eq_true rfl) ?_
  refine ev_sub ?_ (lp_ansO (C0 := C) g hS hB hC Sa ha Sb hb lb 0 (by omega))
  repeat (first | exact trivial | refine ⟨rfl, ?_⟩)
end M2
