/-! aligning: the links of both directions, and the whole -/
theorem bp64 : (Int8.ofInt 64).toInt32 = nI 64 := by decide +kernel
theorem bp36 : (Int8.ofInt 36).toInt32 = nI 36 := by decide +kernel
abbrev AB (h : Hp) (x : (Nat → Nat) × (Nat → Nat)) : Hp := va_up (va_up h 19 (aI 8 x.1)) 20 (aI 8 x.2)
def tk (x : (Nat → Nat) × (Nat → Nat)) (i m : Nat) : (Nat → Nat) × (Nat → Nat) :=
  if i = 0 then x else (va_up x.1 (i - 1) (x.1 (i - 1) ||| (x.2 (i - 1) &&& bb m)), va_up x.2 (i - 1) (x.2 (i - 1) ||| bb m))
theorem tk_0 {x : (Nat → Nat) × (Nat → Nat)} {m : Nat} : tk x 0 m = x := rfl
theorem tk_s {x : (Nat → Nat) × (Nat → Nat)} {i m : Nat} : tk x (i + 1) m = (va_up x.1 i (x.1 i ||| (x.2 i &&& bb m)), va_up x.2 i (x.2 i ||| bb m)) := if_neg (by omega)
def t1F (f : Nat → Nat) (x : (Nat → Nat) × (Nat → Nat)) : Nat → (Nat → Nat) × (Nat → Nat)
  | 0 => x
  | k + 1 => tk (t1F f x k) (f k) (k + 1)
def t2F (g : Nat → Nat) (x : (Nat → Nat) × (Nat → Nat)) : Nat → (Nat → Nat) × (Nat → Nat)
  | 0 => x
  | k + 1 => tk (t2F g x k) (k + 1) (g k)
theorem ev_top2 {d : Nat} {M : MI} {pc : Nat} {ls : List (Nat × Value)} {st : List Value} {n : Nat} {h : Hp} {o : Out} {u v v2 : Value} (e : v = v2) (k : Ev d M pc ls (u :: v2 :: st) n h o) : Ev d M pc ls (u :: v :: st) n h o := e ▸ k
section M0C
variable {d n : Nat} {h : Hp} {l0 l1 : Nat} {E J : Nat → Nat} {x : (Nat → Nat) × (Nat → Nat)}
theorem AB_Ah (g : Ah h l0 l1) : Ah (AB h x) l0 l1 := (up_n (by omega)).trans ((up_n (by omega)).trans g)
theorem AB_19 : AB h x 19 = aI 8 x.1 := (up_n (by omega)).trans up_s
theorem AB_20 : AB h x 20 = aI 8 x.2 := up_s
theorem AB_u2 {e e' : va_E} : va_up (va_up (AB h x) 19 e) 20 e' = va_up (va_up h 19 e) 20 e' := by
  show va_up (va_up (va_up (va_up h 19 _) 20 _) 19 e) 20 e' = _
  rw [up_c (show (20 : Nat) ≠ 19 by omega), up_u, up_u]
theorem AB_Pr {p t l0 l1 : Nat} {w0 w1 : Nat → Nat} (g : Pr h p t l0 w0 l1 w1) (hp : 26 ≤ p) : Pr (AB h x) p t l0 w0 l1 w1 := Pr_up (Pr_up g (by omega)) (by omega)
theorem AB_Kn {S : Nat → Nat → Nat} {W : Nat → Nat} (g : Kn h S W) : Kn (AB h x) S W := Kn_up (Kn_up g (by omega)) (by omega)
theorem m0_takeLink (g : Ah h l0 l1) {i m : Nat} (hi : i ≤ 8) (hm : m ≤ 8) : Ev (d + 1) MX0_takeLink 0 (lv_args 0 [.ref 18, .int (bo i), .int (bo m)]) [] n (AB h x) (.inl none, n, AB h (tk x i m), 0, 0) := by
  have gg : Ah (AB h x) l0 l1 := AB_Ah g
  have a1 : AB h x 19 = aI 8 x.1 := AB_19
  have a2 : AB h x 20 = aI 8 x.2 := AB_20
  cases i with
  | zero =>
    rw [bo_0, tk_0]
    refine ev_iload_n dX0_takeLink_0 rfl ?_
    refine ev_if_ltT (tgt := 55) dX0_takeLink_1 (by decide) m1_lt ?_
    exact ev_vreturnE dX0_takeLink_55 rfl (by rfl)
  | succ i =>
    rw [bo_s, tk_s]
    refine ev_iload_n dX0_takeLink_0 rfl ?_
    refine ev_if_ltF dX0_takeLink_1 55 (by decide) (by first | assumption | exact nI_pos (by omega) | decide) ?_
    refine ev_iload_n dX0_takeLink_4 rfl ?_
    first | refine ev_aload_n dX0_takeLink_5 rfl ?_ | refine ev_aload_nN dX0_takeLink_5 rfl ?_
    refine ev_getfield dX0_takeLink_6 fl_RX0_9 (by repeat (first | assumption | exact up_s | refine (up_n (by omega)).trans ?_)) rfl ?_
    refine ev_alen dX0_takeLink_9 (by repeat (first | assumption | exact up_s | refine (up_n (by omega)).trans ?_)) (by decide) ?_
    refine ev_icmp_geF dX0_takeLink_10 55 (by decide) (by first | assumption | exact nI_ge (by omega) (by omega) | decide) ?_
    refine ev_iload_n dX0_takeLink_13 rfl ?_
    first | refine ev_aload_n dX0_takeLink_14 rfl ?_ | refine ev_aload_nN dX0_takeLink_14 rfl ?_
    refine ev_getfield dX0_takeLink_15 fl_RX0_15 (by repeat (first | assumption | exact up_s | refine (up_n (by omega)).trans ?_)) rfl ?_
    refine ev_alen dX0_takeLink_18 (by repeat (first | assumption | exact up_s | refine (up_n (by omega)).trans ?_)) (by decide) ?_
    refine ev_icmp_geF dX0_takeLink_19 55 (by decide) (by first | assumption | exact nI_ge (by omega) (by omega) | decide) ?_
    first | refine ev_aload_n dX0_takeLink_22 rfl ?_ | refine ev_aload_nN dX0_takeLink_22 rfl ?_
    refine ev_getfield dX0_takeLink_23 fl_RX0_9 (by repeat (first | assumption | exact up_s | refine (up_n (by omega)).trans ?_)) rfl ?_
    refine ev_iload_n dX0_takeLink_26 rfl ?_
    refine ev_dup2_11 dX0_takeLink_27 rfl rfl ?_
    refine ev_iald dX0_takeLink_28 (by repeat (first | assumption | exact up_s | refine (up_n (by omega)).trans ?_)) _ rfl (by omega) (by omega) ?_
    first | refine ev_aload_n dX0_takeLink_29 rfl ?_ | refine ev_aload_nN dX0_takeLink_29 rfl ?_
    refine ev_getfield dX0_takeLink_30 fl_RX0_15 (by repeat (first | assumption | exact up_s | refine (up_n (by omega)).trans ?_)) rfl ?_
    refine ev_iload_n dX0_takeLink_33 rfl ?_
    refine ev_iald dX0_takeLink_34 (by repeat (first | assumption | exact up_s | refine (up_n (by omega)).trans ?_)) _ rfl (by omega) (by omega) ?_
    refine ev_iload_n dX0_takeLink_35 rfl ?_
    refine ev_S1 dX0_takeLink_36 st_RX0_41 na_X0_bitOf (Nat.le_of_ble_eq_true rfl) (Nat.le_of_ble_eq_true rfl) (m0_bitOf (show m ≤ 9 by omega)) ?_
    first | refine ev_iandN dX0_takeLink_39 ?_ | refine ev_iand dX0_takeLink_39 ?_
    first | refine ev_iorN dX0_takeLink_40 ?_ | refine ev_ior dX0_takeLink_40 ?_
    refine ev_iast dX0_takeLink_41 (by omega) (by repeat (first | assumption | exact up_s | refine (up_n (by omega)).trans ?_)) _ _ rfl rfl (by omega) (by omega) ?_
    first | refine ev_aload_n dX0_takeLink_42 rfl ?_ | refine ev_aload_nN dX0_takeLink_42 rfl ?_
    refine ev_getfield dX0_takeLink_43 fl_RX0_15 (by repeat (first | assumption | exact up_s | refine (up_n (by omega)).trans ?_)) rfl ?_
    refine ev_iload_n dX0_takeLink_46 rfl ?_
    refine ev_dup2_11 dX0_takeLink_47 rfl rfl ?_
    refine ev_iald dX0_takeLink_48 (by repeat (first | assumption | exact up_s | refine (up_n (by omega)).trans ?_)) _ rfl (by omega) (by omega) ?_
    refine ev_iload_n dX0_takeLink_49 rfl ?_
    refine ev_S1 dX0_takeLink_50 st_RX0_41 na_X0_bitOf (Nat.le_of_ble_eq_true rfl) (Nat.le_of_ble_eq_true rfl) (m0_bitOf (show m ≤ 9 by omega)) ?_
    first | refine ev_iorN dX0_takeLink_53 ?_ | refine ev_ior dX0_takeLink_53 ?_
    refine ev_iast dX0_takeLink_54 (by omega) (by repeat (first | assumption | exact up_s | refine (up_n (by omega)).trans ?_)) _ _ rfl rfl (by omega) (by omega) ?_
    refine ev_heap AB_u2 ?_
    exact ev_vreturnE dX0_takeLink_55 rfl (by rfl)
end M0C
/-- the link of a place -/
def lkF (S : Nat → Nat → Nat) (W : Nat → Nat) (l : Nat → Nat → Nat) (w : Nat → Nat → Nat → Nat) (i9 D : Nat) : Nat → Nat := fun j => lnk (S D) W (w D i9) (l D i9) (w (1 - D) i9 j) j
theorem lkF_le {S : Nat → Nat → Nat} {W : Nat → Nat} {l : Nat → Nat → Nat} {w : Nat → Nat → Nat → Nat} {i9 D j : Nat} : lkF S W l w i9 D j ≤ l D i9 := lnk_le _ _ _ _ _ _
section M0D
variable {d n : Nat} {h : Hp} {S : Nat → Nat → Nat} {W : Nat → Nat} {l : Nat → Nat → Nat} {w : Nat → Nat → Nat → Nat} {i9 p t : Nat} {x : (Nat → Nat) × (Nat → Nat)}
theorem lp_tl1 (g : Ah h (l 0 i9) (l 1 i9)) (G : Kn h S W) (hp : Pr h p t (l 0 i9) (w 0 i9) (l 1 i9) (w 1 i9)) (hpp : 26 ≤ p) {o9 : Out} (K : Ev (d + 3) MX0_takeLinks 44 [(0, .ref 18), (1, .ref p), (2, .ref 5), (3, .int (nI (l 1 i9)))] [] n (AB h (t1F (lkF S W l w i9 0) x (l 1 i9))) o9) :
    ∀ k j, j + k = l 1 i9 → Ev (d + 3) MX0_takeLinks 18 [(0, .ref 18), (1, .ref p), (2, .ref 5), (3, .int (nI j))] [] n (AB h (t1F (lkF S W l w i9 0) x j)) o9 := by
  have hl0 := hp.2.1.2.2.1
  have hl1 := hp.2.2.2.2.1
  intro k
  induction k with
  | zero =>
    intro j hj
    have e : j = l 1 i9 := by omega
    subst e
    have gg : Ah (AB h (t1F (lkF S W l w i9 0) x (l 1 i9))) (l 0 i9) (l 1 i9) := AB_Ah g
    refine ev_iload_n dX0_takeLinks_18 rfl ?_
    first | refine ev_aload_n dX0_takeLinks_19 rfl ?_ | refine ev_aload_nN dX0_takeLinks_19 rfl ?_
    refine ev_getfield dX0_takeLinks_20 fl_RX0_25 (by repeat (first | assumption | exact up_s | refine (up_n (by omega)).trans ?_)) rfl ?_
    refine ev_icmp_geT (tgt := 44) dX0_takeLinks_23 (by decide) (by first | assumption | exact nI_le (by omega) (by omega) | decide) ?_
    refine ev_sub ?_ (K)
    repeat (first | exact trivial | refine ⟨rfl, ?_⟩)
  | succ k ih =>
    intro j hj
    have ih := ih (j + 1) (by omega)
    have gg : Ah (AB h (t1F (lkF S W l w i9 0) x j)) (l 0 i9) (l 1 i9) := AB_Ah g
    have gk := (AB_Kn (x := t1F (lkF S W l w i9 0) x j) G).1
    refine ev_iload_n dX0_takeLinks_18 rfl ?_
    first | refine ev_aload_n dX0_takeLinks_19 rfl ?_ | refine ev_aload_nN dX0_takeLinks_19 rfl ?_
    refine ev_getfield dX0_takeLinks_20 fl_RX0_25 (by repeat (first | assumption | exact up_s | refine (up_n (by omega)).trans ?_)) rfl ?_
    refine ev_icmp_geF dX0_takeLinks_23 44 (by decide) (by first | assumption | exact nI_ge (by omega) (by omega) | decide) ?_
    first | refine ev_aload_n dX0_takeLinks_26 rfl ?_ | refine ev_aload_nN dX0_takeLinks_26 rfl ?_
    first | refine ev_aload_n dX0_takeLinks_27 rfl ?_ | refine ev_aload_nN dX0_takeLinks_27 rfl ?_
    refine ev_iconst dX0_takeLinks_28 ci0 ?_
    first | refine ev_aload_n dX0_takeLinks_29 rfl ?_ | refine ev_aload_nN dX0_takeLinks_29 rfl ?_
    refine ev_iload_n dX0_takeLinks_30 rfl ?_
    refine ev_V3 dX0_takeLinks_31 st_RX0_70 na_X4_answerFor (Nat.le_of_ble_eq_true rfl) (Nat.le_of_ble_eq_true rfl) (by repeat (first | assumption | exact up_s | refine (up_n (by omega)).trans ?_)) rfl (m4_answerFor (D := 0) (AB_Kn G) (by omega) (AB_Pr hp hpp) (show j < l (1 - 0) i9 by show j < l 1 i9; omega)) ?_
    refine ev_iload_n dX0_takeLinks_34 rfl ?_
    refine ev_top (congrArg Value.int (bo_s j).symm) ?_
    refine ev_V2v dX0_takeLinks_35 st_RX0_76 na_X0_takeLink (Nat.le_of_ble_eq_true rfl) (Nat.le_of_ble_eq_true rfl) (by repeat (first | assumption | exact up_s | refine (up_n (by omega)).trans ?_)) rfl (m0_takeLink g (i := lkF S W l w i9 0 j) (Nat.le_trans lkF_le hl0) (by omega)) ?_
    refine ev_iincN (b := 1) dX0_takeLinks_38 rfl (Nat.le_of_ble_eq_true rfl) ?_
    refine ev_goto (tgt := 18) dX0_takeLinks_41 (by decide) ?_
    refine ev_sub ?_ (ih)
    repeat (first | exact trivial | refine ⟨rfl, ?_⟩)
theorem lp_tl2 (g : Ah h (l 0 i9) (l 1 i9)) (G : Kn h S W) (hp : Pr h p t (l 0 i9) (w 0 i9) (l 1 i9) (w 1 i9)) (hpp : 26 ≤ p) :
    ∀ k j, j + k = l 0 i9 → Ev (d + 3) MX0_takeLinks 46 [(0, .ref 18), (1, .ref p), (2, .ref 5), (3, .int (nI j))] [] n (AB h (t2F (lkF S W l w i9 1) x j)) (.inl none, n, AB h (t2F (lkF S W l w i9 1) x (l 0 i9)), 0, 0) := by
  have hl0 := hp.2.1.2.2.1
  have hl1 := hp.2.2.2.2.1
  intro k
  induction k with
  | zero =>
    intro j hj
    have e : j = l 0 i9 := by omega
    subst e
    have gg : Ah (AB h (t2F (lkF S W l w i9 1) x (l 0 i9))) (l 0 i9) (l 1 i9) := AB_Ah g
    refine ev_iload_n dX0_takeLinks_46 rfl ?_
    first | refine ev_aload_n dX0_takeLinks_47 rfl ?_ | refine ev_aload_nN dX0_takeLinks_47 rfl ?_
    refine ev_getfield dX0_takeLinks_48 fl_RX0_21 (by repeat (first | assumption | exact up_s | refine (up_n (by omega)).trans ?_)) rfl ?_
    refine ev_icmp_geT (tgt := 72) dX0_takeLinks_51 (by decide) (by first | assumption | exact nI_le (by omega) (by omega) | decide) ?_
    exact ev_vreturnE dX0_takeLinks_72 rfl (by rfl)
  | succ k ih =>
    intro j hj
    have ih := ih (j + 1) (by omega)
    have gg : Ah (AB h (t2F (lkF S W l w i9 1) x j)) (l 0 i9) (l 1 i9) := AB_Ah g
    have gk := (AB_Kn (x := t2F (lkF S W l w i9 1) x j) G).1
    refine ev_iload_n dX0_takeLinks_46 rfl ?_
    first | refine ev_aload_n dX0_takeLinks_47 rfl ?_ | refine ev_aload_nN dX0_takeLinks_47 rfl ?_
    refine ev_getfield dX0_takeLinks_48 fl_RX0_21 (by repeat (first | assumption | exact up_s | refine (up_n (by omega)).trans ?_)) rfl ?_
    refine ev_icmp_geF dX0_takeLinks_51 72 (by decide) (by first | assumption | exact nI_ge (by omega) (by omega) | decide) ?_
    first | refine ev_aload_n dX0_takeLinks_54 rfl ?_ | refine ev_aload_nN dX0_takeLinks_54 rfl ?_
    refine ev_iload_n dX0_takeLinks_55 rfl ?_
    first | refine ev_aload_n dX0_takeLinks_56 rfl ?_ | refine ev_aload_nN dX0_takeLinks_56 rfl ?_
    refine ev_iconst dX0_takeLinks_57 ci1 ?_
    first | refine ev_aload_n dX0_takeLinks_58 rfl ?_ | refine ev_aload_nN dX0_takeLinks_58 rfl ?_
    refine ev_iload_n dX0_takeLinks_59 rfl ?_
    refine ev_V3 dX0_takeLinks_60 st_RX0_70 na_X4_answerFor (Nat.le_of_ble_eq_true rfl) (Nat.le_of_ble_eq_true rfl) (by repeat (first | assumption | exact up_s | refine (up_n (by omega)).trans ?_)) rfl (m4_answerFor (D := 1) (AB_Kn G) (by omega) (AB_Pr hp hpp) (show j < l (1 - 1) i9 by show j < l 0 i9; omega)) ?_
    refine ev_top2 (congrArg Value.int (bo_s j).symm) ?_
    refine ev_V2v dX0_takeLinks_63 st_RX0_76 na_X0_takeLink (Nat.le_of_ble_eq_true rfl) (Nat.le_of_ble_eq_true rfl) (by repeat (first | assumption | exact up_s | refine (up_n (by omega)).trans ?_)) rfl (m0_takeLink g (m := lkF S W l w i9 1 j) (by omega) (Nat.le_trans lkF_le hl1)) ?_
    refine ev_iincN (b := 1) dX0_takeLinks_66 rfl (Nat.le_of_ble_eq_true rfl) ?_
    refine ev_goto (tgt := 46) dX0_takeLinks_69 (by decide) ?_
    refine ev_sub ?_ (ih)
    repeat (first | exact trivial | refine ⟨rfl, ?_⟩)
/-- what both directions tell of a pair, and what either tells -/
def BE (S : Nat → Nat → Nat) (W : Nat → Nat) (l : Nat → Nat → Nat) (w : Nat → Nat → Nat → Nat) (i9 : Nat) : (Nat → Nat) × (Nat → Nat) := t2F (lkF S W l w i9 1) (t1F (lkF S W l w i9 0) (fun _ => 0, fun _ => 0) (l 1 i9)) (l 0 i9)
theorem m0_takeLinks {B E : Nat → Nat} (g : Ah h (l 0 i9) (l 1 i9)) (g19 : h 19 = aI 8 B) (g20 : h 20 = aI 8 E) (G : Kn h S W) (hp : Pr h p t (l 0 i9) (w 0 i9) (l 1 i9) (w 1 i9)) (hpp : 26 ≤ p) : Ev (d + 3) MX0_takeLinks 0 (lv_args 0 [.ref 18, .ref p, .ref 5]) [] n h (.inl none, n, AB h (BE S W l w i9), 0, 0) := by
  first | refine ev_aload_n dX0_takeLinks_0 rfl ?_ | refine ev_aload_nN dX0_takeLinks_0 rfl ?_
  refine ev_getfield dX0_takeLinks_1 fl_RX0_9 (by repeat (first | assumption | exact up_s | refine (up_n (by omega)).trans ?_)) rfl ?_
  refine ev_iconst dX0_takeLinks_4 ci0 ?_
  refine ev_S2v dX0_takeLinks_5 st_RX0_64 na_J7_fill_53178 (Nat.le_of_ble_eq_true rfl) (Nat.le_of_ble_eq_true rfl) (mJ_fillI (v := 0) (by omega) (by omega) g19) ?_
  first | refine ev_aload_n dX0_takeLinks_8 rfl ?_ | refine ev_aload_nN dX0_takeLinks_8 rfl ?_
  refine ev_getfield dX0_takeLinks_9 fl_RX0_15 (by repeat (first | assumption | exact up_s | refine (up_n (by omega)).trans ?_)) rfl ?_
  refine ev_iconst dX0_takeLinks_12 ci0 ?_
  refine ev_S2v dX0_takeLinks_13 st_RX0_64 na_J7_fill_53178 (Nat.le_of_ble_eq_true rfl) (Nat.le_of_ble_eq_true rfl) (mJ_fillI (v := 0) (by omega) (by omega) ((up_n (by omega)).trans g20)) ?_
  refine ev_iconst dX0_takeLinks_16 ci0 ?_
  refine ev_istore_n dX0_takeLinks_17 (Nat.le_of_ble_eq_true rfl) ?_
  refine ev_sub ?_ (lp_tl1 (x := (fun _ => 0, fun _ => 0)) g G hp hpp ?_ (l 1 i9) 0 (by omega))
  · repeat (first | exact trivial | refine ⟨rfl, ?_⟩)
  · refine ev_iconst dX0_takeLinks_44 ci0 ?_
    refine ev_istore_n dX0_takeLinks_45 (Nat.le_of_ble_eq_true rfl) ?_
    refine ev_sub ?_ (lp_tl2 g G hp hpp (l 0 i9) 0 (by omega))
    repeat (first | exact trivial | refine ⟨rfl, ?_⟩)
end M0D
