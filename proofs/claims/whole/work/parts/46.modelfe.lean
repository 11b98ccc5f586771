/-! the model: fertility, totals -/
section ML
variable {d n : Nat} {h h' : Hp} {made th : Nat} {t : Nat → Nat} {l : Nat → Nat → Nat} {w : Nat → Nat → Nat → Nat} {S : Nat → Nat → Nat} {W : Nat → Nat} {F : Nat → Nat} {J R : Nat → Nat}
theorem lm_fo (g31 : h 31 = MO made F th) (g43 : h 43 = aZ 64 (cut J R)) {j : Nat} (hj : j < 8) : ∀ k x, x + k = 8 → Ev d MX10_fertilityOf 4 [(0, .ref 31), (1, .int (nI j)), (2, .int (nI (sumN (fun b => bI ((J j).testBit b = true)) x))), (3, .int (nI x))] [] n h (.inl (some (.int (nI (pc8 (J j))))), n, h, 0, 0) := by
  intro k
  induction k with
  | zero =>
    intro x hx
    have e : x = 8 := by omega
    subst e
    refine ev_iload_n dX10_fertilityOf_4 rfl ?_
    refine ev_bipush dX10_fertilityOf_5 bp8 ?_
    refine ev_icmp_geT (tgt := 38) dX10_fertilityOf_7 (by decide) (by first | assumption | exact nI_le (by omega) (by omega) | decide) ?_
    refine ev_iload_n dX10_fertilityOf_38 rfl ?_
    exact ev_ireturnE dX10_fertilityOf_39 rfl (by rfl)
  | succ k ih =>
    intro x hx
    have ih := ih (x + 1) (by omega)
    have e1 : sumN (fun b => bI ((J j).testBit b = true)) (x + 1) = sumN (fun b => bI ((J j).testBit b = true)) x + bI ((J j).testBit x = true) := rfl
    rw [e1] at ih
    clear e1
    have ec : cut J R (8 * j + x) = if (J j).testBit x = true then 1 else 0 := (cut_lt (by omega)).trans (jm_at (by omega))
    by_cases z : (J j).testBit x = true
    · rw [bI_t z] at ih
      rw [if_pos z] at ec
      refine ev_iload_n dX10_fertilityOf_4 rfl ?_
      refine ev_bipush dX10_fertilityOf_5 bp8 ?_
      refine ev_icmp_geF dX10_fertilityOf_7 38 (by decide) (by first | assumption | exact nI_ge (by omega) (by omega) | decide) ?_
      refine ev_iload_n dX10_fertilityOf_10 rfl ?_
      first | refine ev_aload_n dX10_fertilityOf_11 rfl ?_ | refine ev_aload_nN dX10_fertilityOf_11 rfl ?_
      refine ev_getfield dX10_fertilityOf_12 fl_RX10_45 (by repeat (first | assumption | exact up_s | refine (up_n (by omega)).trans ?_)) rfl ?_
      refine ev_bipush dX10_fertilityOf_15 bp8 ?_
      refine ev_iload_n dX10_fertilityOf_17 rfl ?_
      first | refine ev_imulN dX10_fertilityOf_18 ?_ | refine ev_imul dX10_fertilityOf_18 ?_
      refine ev_iload_n dX10_fertilityOf_19 rfl ?_
      first | refine ev_iaddN dX10_fertilityOf_20 ?_ | refine ev_iadd dX10_fertilityOf_20 ?_
      refine ev_bald dX10_fertilityOf_21 (by repeat (first | assumption | exact up_s | refine (up_n (by omega)).trans ?_)) _ rfl (by omega) (by omega) ?_
      refine ev_if_eqF dX10_fertilityOf_22 29 (by decide) (by first | assumption | exact nI_ne0 (by omega) (by omega) | decide) ?_
      refine ev_iconst dX10_fertilityOf_25 ci1 ?_
      refine ev_goto (tgt := 30) dX10_fertilityOf_26 (by decide) ?_
      first | refine ev_iaddN dX10_fertilityOf_30 ?_ | refine ev_iadd dX10_fertilityOf_30 ?_
      refine ev_istore_n dX10_fertilityOf_31 (Nat.le_of_ble_eq_true rfl) ?_
      refine ev_iincN (b := 1) dX10_fertilityOf_32 rfl (Nat.le_of_ble_eq_true rfl) ?_
      refine ev_goto (tgt := 4) dX10_fertilityOf_35 (by decide) ?_
      refine ev_sub ?_ (ih)
      repeat (first | exact trivial | refine ⟨rfl, ?_⟩)
    · rw [bI_f z] at ih
      rw [if_neg z] at ec
      refine ev_iload_n dX10_fertilityOf_4 rfl ?_
      refine ev_bipush dX10_fertilityOf_5 bp8 ?_
      refine ev_icmp_geF dX10_fertilityOf_7 38 (by decide) (by first | assumption | exact nI_ge (by omega) (by omega) | decide) ?_
      refine ev_iload_n dX10_fertilityOf_10 rfl ?_
      first | refine ev_aload_n dX10_fertilityOf_11 rfl ?_ | refine ev_aload_nN dX10_fertilityOf_11 rfl ?_
      refine ev_getfield dX10_fertilityOf_12 fl_RX10_45 (by repeat (first | assumption | exact up_s | refine (up_n (by omega)).trans ?_)) rfl ?_
      refine ev_bipush dX10_fertilityOf_15 bp8 ?_
      refine ev_iload_n dX10_fertilityOf_17 rfl ?_
      first | refine ev_imulN dX10_fertilityOf_18 ?_ | refine ev_imul dX10_fertilityOf_18 ?_
      refine ev_iload_n dX10_fertilityOf_19 rfl ?_
      first | refine ev_iaddN dX10_fertilityOf_20 ?_ | refine ev_iadd dX10_fertilityOf_20 ?_
      refine ev_bald dX10_fertilityOf_21 (by repeat (first | assumption | exact up_s | refine (up_n (by omega)).trans ?_)) _ rfl (by omega) (by omega) ?_
      refine ev_if_eqT (tgt := 29) dX10_fertilityOf_22 (by decide) (by first | assumption | exact z_eq (by omega) | decide) ?_
      refine ev_iconst dX10_fertilityOf_29 ci0 ?_
      first | refine ev_iaddN dX10_fertilityOf_30 ?_ | refine ev_iadd dX10_fertilityOf_30 ?_
      refine ev_istore_n dX10_fertilityOf_31 (Nat.le_of_ble_eq_true rfl) ?_
      refine ev_iincN (b := 1) dX10_fertilityOf_32 rfl (Nat.le_of_ble_eq_true rfl) ?_
      refine ev_goto (tgt := 4) dX10_fertilityOf_35 (by decide) ?_
      refine ev_sub ?_ (ih)
      repeat (first | exact trivial | refine ⟨rfl, ?_⟩)
theorem mm_fertilityOf (g31 : h 31 = MO made F th) (g43 : h 43 = aZ 64 (cut J R)) {j : Nat} (hj : j < 8) : Ev d MX10_fertilityOf 0 (lv_args 0 [.ref 31, .int (nI j)]) [] n h (.inl (some (.int (nI (pc8 (J j))))), n, h, 0, 0) := by
  refine ev_iconst dX10_fertilityOf_0 ci0 ?_
  refine ev_istore_n dX10_fertilityOf_1 (Nat.le_of_ble_eq_true rfl) ?_
  refine ev_iconst dX10_fertilityOf_2 ci0 ?_
  refine ev_istore_n dX10_fertilityOf_3 (Nat.le_of_ble_eq_true rfl) ?_
  refine ev_sub ?_ (lm_fo g31 g43 hj 8 0 (by omega))
  repeat (first | exact trivial | refine ⟨rfl, ?_⟩)
theorem lm_feI (q : WF made t l w S W) (g31 : h 31 = MO made F th) (ga : MA h made t l w S W) (g43 : h 43 = aZ 64 (cut J R)) {wd f i y : Nat} (hw : wd < 15) (hf : f ≤ 8) (hi : i < made) {o9 : Out} (K : Ev (d + 3) MX10_fertility 106 [(0, .ref 31), (1, .int (nI wd)), (2, .int (nI f)), (3, .int (nI (y + sumN (plF wd f (w 0 i) J) (l 0 i)))), (4, .int (nI i))] [] n h o9) :
    ∀ k x, x + k = l 0 i → Ev (d + 3) MX10_fertility 57 [(0, .ref 31), (1, .int (nI wd)), (2, .int (nI f)), (3, .int (nI (y + sumN (plF wd f (w 0 i) J) x))), (4, .int (nI i)), (5, .int (nI x))] [] n h o9 := by
  have hm := q.1
  obtain ⟨lo, b3, c3⟩ := ga.2.2.1
  obtain ⟨wo, b4, c4⟩ := ga.2.2.2.1
  have h0 := q.2.2.1 0 i (by omega) (by omega)
  have lo0 := mm_longOf (d := d + 2) (n := n) g31 b3 (show i < 20 by omega) (show 0 < 2 by omega)
  rw [show lo (2 * i + 0) = l 0 i from c3 0 i (by omega) hi] at lo0
  intro k
  induction k with
  | zero =>
    intro x hx
    have e : x = l 0 i := by omega
    subst e
    refine ev_iload dX10_fertility_57 rfl ?_
    first | refine ev_aload_n dX10_fertility_59 rfl ?_ | refine ev_aload_nN dX10_fertility_59 rfl ?_
    refine ev_iload dX10_fertility_60 rfl ?_
    refine ev_iconst dX10_fertility_62 ci0 ?_
    refine ev_V2 dX10_fertility_63 st_RX10_74 na_X10_longOf (Nat.le_of_ble_eq_true rfl) (Nat.le_of_ble_eq_true rfl) (by repeat (first | assumption | exact up_s | refine (up_n (by omega)).trans ?_)) rfl (lo0) ?_
    refine ev_icmp_geT (tgt := 106) dX10_fertility_66 (by decide) (by first | assumption | exact nI_le (by omega) (by omega) | decide) ?_
    refine ev_sub ?_ (K)
    repeat (first | exact trivial | refine ⟨rfl, ?_⟩)
  | succ k ih =>
    intro x hx
    have ih := ih (x + 1) (by omega)
    clear K
    have w15 := q.2.2.2.1 0 i x (by omega) (by omega) (by omega)
    have cw : wo (16 * i + 8 * 0 + x) = w 0 i x := c4 0 i x (by omega) hi (by omega)
    have wa := mm_wordAt (d := d + 2) (n := n) g31 b4 (show i < 20 by omega) (show 0 < 2 by omega) (show x < 8 by omega)
    rw [cw] at wa
    have fe := mm_fertilityOf (d := d + 2) (n := n) g31 g43 (show x < 8 by omega)
    have hp8 := pc8_le (J x)
    have e1 : y + sumN (plF wd f (w 0 i) J) (x + 1) = y + sumN (plF wd f (w 0 i) J) x + plF wd f (w 0 i) J x := (Nat.add_assoc _ _ _).symm
    rw [e1] at ih
    by_cases z : w 0 i x = wd
    · by_cases z2 : pc8 (J x) = f
      · rw [show plF wd f (w 0 i) J x = 1 from if_pos ⟨z, z2⟩] at ih
        refine ev_iload dX10_fertility_57 rfl ?_
        first | refine ev_aload_n dX10_fertility_59 rfl ?_ | refine ev_aload_nN dX10_fertility_59 rfl ?_
        refine ev_iload dX10_fertility_60 rfl ?_
        refine ev_iconst dX10_fertility_62 ci0 ?_
        refine ev_V2 dX10_fertility_63 st_RX10_74 na_X10_longOf (Nat.le_of_ble_eq_true rfl) (Nat.le_of_ble_eq_true rfl) (by repeat (first | assumption | exact up_s | refine (up_n (by omega)).trans ?_)) rfl (lo0) ?_
        refine ev_icmp_geF dX10_fertility_66 106 (by decide) (by first | assumption | exact nI_ge (by omega) (by omega) | decide) ?_
        refine ev_iload_n dX10_fertility_69 rfl ?_
        first | refine ev_aload_n dX10_fertility_70 rfl ?_ | refine ev_aload_nN dX10_fertility_70 rfl ?_
        refine ev_iload dX10_fertility_71 rfl ?_
        refine ev_iconst dX10_fertility_73 ci0 ?_
        refine ev_iload dX10_fertility_74 rfl ?_
        refine ev_V3 dX10_fertility_76 st_RX10_77 na_X10_wordAt (Nat.le_of_ble_eq_true rfl) (Nat.le_of_ble_eq_true rfl) (by repeat (first | assumption | exact up_s | refine (up_n (by omega)).trans ?_)) rfl (wa) ?_
        refine ev_iload_n dX10_fertility_79 rfl ?_
        refine ev_icmp_neF dX10_fertility_80 97 (by decide) (by first | assumption | exact n_eq (by omega) | decide) ?_
        first | refine ev_aload_n dX10_fertility_83 rfl ?_ | refine ev_aload_nN dX10_fertility_83 rfl ?_
        refine ev_iload dX10_fertility_84 rfl ?_
        refine ev_V1 dX10_fertility_86 st_RX10_144 na_X10_fertilityOf (Nat.le_of_ble_eq_true rfl) (Nat.le_of_ble_eq_true rfl) (by repeat (first | assumption | exact up_s | refine (up_n (by omega)).trans ?_)) rfl (fe) ?_
        refine ev_iload_n dX10_fertility_89 rfl ?_
        refine ev_icmp_neF dX10_fertility_90 97 (by decide) (by first | assumption | exact n_eq (by omega) | decide) ?_
        refine ev_iconst dX10_fertility_93 ci1 ?_
        refine ev_goto (tgt := 98) dX10_fertility_94 (by decide) ?_
        first | refine ev_iaddN dX10_fertility_98 ?_ | refine ev_iadd dX10_fertility_98 ?_
        refine ev_istore_n dX10_fertility_99 (Nat.le_of_ble_eq_true rfl) ?_
        refine ev_iincN (b := 1) dX10_fertility_100 rfl (Nat.le_of_ble_eq_true rfl) ?_
        refine ev_goto (tgt := 57) dX10_fertility_103 (by decide) ?_
        refine ev_sub ?_ (ih)
        repeat (first | exact trivial | refine ⟨rfl, ?_⟩)
      · rw [show plF wd f (w 0 i) J x = 0 from if_neg (fun c => z2 c.2)] at ih
        refine ev_iload dX10_fertility_57 rfl ?_
        first | refine ev_aload_n dX10_fertility_59 rfl ?_ | refine ev_aload_nN dX10_fertility_59 rfl ?_
        refine ev_iload dX10_fertility_60 rfl ?_
        refine ev_iconst dX10_fertility_62 ci0 ?_
        refine ev_V2 dX10_fertility_63 st_RX10_74 na_X10_longOf (Nat.le_of_ble_eq_true rfl) (Nat.le_of_ble_eq_true rfl) (by repeat (first | assumption | exact up_s | refine (up_n (by omega)).trans ?_)) rfl (lo0) ?_
        refine ev_icmp_geF dX10_fertility_66 106 (by decide) (by first | assumption | exact nI_ge (by omega) (by omega) | decide) ?_
        refine ev_iload_n dX10_fertility_69 rfl ?_
        first | refine ev_aload_n dX10_fertility_70 rfl ?_ | refine ev_aload_nN dX10_fertility_70 rfl ?_
        refine ev_iload dX10_fertility_71 rfl ?_
        refine ev_iconst dX10_fertility_73 ci0 ?_
        refine ev_iload dX10_fertility_74 rfl ?_
        refine ev_V3 dX10_fertility_76 st_RX10_77 na_X10_wordAt (Nat.le_of_ble_eq_true rfl) (Nat.le_of_ble_eq_true rfl) (by repeat (first | assumption | exact up_s | refine (up_n (by omega)).trans ?_)) rfl (wa) ?_
        refine ev_iload_n dX10_fertility_79 rfl ?_
        refine ev_icmp_neF dX10_fertility_80 97 (by decide) (by first | assumption | exact n_eq (by omega) | decide) ?_
        first | refine ev_aload_n dX10_fertility_83 rfl ?_ | refine ev_aload_nN dX10_fertility_83 rfl ?_
        refine ev_iload dX10_fertility_84 rfl ?_
        refine ev_V1 dX10_fertility_86 st_RX10_144 na_X10_fertilityOf (Nat.le_of_ble_eq_true rfl) (Nat.le_of_ble_eq_true rfl) (by repeat (first | assumption | exact up_s | refine (up_n (by omega)).trans ?_)) rfl (fe) ?_
        refine ev_iload_n dX10_fertility_89 rfl ?_
        refine ev_icmp_neT (tgt := 97) dX10_fertility_90 (by decide) (by first | assumption | exact n_ne (by omega) (by omega) (by omega) | decide) ?_
        refine ev_iconst dX10_fertility_97 ci0 ?_
        first | refine ev_iaddN dX10_fertility_98 ?_ | refine ev_iadd dX10_fertility_98 ?_
        refine ev_istore_n dX10_fertility_99 (Nat.le_of_ble_eq_true rfl) ?_
        refine ev_iincN (b := 1) dX10_fertility_100 rfl (Nat.le_of_ble_eq_true rfl) ?_
        refine ev_goto (tgt := 57) dX10_fertility_103 (by decide) ?_
        refine ev_sub ?_ (ih)
        repeat (first | exact trivial | refine ⟨rfl, ?_⟩)
    · rw [show plF wd f (w 0 i) J x = 0 from if_neg (fun c => z c.1)] at ih
      refine ev_iload dX10_fertility_57 rfl ?_
      first | refine ev_aload_n dX10_fertility_59 rfl ?_ | refine ev_aload_nN dX10_fertility_59 rfl ?_
      refine ev_iload dX10_fertility_60 rfl ?_
      refine ev_iconst dX10_fertility_62 ci0 ?_
      refine ev_V2 dX10_fertility_63 st_RX10_74 na_X10_longOf (Nat.le_of_ble_eq_true rfl) (Nat.le_of_ble_eq_true rfl) (by repeat (first | assumption | exact up_s | refine (up_n (by omega)).trans ?_)) rfl (lo0) ?_
      refine ev_icmp_geF dX10_fertility_66 106 (by decide) (by first | assumption | exact nI_ge (by omega) (by omega) | decide) ?_
      refine ev_iload_n dX10_fertility_69 rfl ?_
      first | refine ev_aload_n dX10_fertility_70 rfl ?_ | refine ev_aload_nN dX10_fertility_70 rfl ?_
      refine ev_iload dX10_fertility_71 rfl ?_
      refine ev_iconst dX10_fertility_73 ci0 ?_
      refine ev_iload dX10_fertility_74 rfl ?_
      refine ev_V3 dX10_fertility_76 st_RX10_77 na_X10_wordAt (Nat.le_of_ble_eq_true rfl) (Nat.le_of_ble_eq_true rfl) (by repeat (first | assumption | exact up_s | refine (up_n (by omega)).trans ?_)) rfl (wa) ?_
      refine ev_iload_n dX10_fertility_79 rfl ?_
      refine ev_icmp_neT (tgt := 97) dX10_fertility_80 (by decide) (by first | assumption | exact n_ne (by omega) (by omega) (by omega) | decide) ?_
      refine ev_iconst dX10_fertility_97 ci0 ?_
      first | refine ev_iaddN dX10_fertility_98 ?_ | refine ev_iadd dX10_fertility_98 ?_
      refine ev_istore_n dX10_fertility_99 (Nat.le_of_ble_eq_true rfl) ?_
      refine ev_iincN (b := 1) dX10_fertility_100 rfl (Nat.le_of_ble_eq_true rfl) ?_
      refine ev_goto (tgt := 57) dX10_fertility_103 (by decide) ?_
      refine ev_sub ?_ (ih)
      repeat (first | exact trivial | refine ⟨rfl, ?_⟩)
theorem lm_fe (q : WF made t l w S W) {wd f : Nat} (hw : wd < 15) (hf : f ≤ 8) : ∀ k i (h : Hp), i + k = made → h 31 = MO made F 0 → MA h made t l w S W → ∃ h', Ev (d + 3) MX10_fertility 29 [(0, .ref 31), (1, .int (nI wd)), (2, .int (nI f)), (3, .int (nI (sumN (feF S W t l w wd f) i))), (4, .int (nI i))] [] n h (.inl (some (.int (nI (sumN (feF S W t l w wd f) made)))), n, h', 0, 0) ∧ h' 31 = MO made F 0 ∧ MA h' made t l w S W ∧ Fm h h' := by
  have hm := q.1
  intro k
  induction k with
  | zero =>
    intro i h hi g31 ga
    have e : i = made := by omega
    subst e
    refine ⟨h, ?_, g31, ga, Fm_rfl⟩
    refine ev_iload dX10_fertility_29 rfl ?_
    first | refine ev_aload_n dX10_fertility_31 rfl ?_ | refine ev_aload_nN dX10_fertility_31 rfl ?_
    refine ev_getfield dX10_fertility_32 fl_RX10_52 (by repeat (first | assumption | exact up_s | refine (up_n (by omega)).trans ?_)) rfl ?_
    refine ev_icmp_geT (tgt := 112) dX10_fertility_35 (by decide) (by first | assumption | exact nI_le (by omega) (by omega) | decide) ?_
    refine ev_iload_n dX10_fertility_112 rfl ?_
    exact ev_ireturnE dX10_fertility_113 rfl (by rfl)
  | succ k ih =>
    intro i h hi g31 ga
    obtain ⟨go, b5, c5⟩ := ga.2.2.2.2.1
    have e1 : sumN (feF S W t l w wd f) (i + 1) = sumN (feF S W t l w wd f) i + feF S W t l w wd f i := rfl
    have him : i < made := by omega
    rcases q.2.1 i with ht | ht
    · obtain ⟨h', ev, r1, r2, r3⟩ := ih (i + 1) h (by omega) g31 ga
      rw [e1, show feF S W t l w wd f i = 0 from if_neg (by omega)] at ev
      have eg : go i = 1 := (c5 i (by omega)).trans (if_pos ⟨him, ht⟩)
      refine ⟨h', ?_, r1, r2, r3⟩
      refine ev_iload dX10_fertility_29 rfl ?_
      first | refine ev_aload_n dX10_fertility_31 rfl ?_ | refine ev_aload_nN dX10_fertility_31 rfl ?_
      refine ev_getfield dX10_fertility_32 fl_RX10_52 (by repeat (first | assumption | exact up_s | refine (up_n (by omega)).trans ?_)) rfl ?_
      refine ev_icmp_geF dX10_fertility_35 112 (by decide) (by first | assumption | exact nI_ge (by omega) (by omega) | decide) ?_
      first | refine ev_aload_n dX10_fertility_38 rfl ?_ | refine ev_aload_nN dX10_fertility_38 rfl ?_
      refine ev_getfield dX10_fertility_39 fl_RX10_22 (by repeat (first | assumption | exact up_s | refine (up_n (by omega)).trans ?_)) rfl ?_
      refine ev_iload dX10_fertility_42 rfl ?_
      refine ev_bald dX10_fertility_44 (by repeat (first | assumption | exact up_s | refine (up_n (by omega)).trans ?_)) _ rfl (by omega) (by omega) ?_
      refine ev_if_neT (tgt := 106) dX10_fertility_45 (by decide) (by first | assumption | exact nI_ne0 (by omega) (by omega) | decide) ?_
      refine ev_iincN (b := 1) dX10_fertility_106 rfl (Nat.le_of_ble_eq_true rfl) ?_
      refine ev_goto (tgt := 29) dX10_fertility_109 (by decide) ?_
      refine ev_sub ?_ (ev)
      repeat (first | exact trivial | refine ⟨rfl, ?_⟩)
    · obtain ⟨L, R, fi⟩ := mm_finds (d := d) (n := n) q g31 ga him
      obtain ⟨h', ev, r1, r2, r3⟩ := ih (i + 1) (FX h L (JJ S W l w i) R) (by omega) (FX_31 g31) (MA_FX ga)
      rw [e1, show feF S W t l w wd f i = sumN (plF wd f (w 0 i) (JJ S W l w i)) (l 0 i) from if_pos ht] at ev
      have eg : go i = 0 := (c5 i (by omega)).trans (if_neg (by omega))
      refine ⟨h', ?_, r1, r2, Fm_trans Fm_FX r3⟩
      refine ev_iload dX10_fertility_29 rfl ?_
      first | refine ev_aload_n dX10_fertility_31 rfl ?_ | refine ev_aload_nN dX10_fertility_31 rfl ?_
      refine ev_getfield dX10_fertility_32 fl_RX10_52 (by repeat (first | assumption | exact up_s | refine (up_n (by omega)).trans ?_)) rfl ?_
      refine ev_icmp_geF dX10_fertility_35 112 (by decide) (by first | assumption | exact nI_ge (by omega) (by omega) | decide) ?_
      first | refine ev_aload_n dX10_fertility_38 rfl ?_ | refine ev_aload_nN dX10_fertility_38 rfl ?_
      refine ev_getfield dX10_fertility_39 fl_RX10_22 (by repeat (first | assumption | exact up_s | refine (up_n (by omega)).trans ?_)) rfl ?_
      refine ev_iload dX10_fertility_42 rfl ?_
      refine ev_bald dX10_fertility_44 (by repeat (first | assumption | exact up_s | refine (up_n (by omega)).trans ?_)) _ rfl (by omega) (by omega) ?_
      refine ev_if_neF dX10_fertility_45 106 (by decide) (by first | assumption | exact z_eq (by omega) | decide) ?_
      first | refine ev_aload_n dX10_fertility_48 rfl ?_ | refine ev_aload_nN dX10_fertility_48 rfl ?_
      refine ev_iload dX10_fertility_49 rfl ?_
      refine ev_V1v dX10_fertility_51 st_RX10_119 na_X10_finds (Nat.le_of_ble_eq_true rfl) (Nat.le_of_ble_eq_true rfl) (by repeat (first | assumption | exact up_s | refine (up_n (by omega)).trans ?_)) rfl (fi) ?_
      refine ev_iconst dX10_fertility_54 ci0 ?_
      refine ev_istore dX10_fertility_55 (Nat.le_of_ble_eq_true rfl) ?_
      refine ev_sub ?_ (lm_feI (F := F) (th := 0) (R := R) (y := sumN (feF S W t l w wd f) i) q (FX_31 g31) (MA_FX ga) FX_43 hw hf him ?_ (l 0 i) 0 (by omega))
      · repeat (first | exact trivial | refine ⟨rfl, ?_⟩)
      · refine ev_iincN (b := 1) dX10_fertility_106 rfl (Nat.le_of_ble_eq_true rfl) ?_
        refine ev_goto (tgt := 29) dX10_fertility_109 (by decide) ?_
        refine ev_sub ?_ (ev)
        repeat (first | exact trivial | refine ⟨rfl, ?_⟩)
theorem mm_fertilityT (q : WF made t l w S W) (g : MS h th made t l w S W) {wd f : Nat} (hw : wd < 15) (hf : f < 9) : ∃ h', Ev (d + 3) MX10_fertility 0 (lv_args 0 [.ref 31, .int (nI wd), .int (nI f)]) [] n h (.inl (some (.int (nI (sumN (feF S W t l w wd f) made)))), n, h', 0, 0) ∧ MS h' 0 made t l w S W ∧ Fm h h' := by
  obtain ⟨⟨F, g31⟩, ga⟩ := g
  obtain ⟨h', ev, r1, r2, r3⟩ := lm_fe (d := d) (n := n) (F := F) q hw (show f ≤ 8 by omega) made 0 (va_up h 31 (MO made F 0)) (by omega) up_s (MA_31 ga)
  refine ⟨h', ?_, ⟨⟨F, r1⟩, r2⟩, Fm_trans (Fm_up Fm_rfl (by omega)) r3⟩
  first | refine ev_aload_n dX10_fertility_0 rfl ?_ | refine ev_aload_nN dX10_fertility_0 rfl ?_
  refine ev_iload_n dX10_fertility_1 rfl ?_
  refine ev_iconst dX10_fertility_2 ci0 ?_
  refine ev_bipush dX10_fertility_3 bp14 ?_
  refine ev_S3 dX10_fertility_5 st_RX10_55 na_X10_in (Nat.le_of_ble_eq_true rfl) (Nat.le_of_ble_eq_true rfl) (mm_inT (by omega) (show wd ≤ 14 by omega) (by omega)) ?_
  refine ev_iload_n dX10_fertility_8 rfl ?_
  refine ev_iconst dX10_fertility_9 ci0 ?_
  refine ev_bipush dX10_fertility_10 bp8 ?_
  refine ev_S3 dX10_fertility_12 st_RX10_55 na_X10_in (Nat.le_of_ble_eq_true rfl) (Nat.le_of_ble_eq_true rfl) (mm_inT (by omega) (show f ≤ 8 by omega) (by omega)) ?_
  refine ev_iconst dX10_fertility_15 ci1 ?_
  refine ev_V3 dX10_fertility_16 st_RX10_59 na_X10_goes (Nat.le_of_ble_eq_true rfl) (Nat.le_of_ble_eq_true rfl) (by repeat (first | assumption | exact up_s | refine (up_n (by omega)).trans ?_)) rfl (mm_goesT g31) ?_
  refine ev_if_neT (tgt := 24) dX10_fertility_19 (by decide) (by first | assumption | exact nI_ne0 (by omega) (by omega) | decide) ?_
  refine ev_iconst dX10_fertility_24 ci0 ?_
  refine ev_istore_n dX10_fertility_25 (Nat.le_of_ble_eq_true rfl) ?_
  refine ev_iconst dX10_fertility_26 ci0 ?_
  refine ev_istore dX10_fertility_27 (Nat.le_of_ble_eq_true rfl) ?_
  refine ev_sub ?_ (ev)
  repeat (first | exact trivial | refine ⟨rfl, ?_⟩)
theorem mm_fertility1 (g : MS h th made t l w S W) {x y : Int32} (hx : ¬ inN x 15) : ∃ h' v, Ev (d + 3) MX10_fertility 0 (lv_args 0 [.ref 31, .int x, .int y]) [] n h (.inl (some (.int v)), n, h', 0, 0) ∧ MS h' 1 made t l w S W ∧ Fm h h' := by
  obtain ⟨⟨F, g31⟩, ga⟩ := g
  refine ⟨va_up h 31 (MO made F 1), nI 0, ?_, ⟨⟨F, up_s⟩, MA_31 ga⟩, Fm_up Fm_rfl (by omega)⟩
  by_cases q : inN y 9
  · obtain ⟨v, hv, rfl⟩ := q
    first | refine ev_aload_n dX10_fertility_0 rfl ?_ | refine ev_aload_nN dX10_fertility_0 rfl ?_
    refine ev_iload_n dX10_fertility_1 rfl ?_
    refine ev_iconst dX10_fertility_2 ci0 ?_
    refine ev_bipush dX10_fertility_3 bp14 ?_
    refine ev_S3 dX10_fertility_5 st_RX10_55 na_X10_in (Nat.le_of_ble_eq_true rfl) (Nat.le_of_ble_eq_true rfl) (mm_inF (N := 15) (by omega) (by omega) hx) ?_
    refine ev_iload_n dX10_fertility_8 rfl ?_
    refine ev_iconst dX10_fertility_9 ci0 ?_
    refine ev_bipush dX10_fertility_10 bp8 ?_
    refine ev_S3 dX10_fertility_12 st_RX10_55 na_X10_in (Nat.le_of_ble_eq_true rfl) (Nat.le_of_ble_eq_true rfl) (mm_inT (by omega) (show v ≤ 8 by omega) (by omega)) ?_
    refine ev_iconst dX10_fertility_15 ci1 ?_
    refine ev_V3 dX10_fertility_16 st_RX10_59 na_X10_goes (Nat.le_of_ble_eq_true rfl) (Nat.le_of_ble_eq_true rfl) (by repeat (first | assumption | exact up_s | refine (up_n (by omega)).trans ?_)) rfl (mm_goes1 g31) ?_
    refine ev_if_neF dX10_fertility_19 24 (by decide) (by first | assumption | exact z_eq (by omega) | decide) ?_
    refine ev_iconst dX10_fertility_22 ci0 ?_
    exact ev_ireturnE dX10_fertility_23 rfl (by rfl)
  · first | refine ev_aload_n dX10_fertility_0 rfl ?_ | refine ev_aload_nN dX10_fertility_0 rfl ?_
    refine ev_iload_n dX10_fertility_1 rfl ?_
    refine ev_iconst dX10_fertility_2 ci0 ?_
    refine ev_bipush dX10_fertility_3 bp14 ?_
    refine ev_S3 dX10_fertility_5 st_RX10_55 na_X10_in (Nat.le_of_ble_eq_true rfl) (Nat.le_of_ble_eq_true rfl) (mm_inF (N := 15) (by omega) (by omega) hx) ?_
    refine ev_iload_n dX10_fertility_8 rfl ?_
    refine ev_iconst dX10_fertility_9 ci0 ?_
    refine ev_bipush dX10_fertility_10 bp8 ?_
    refine ev_S3 dX10_fertility_12 st_RX10_55 na_X10_in (Nat.le_of_ble_eq_true rfl) (Nat.le_of_ble_eq_true rfl) (mm_inF (N := 9) (by omega) (by omega) q) ?_
    refine ev_iconst dX10_fertility_15 ci1 ?_
    refine ev_V3 dX10_fertility_16 st_RX10_59 na_X10_goes (Nat.le_of_ble_eq_true rfl) (Nat.le_of_ble_eq_true rfl) (by repeat (first | assumption | exact up_s | refine (up_n (by omega)).trans ?_)) rfl (mm_goes1 g31) ?_
    refine ev_if_neF dX10_fertility_19 24 (by decide) (by first | assumption | exact z_eq (by omega) | decide) ?_
    refine ev_iconst dX10_fertility_22 ci0 ?_
    exact ev_ireturnE dX10_fertility_23 rfl (by rfl)
theorem mm_fertility2 (g : MS h th made t l w S W) {wd : Nat} {y : Int32} (hw : wd < 15) (hy : ¬ inN y 9) : ∃ h' v, Ev (d + 3) MX10_fertility 0 (lv_args 0 [.ref 31, .int (nI wd), .int y]) [] n h (.inl (some (.int v)), n, h', 0, 0) ∧ MS h' 2 made t l w S W ∧ Fm h h' := by
  obtain ⟨⟨F, g31⟩, ga⟩ := g
  refine ⟨va_up h 31 (MO made F 2), nI 0, ?_, ⟨⟨F, up_s⟩, MA_31 ga⟩, Fm_up Fm_rfl (by omega)⟩
  first | refine ev_aload_n dX10_fertility_0 rfl ?_ | refine ev_aload_nN dX10_fertility_0 rfl ?_
  refine ev_iload_n dX10_fertility_1 rfl ?_
  refine ev_iconst dX10_fertility_2 ci0 ?_
  refine ev_bipush dX10_fertility_3 bp14 ?_
  refine ev_S3 dX10_fertility_5 st_RX10_55 na_X10_in (Nat.le_of_ble_eq_true rfl) (Nat.le_of_ble_eq_true rfl) (mm_inT (by omega) (show wd ≤ 14 by omega) (by omega)) ?_
  refine ev_iload_n dX10_fertility_8 rfl ?_
  refine ev_iconst dX10_fertility_9 ci0 ?_
  refine ev_bipush dX10_fertility_10 bp8 ?_
  refine ev_S3 dX10_fertility_12 st_RX10_55 na_X10_in (Nat.le_of_ble_eq_true rfl) (Nat.le_of_ble_eq_true rfl) (mm_inF (N := 9) (by omega) (by omega) hy) ?_
  refine ev_iconst dX10_fertility_15 ci1 ?_
  refine ev_V3 dX10_fertility_16 st_RX10_59 na_X10_goes (Nat.le_of_ble_eq_true rfl) (Nat.le_of_ble_eq_true rfl) (by repeat (first | assumption | exact up_s | refine (up_n (by omega)).trans ?_)) rfl (mm_goes2 g31) ?_
  refine ev_if_neF dX10_fertility_19 24 (by decide) (by first | assumption | exact z_eq (by omega) | decide) ?_
  refine ev_iconst dX10_fertility_22 ci0 ?_
  exact ev_ireturnE dX10_fertility_23 rfl (by rfl)
end ML
