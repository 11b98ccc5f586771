/-! the class from outside: fertility and totals -/
/-- places of a word that are joined so often -/
def plF (wd f : Nat) (w0 J : Nat → Nat) : Nat → Nat := fun j => if w0 j = wd ∧ pc8 (J j) = f then 1 else 0
/-- places of a pair, of those that are there -/
def feF (S : Nat → Nat → Nat) (W : Nat → Nat) (t : Nat → Nat) (l : Nat → Nat → Nat) (w : Nat → Nat → Nat → Nat) (wd f : Nat) : Nat → Nat := fun i => if t i = 1 then sumN (plF wd f (w 0 i) (JJ S W l w i)) (l 0 i) else 0
theorem sumN_le1 {f : Nat → Nat} (h : ∀ j, f j ≤ 1) : ∀ k, sumN f k ≤ k
  | 0 => Nat.le_refl _
  | k + 1 => Nat.add_le_add (sumN_le1 h k) (h k)
theorem bI_le (p : Prop) [Decidable p] : bI p ≤ 1 := by unfold bI; split <;> omega
theorem pc8_le (m : Nat) : pc8 m ≤ 8 := sumN_le1 (fun j => bI_le _) 8
section M9E
variable {d n : Nat} {h h' : Hp} {made : Nat} {t : Nat → Nat} {l : Nat → Nat → Nat} {w : Nat → Nat → Nat → Nat} {S : Nat → Nat → Nat} {W : Nat → Nat}
theorem lp_pw {a len l1 x9 : Nat} {y9 : List Value} {w0 J : Nat → Nat} (g2 : h 2 = .inr (9, [.ref 3, .ref 5, .ref 18, .ref 22, .ref 24, .ref x9])) (gA : Ah h len l1) (gj : h 21 = aI 8 J) (hJ : ∀ i, J i < 256) (hs : Sn h a len w0) {wd f : Nat} (hw : wd < 15) (hf : f < 2 ^ 31) :
    ∀ k j, j + k = len → Ev (d + 3) MX9_placesWith 6 [(0, .ref 2), (1, .ref a), (2, .int (nI wd)), (3, .int (nI f)), (4, .int (nI (sumN (plF wd f w0 J) j))), (5, .int (nI j))] [] n h (.inl (some (.int (nI (sumN (plF wd f w0 J) len)))), n, h, 0, 0) := by
  have hl := hs.2.2.1
  have hs1 := hs.1
  intro k
  induction k with
  | zero =>
    intro j hj
    have e : j = len := by omega
    subst e
    refine ev_iload dX9_placesWith_6 rfl ?_
    first | refine ev_aload_n dX9_placesWith_8 rfl ?_ | refine ev_aload_nN dX9_placesWith_8 rfl ?_
    refine ev_V0 dX9_placesWith_9 st_RX9_84 na_X6_length (Nat.le_of_ble_eq_true rfl) (Nat.le_of_ble_eq_true rfl) (by repeat (first | assumption | exact up_s | refine (up_n (by omega)).trans ?_)) rfl (m6_length hs) ?_
    refine ev_icmp_geT (tgt := 47) dX9_placesWith_12 (by decide) (by first | assumption | exact nI_le (by omega) (by omega) | decide) ?_
    refine ev_iload dX9_placesWith_47 rfl ?_
    exact ev_ireturnE dX9_placesWith_49 rfl (by rfl)
  | succ k ih =>
    intro j hj
    have ih := ih (j + 1) (by omega)
    have hwj := hs.2.2.2 j (by omega)
    have e1 : sumN (plF wd f w0 J) (j + 1) = sumN (plF wd f w0 J) j + plF wd f w0 J j := rfl
    have hp8 := pc8_le (J j)
    by_cases q : w0 j = wd
    · by_cases q2 : pc8 (J j) = f
      · rw [e1, show plF wd f w0 J j = 1 from if_pos ⟨q, q2⟩] at ih
        refine ev_iload dX9_placesWith_6 rfl ?_
        first | refine ev_aload_n dX9_placesWith_8 rfl ?_ | refine ev_aload_nN dX9_placesWith_8 rfl ?_
        refine ev_V0 dX9_placesWith_9 st_RX9_84 na_X6_length (Nat.le_of_ble_eq_true rfl) (Nat.le_of_ble_eq_true rfl) (by repeat (first | assumption | exact up_s | refine (up_n (by omega)).trans ?_)) rfl (m6_length hs) ?_
        refine ev_icmp_geF dX9_placesWith_12 47 (by decide) (by first | assumption | exact nI_ge (by omega) (by omega) | decide) ?_
        first | refine ev_aload_n dX9_placesWith_15 rfl ?_ | refine ev_aload_nN dX9_placesWith_15 rfl ?_
        refine ev_iload dX9_placesWith_16 rfl ?_
        refine ev_V1 dX9_placesWith_18 st_RX9_137 na_X6_at (Nat.le_of_ble_eq_true rfl) (Nat.le_of_ble_eq_true rfl) (by repeat (first | assumption | exact up_s | refine (up_n (by omega)).trans ?_)) rfl (m6_atT hs (show j < len by omega)) ?_
        refine ev_iload_n dX9_placesWith_21 rfl ?_
        refine ev_icmp_neF dX9_placesWith_22 41 (by decide) (by first | assumption | exact n_eq (by omega) | decide) ?_
        first | refine ev_aload_n dX9_placesWith_25 rfl ?_ | refine ev_aload_nN dX9_placesWith_25 rfl ?_
        refine ev_getfield dX9_placesWith_26 fl_RX9_26 (by repeat (first | assumption | exact up_s | refine (up_n (by omega)).trans ?_)) rfl ?_
        refine ev_iload dX9_placesWith_29 rfl ?_
        refine ev_V1 dX9_placesWith_31 st_RX9_211 na_X0_joinedOf (Nat.le_of_ble_eq_true rfl) (Nat.le_of_ble_eq_true rfl) (by repeat (first | assumption | exact up_s | refine (up_n (by omega)).trans ?_)) rfl (m0_joinedOf gA gj (show j < 8 by omega) (hJ j)) ?_
        refine ev_iload_n dX9_placesWith_34 rfl ?_
        refine ev_icmp_neF dX9_placesWith_35 41 (by decide) (by first | assumption | exact n_eq (by omega) | decide) ?_
        refine ev_iincN (b := 1) dX9_placesWith_38 rfl (Nat.le_of_ble_eq_true rfl) ?_
        refine ev_iincN (b := 1) dX9_placesWith_41 rfl (Nat.le_of_ble_eq_true rfl) ?_
        refine ev_goto (tgt := 6) dX9_placesWith_44 (by decide) ?_
        refine ev_sub ?_ (ih)
        repeat (first | exact trivial | refine ⟨rfl, ?_⟩)
      · rw [e1, show plF wd f w0 J j = 0 from if_neg (fun c => q2 c.2)] at ih
        refine ev_iload dX9_placesWith_6 rfl ?_
        first | refine ev_aload_n dX9_placesWith_8 rfl ?_ | refine ev_aload_nN dX9_placesWith_8 rfl ?_
        refine ev_V0 dX9_placesWith_9 st_RX9_84 na_X6_length (Nat.le_of_ble_eq_true rfl) (Nat.le_of_ble_eq_true rfl) (by repeat (first | assumption | exact up_s | refine (up_n (by omega)).trans ?_)) rfl (m6_length hs) ?_
        refine ev_icmp_geF dX9_placesWith_12 47 (by decide) (by first | assumption | exact nI_ge (by omega) (by omega) | decide) ?_
        first | refine ev_aload_n dX9_placesWith_15 rfl ?_ | refine ev_aload_nN dX9_placesWith_15 rfl ?_
        refine ev_iload dX9_placesWith_16 rfl ?_
        refine ev_V1 dX9_placesWith_18 st_RX9_137 na_X6_at (Nat.le_of_ble_eq_true rfl) (Nat.le_of_ble_eq_true rfl) (by repeat (first | assumption | exact up_s | refine (up_n (by omega)).trans ?_)) rfl (m6_atT hs (show j < len by omega)) ?_
        refine ev_iload_n dX9_placesWith_21 rfl ?_
        refine ev_icmp_neF dX9_placesWith_22 41 (by decide) (by first | assumption | exact n_eq (by omega) | decide) ?_
        first | refine ev_aload_n dX9_placesWith_25 rfl ?_ | refine ev_aload_nN dX9_placesWith_25 rfl ?_
        refine ev_getfield dX9_placesWith_26 fl_RX9_26 (by repeat (first | assumption | exact up_s | refine (up_n (by omega)).trans ?_)) rfl ?_
        refine ev_iload dX9_placesWith_29 rfl ?_
        refine ev_V1 dX9_placesWith_31 st_RX9_211 na_X0_joinedOf (Nat.le_of_ble_eq_true rfl) (Nat.le_of_ble_eq_true rfl) (by repeat (first | assumption | exact up_s | refine (up_n (by omega)).trans ?_)) rfl (m0_joinedOf gA gj (show j < 8 by omega) (hJ j)) ?_
        refine ev_iload_n dX9_placesWith_34 rfl ?_
        refine ev_icmp_neT (tgt := 41) dX9_placesWith_35 (by decide) (by first | assumption | exact n_ne (by omega) (by omega) (by omega) | decide) ?_
        refine ev_iincN (b := 1) dX9_placesWith_41 rfl (Nat.le_of_ble_eq_true rfl) ?_
        refine ev_goto (tgt := 6) dX9_placesWith_44 (by decide) ?_
        refine ev_sub ?_ (ih)
        repeat (first | exact trivial | refine ⟨rfl, ?_⟩)
    · rw [e1, show plF wd f w0 J j = 0 from if_neg (fun c => q c.1)] at ih
      refine ev_iload dX9_placesWith_6 rfl ?_
      first | refine ev_aload_n dX9_placesWith_8 rfl ?_ | refine ev_aload_nN dX9_placesWith_8 rfl ?_
      refine ev_V0 dX9_placesWith_9 st_RX9_84 na_X6_length (Nat.le_of_ble_eq_true rfl) (Nat.le_of_ble_eq_true rfl) (by repeat (first | assumption | exact up_s | refine (up_n (by omega)).trans ?_)) rfl (m6_length hs) ?_
      refine ev_icmp_geF dX9_placesWith_12 47 (by decide) (by first | assumption | exact nI_ge (by omega) (by omega) | decide) ?_
      first | refine ev_aload_n dX9_placesWith_15 rfl ?_ | refine ev_aload_nN dX9_placesWith_15 rfl ?_
      refine ev_iload dX9_placesWith_16 rfl ?_
      refine ev_V1 dX9_placesWith_18 st_RX9_137 na_X6_at (Nat.le_of_ble_eq_true rfl) (Nat.le_of_ble_eq_true rfl) (by repeat (first | assumption | exact up_s | refine (up_n (by omega)).trans ?_)) rfl (m6_atT hs (show j < len by omega)) ?_
      refine ev_iload_n dX9_placesWith_21 rfl ?_
      refine ev_icmp_neT (tgt := 41) dX9_placesWith_22 (by decide) (by first | assumption | exact n_ne (by omega) (by omega) (by omega) | decide) ?_
      refine ev_iincN (b := 1) dX9_placesWith_41 rfl (Nat.le_of_ble_eq_true rfl) ?_
      refine ev_goto (tgt := 6) dX9_placesWith_44 (by decide) ?_
      refine ev_sub ?_ (ih)
      repeat (first | exact trivial | refine ⟨rfl, ?_⟩)
theorem m9_placesWith {a len l1 x9 : Nat} {w0 J : Nat → Nat} (g2 : h 2 = .inr (9, [.ref 3, .ref 5, .ref 18, .ref 22, .ref 24, .ref x9])) (gA : Ah h len l1) (gj : h 21 = aI 8 J) (hJ : ∀ i, J i < 256) (hs : Sn h a len w0) {wd f : Nat} (hw : wd < 15) (hf : f < 2 ^ 31) :
    Ev (d + 3) MX9_placesWith 0 (lv_args 0 [.ref 2, .ref a, .int (nI wd), .int (nI f)]) [] n h (.inl (some (.int (nI (sumN (plF wd f w0 J) len)))), n, h, 0, 0) := by
  refine ev_iconst dX9_placesWith_0 ci0 ?_
  refine ev_istore dX9_placesWith_1 (Nat.le_of_ble_eq_true rfl) ?_
  refine ev_iconst dX9_placesWith_3 ci0 ?_
  refine ev_istore dX9_placesWith_4 (Nat.le_of_ble_eq_true rfl) ?_
  refine ev_sub ?_ (lp_pw (y9 := []) g2 gA gj hJ hs hw hf len 0 (by omega))
  repeat (first | exact trivial | refine ⟨rfl, ?_⟩)
theorem lp_fe {wd f : Nat} (hw : wd < 15) (hf : f ≤ 8) : ∀ k i (h : Hp), i + k = made → GS h made t l w S W → ∃ h', Ev (d + 6) MX9_fertility 42 [(0, .ref 2), (1, .int (nI wd)), (2, .int (nI f)), (3, .int (nI (sumN (feF S W t l w wd f) i))), (4, .int (nI i))] [] n h (.inl (some (.int (nI (sumN (feF S W t l w wd f) made)))), n, h', 0, 0) ∧ GS h' made t l w S W ∧ Fr h h' := by
  intro k
  induction k with
  | zero =>
    intro i h hi g
    have e : i = made := by omega
    subst e
    have g1 := g.1
    have c1 := g.2.1.1
    have hm := g.2.1.2.2.1
    refine ⟨h, ?_, g, Fr_rfl⟩
    refine ev_iload dX9_fertility_42 rfl ?_
    first | refine ev_aload_n dX9_fertility_44 rfl ?_ | refine ev_aload_nN dX9_fertility_44 rfl ?_
    refine ev_getfield dX9_fertility_45 fl_RX9_12 (by repeat (first | assumption | exact up_s | refine (up_n (by omega)).trans ?_)) rfl ?_
    refine ev_V0 dX9_fertility_48 st_RX9_183 na_X1_made (Nat.le_of_ble_eq_true rfl) (Nat.le_of_ble_eq_true rfl) (by repeat (first | assumption | exact up_s | refine (up_n (by omega)).trans ?_)) rfl (m1_made g.2.1) ?_
    refine ev_icmp_geT (tgt := 104) dX9_fertility_51 (by decide) (by first | assumption | exact nI_le (by omega) (by omega) | decide) ?_
    refine ev_iload_n dX9_fertility_104 rfl ?_
    exact ev_ireturnE dX9_fertility_105 rfl (by rfl)
  | succ k ih =>
    intro i h hi g
    have g1 := g.1
    have c1 := g.2.1.1
    have hm := g.2.1.2.2.1
    have him : i < made := by omega
    have e1 : sumN (feF S W t l w wd f) (i + 1) = sumN (feF S W t l w wd f) i + feF S W t l w wd f i := rfl
    rcases g.2.1.2.2.2.2.1 i with ht | ht
    · obtain ⟨h', ev, g', fr⟩ := ih (i + 1) h (by omega) g
      rw [e1, show feF S W t l w wd f i = 0 from if_neg (by omega)] at ev
      refine ⟨h', ?_, g', fr⟩
      refine ev_iload dX9_fertility_42 rfl ?_
      first | refine ev_aload_n dX9_fertility_44 rfl ?_ | refine ev_aload_nN dX9_fertility_44 rfl ?_
      refine ev_getfield dX9_fertility_45 fl_RX9_12 (by repeat (first | assumption | exact up_s | refine (up_n (by omega)).trans ?_)) rfl ?_
      refine ev_V0 dX9_fertility_48 st_RX9_183 na_X1_made (Nat.le_of_ble_eq_true rfl) (Nat.le_of_ble_eq_true rfl) (by repeat (first | assumption | exact up_s | refine (up_n (by omega)).trans ?_)) rfl (m1_made g.2.1) ?_
      refine ev_icmp_geF dX9_fertility_51 104 (by decide) (by first | assumption | exact nI_ge (by omega) (by omega) | decide) ?_
      first | refine ev_aload_n dX9_fertility_54 rfl ?_ | refine ev_aload_nN dX9_fertility_54 rfl ?_
      refine ev_getfield dX9_fertility_55 fl_RX9_12 (by repeat (first | assumption | exact up_s | refine (up_n (by omega)).trans ?_)) rfl ?_
      refine ev_iload dX9_fertility_58 rfl ?_
      refine ev_V1 dX9_fertility_60 st_RX9_186 na_X1_find (Nat.le_of_ble_eq_true rfl) (Nat.le_of_ble_eq_true rfl) (by repeat (first | assumption | exact up_s | refine (up_n (by omega)).trans ?_)) rfl (m1_findF g.2.1 (Or.inr (Or.inr ⟨i, him, ht, rfl⟩))) ?_
      first | refine ev_astore dX9_fertility_63 (Nat.le_of_ble_eq_true rfl) ?_ | refine ev_astoreN dX9_fertility_63 (Nat.le_of_ble_eq_true rfl) ?_
      first | refine ev_aload dX9_fertility_65 rfl ?_ | refine ev_aloadN dX9_fertility_65 rfl ?_
      refine ev_ifnullN (tgt := 98) dX9_fertility_67 (by decide) ?_
      refine ev_iincN (b := 1) dX9_fertility_98 rfl (Nat.le_of_ble_eq_true rfl) ?_
      refine ev_goto (tgt := 42) dX9_fertility_101 (by decide) ?_
      refine ev_sub ?_ (ev)
      repeat (first | exact trivial | refine ⟨rfl, ?_⟩)
    · have hp := GS_Pr g him
      have h0 := hp.2.1.2.2.1
      have h1 := hp.2.2.2.2.1
      have gg : GS (AXi h S W l w i) made t l w S W := GS_AX g
      have gg1 := gg.1
      have hp' := GS_Pr gg him
      have hp1' := hp'.1
      obtain ⟨a0, a1, B, E, J, x1, x2, x3, x4⟩ := g.2.2.2.2.1
      have gA : Ah (AXi h S W l w i) (l 0 i) (l 1 i) := AX_Ah
      have gJ : AXi h S W l w i 21 = aI 8 (JJ S W l w i) := up_s
      obtain ⟨h', ev, g', fr⟩ := ih (i + 1) (AXi h S W l w i) (by omega) gg
      rw [e1, show feF S W t l w wd f i = sumN (plF wd f (w 0 i) (JJ S W l w i)) (l 0 i) from if_pos ht] at ev
      refine ⟨h', ?_, g', Fr_trans Fr_AX fr⟩
      refine ev_iload dX9_fertility_42 rfl ?_
      first | refine ev_aload_n dX9_fertility_44 rfl ?_ | refine ev_aload_nN dX9_fertility_44 rfl ?_
      refine ev_getfield dX9_fertility_45 fl_RX9_12 (by repeat (first | assumption | exact up_s | refine (up_n (by omega)).trans ?_)) rfl ?_
      refine ev_V0 dX9_fertility_48 st_RX9_183 na_X1_made (Nat.le_of_ble_eq_true rfl) (Nat.le_of_ble_eq_true rfl) (by repeat (first | assumption | exact up_s | refine (up_n (by omega)).trans ?_)) rfl (m1_made g.2.1) ?_
      refine ev_icmp_geF dX9_fertility_51 104 (by decide) (by first | assumption | exact nI_ge (by omega) (by omega) | decide) ?_
      first | refine ev_aload_n dX9_fertility_54 rfl ?_ | refine ev_aload_nN dX9_fertility_54 rfl ?_
      refine ev_getfield dX9_fertility_55 fl_RX9_12 (by repeat (first | assumption | exact up_s | refine (up_n (by omega)).trans ?_)) rfl ?_
      refine ev_iload dX9_fertility_58 rfl ?_
      refine ev_V1 dX9_fertility_60 st_RX9_186 na_X1_find (Nat.le_of_ble_eq_true rfl) (Nat.le_of_ble_eq_true rfl) (by repeat (first | assumption | exact up_s | refine (up_n (by omega)).trans ?_)) rfl (m1_findT g.2.1 him ht) ?_
      first | refine ev_astore dX9_fertility_63 (Nat.le_of_ble_eq_true rfl) ?_ | refine ev_astoreN dX9_fertility_63 (Nat.le_of_ble_eq_true rfl) ?_
      first | refine ev_aload dX9_fertility_65 rfl ?_ | refine ev_aloadN dX9_fertility_65 rfl ?_
      refine ev_ifnull dX9_fertility_67 ?_
      first | refine ev_aload_n dX9_fertility_70 rfl ?_ | refine ev_aload_nN dX9_fertility_70 rfl ?_
      refine ev_getfield dX9_fertility_71 fl_RX9_26 (by repeat (first | assumption | exact up_s | refine (up_n (by omega)).trans ?_)) rfl ?_
      first | refine ev_aload dX9_fertility_74 rfl ?_ | refine ev_aloadN dX9_fertility_74 rfl ?_
      first | refine ev_aload_n dX9_fertility_76 rfl ?_ | refine ev_aload_nN dX9_fertility_76 rfl ?_
      refine ev_getfield dX9_fertility_77 fl_RX9_19 (by repeat (first | assumption | exact up_s | refine (up_n (by omega)).trans ?_)) rfl ?_
      refine ev_V2v dX9_fertility_80 st_RX9_157 na_X0_align (Nat.le_of_ble_eq_true rfl) (Nat.le_of_ble_eq_true rfl) (by repeat (first | assumption | exact up_s | refine (up_n (by omega)).trans ?_)) rfl (g_align g him) ?_
      refine ev_iload_n dX9_fertility_83 rfl ?_
      first | refine ev_aload_n dX9_fertility_84 rfl ?_ | refine ev_aload_nN dX9_fertility_84 rfl ?_
      first | refine ev_aload dX9_fertility_85 rfl ?_ | refine ev_aloadN dX9_fertility_85 rfl ?_
      refine ev_iconst dX9_fertility_87 ci0 ?_
      refine ev_V1 dX9_fertility_88 st_RX9_65 na_X7_ofSide (Nat.le_of_ble_eq_true rfl) (Nat.le_of_ble_eq_true rfl) (by repeat (first | assumption | exact up_s | refine (up_n (by omega)).trans ?_)) rfl (m7_of0 hp') ?_
      refine ev_iload_n dX9_fertility_91 rfl ?_
      refine ev_iload_n dX9_fertility_92 rfl ?_
      refine ev_V3 dX9_fertility_93 st_RX9_189 na_X9_placesWith (Nat.le_of_ble_eq_true rfl) (Nat.le_of_ble_eq_true rfl) (by repeat (first | assumption | exact up_s | refine (up_n (by omega)).trans ?_)) rfl (m9_placesWith gg1 gA gJ (JJ_ok h0 h1).1 hp'.2.1 hw (by omega)) ?_
      first | refine ev_iaddN dX9_fertility_96 ?_ | refine ev_iadd dX9_fertility_96 ?_
      refine ev_istore_n dX9_fertility_97 (Nat.le_of_ble_eq_true rfl) ?_
      refine ev_iincN (b := 1) dX9_fertility_98 rfl (Nat.le_of_ble_eq_true rfl) ?_
      refine ev_goto (tgt := 42) dX9_fertility_101 (by decide) ?_
      refine ev_sub ?_ (ev)
      repeat (first | exact trivial | refine ⟨rfl, ?_⟩)
theorem m9_fertilityT (g : GS h made t l w S W) {wd f : Nat} (hw : wd < 15) (hf : f < 9) : ∃ h', Ev (d + 6) MX9_fertility 0 (lv_args 0 [.ref 2, .int (nI wd), .int (nI f)]) [] n h (.inl (some (.int (nI (sumN (feF S W t l w wd f) made)))), n, h', 0, 0) ∧ GS h' made t l w S W ∧ Fr h h' := by
  obtain ⟨h', ev, g', fr⟩ := lp_fe (d := d) (n := n) (t := t) (l := l) (w := w) (S := S) (W := W) hw (show f ≤ 8 by omega) made 0 h (by omega) g
  refine ⟨h', ?_, g', fr⟩
  refine ev_iload_n dX9_fertility_0 rfl ?_
  refine ev_S1 dX9_fertility_1 st_RX9_55 na_X9_isWord (Nat.le_of_ble_eq_true rfl) (Nat.le_of_ble_eq_true rfl) (m9_isWordT hw) ?_
  refine ev_if_neT (tgt := 17) dX9_fertility_4 (by decide) (by first | assumption | exact nI_ne0 (by omega) (by omega) | decide) ?_
  refine ev_iload_n dX9_fertility_17 rfl ?_
  refine ev_if_ltF dX9_fertility_18 27 (by decide) (by first | assumption | exact nI_pos (by omega) | decide) ?_
  refine ev_iload_n dX9_fertility_21 rfl ?_
  refine ev_bipush dX9_fertility_22 bp8 ?_
  refine ev_icmp_leT (tgt := 37) dX9_fertility_24 (by decide) (by first | assumption | exact nI_le (by omega) (by omega) | decide) ?_
  refine ev_iconst dX9_fertility_37 ci0 ?_
  refine ev_istore_n dX9_fertility_38 (Nat.le_of_ble_eq_true rfl) ?_
  refine ev_iconst dX9_fertility_39 ci0 ?_
  refine ev_istore dX9_fertility_40 (Nat.le_of_ble_eq_true rfl) ?_
  refine ev_sub ?_ (ev)
  repeat (first | exact trivial | refine ⟨rfl, ?_⟩)
theorem m9_fertility1 {x y : Int32} (hx : ¬ inN x 15) : Ev (d + 6) MX9_fertility 0 (lv_args 0 [.ref 2, .int x, .int y]) [] n h (.inr IOE, n, h, 1, 6) := by
  refine ev_iload_n dX9_fertility_0 rfl ?_
  refine ev_S1 dX9_fertility_1 st_RX9_55 na_X9_isWord (Nat.le_of_ble_eq_true rfl) (Nat.le_of_ble_eq_true rfl) (m9_isWordF hx) ?_
  refine ev_if_neF dX9_fertility_4 17 (by decide) (by first | assumption | exact z_eq (by omega) | decide) ?_
  exact ev_throwS th_X9_fertility_7 (Nat.le_of_ble_eq_true rfl) rfl
theorem m9_fertility2 {wd : Nat} {y : Int32} (hw : wd < 15) (hy : ¬ inN y 9) : Ev (d + 6) MX9_fertility 0 (lv_args 0 [.ref 2, .int (nI wd), .int y]) [] n h (.inr "java/lang/IllegalArgumentException", n, h, 1, 6) := by
  rcases inN_not hy with q | ⟨j, q1, q2, rfl⟩
  · refine ev_iload_n dX9_fertility_0 rfl ?_
    refine ev_S1 dX9_fertility_1 st_RX9_55 na_X9_isWord (Nat.le_of_ble_eq_true rfl) (Nat.le_of_ble_eq_true rfl) (m9_isWordT hw) ?_
    refine ev_if_neT (tgt := 17) dX9_fertility_4 (by decide) (by first | assumption | exact nI_ne0 (by omega) (by omega) | decide) ?_
    refine ev_iload_n dX9_fertility_17 rfl ?_
    refine ev_if_ltT (tgt := 27) dX9_fertility_18 (by decide) (by first | assumption | decide) ?_
    exact ev_throwS th_X9_fertility_27 (Nat.le_of_ble_eq_true rfl) rfl
  · refine ev_iload_n dX9_fertility_0 rfl ?_
    refine ev_S1 dX9_fertility_1 st_RX9_55 na_X9_isWord (Nat.le_of_ble_eq_true rfl) (Nat.le_of_ble_eq_true rfl) (m9_isWordT hw) ?_
    refine ev_if_neT (tgt := 17) dX9_fertility_4 (by decide) (by first | assumption | exact nI_ne0 (by omega) (by omega) | decide) ?_
    refine ev_iload_n dX9_fertility_17 rfl ?_
    refine ev_if_ltF dX9_fertility_18 27 (by decide) (by first | assumption | exact nI_pos (by omega) | decide) ?_
    refine ev_iload_n dX9_fertility_21 rfl ?_
    refine ev_bipush dX9_fertility_22 bp8 ?_
    refine ev_icmp_leF dX9_fertility_24 37 (by decide) (by first | assumption | exact nI_ge (by omega) (by omega) | decide) ?_
    exact ev_throwS th_X9_fertility_27 (Nat.le_of_ble_eq_true rfl) rfl
theorem m9_shortT (g : GS h made t l w S W) {i : Nat} (hi : i < made) (ht : t i = 1) (hl : l 1 i ≤ 4) : Ev (d + 3) MX9_shortPair 0 (lv_args 0 [.ref 2, .int (nI i)]) [] n h (.inl (some (.ref (pp i))), n, h, 0, 0) := by
  have g1 := g.1
  have hp := GS_Pr g hi
  have hp1 := hp.1
  have hp3 := hp.2.2.1
  first | refine ev_aload_n dX9_shortPair_0 rfl ?_ | refine ev_aload_nN dX9_shortPair_0 rfl ?_
  refine ev_iload_n dX9_shortPair_1 rfl ?_
  refine ev_V1 dX9_shortPair_2 st_RX9_100 na_X9_pairThatIsThere (Nat.le_of_ble_eq_true rfl) (Nat.le_of_ble_eq_true rfl) (by repeat (first | assumption | exact up_s | refine (up_n (by omega)).trans ?_)) rfl (m9_pairT g hi ht) ?_
  first | refine ev_astore_n dX9_shortPair_5 (Nat.le_of_ble_eq_true rfl) ?_ | refine ev_astore_nN dX9_shortPair_5 (Nat.le_of_ble_eq_true rfl) ?_
  first | refine ev_aload_n dX9_shortPair_6 rfl ?_ | refine ev_aload_nN dX9_shortPair_6 rfl ?_
  refine ev_iconst dX9_shortPair_7 ci1 ?_
  refine ev_V1 dX9_shortPair_8 st_RX9_65 na_X7_ofSide (Nat.le_of_ble_eq_true rfl) (Nat.le_of_ble_eq_true rfl) (by repeat (first | assumption | exact up_s | refine (up_n (by omega)).trans ?_)) rfl (m7_of1 hp) ?_
  refine ev_V0 dX9_shortPair_11 st_RX9_84 na_X6_length (Nat.le_of_ble_eq_true rfl) (Nat.le_of_ble_eq_true rfl) (by repeat (first | assumption | exact up_s | refine (up_n (by omega)).trans ?_)) rfl (m6_length hp.2.2) ?_
  refine ev_iconst dX9_shortPair_14 ci4 ?_
  refine ev_icmp_leT (tgt := 28) dX9_shortPair_15 (by decide) (by first | assumption | exact nI_le (by omega) (by omega) | decide) ?_
  first | refine ev_aload_n dX9_shortPair_28 rfl ?_ | refine ev_aload_nN dX9_shortPair_28 rfl ?_
  exact ev_areturnE dX9_shortPair_29 rfl (by first | exact Or.inl rfl | exact Or.inr ⟨_, rfl⟩) (by rfl)
theorem m9_short2 (g : GS h made t l w S W) {i : Nat} (hi : i < made) (ht : t i = 1) (hl : 4 < l 1 i) : Ev (d + 3) MX9_shortPair 0 (lv_args 0 [.ref 2, .int (nI i)]) [] n h (.inr "java/lang/IllegalStateException", n, h, 1, 6) := by
  have g1 := g.1
  have hp := GS_Pr g hi
  have hp1 := hp.1
  have hp3 := hp.2.2.1
  have hl1 := hp.2.2.2.2.1
  first | refine ev_aload_n dX9_shortPair_0 rfl ?_ | refine ev_aload_nN dX9_shortPair_0 rfl ?_
  refine ev_iload_n dX9_shortPair_1 rfl ?_
  refine ev_V1 dX9_shortPair_2 st_RX9_100 na_X9_pairThatIsThere (Nat.le_of_ble_eq_true rfl) (Nat.le_of_ble_eq_true rfl) (by repeat (first | assumption | exact up_s | refine (up_n (by omega)).trans ?_)) rfl (m9_pairT g hi ht) ?_
  first | refine ev_astore_n dX9_shortPair_5 (Nat.le_of_ble_eq_true rfl) ?_ | refine ev_astore_nN dX9_shortPair_5 (Nat.le_of_ble_eq_true rfl) ?_
  first | refine ev_aload_n dX9_shortPair_6 rfl ?_ | refine ev_aload_nN dX9_shortPair_6 rfl ?_
  refine ev_iconst dX9_shortPair_7 ci1 ?_
  refine ev_V1 dX9_shortPair_8 st_RX9_65 na_X7_ofSide (Nat.le_of_ble_eq_true rfl) (Nat.le_of_ble_eq_true rfl) (by repeat (first | assumption | exact up_s | refine (up_n (by omega)).trans ?_)) rfl (m7_of1 hp) ?_
  refine ev_V0 dX9_shortPair_11 st_RX9_84 na_X6_length (Nat.le_of_ble_eq_true rfl) (Nat.le_of_ble_eq_true rfl) (by repeat (first | assumption | exact up_s | refine (up_n (by omega)).trans ?_)) rfl (m6_length hp.2.2) ?_
  refine ev_iconst dX9_shortPair_14 ci4 ?_
  refine ev_icmp_leF dX9_shortPair_15 28 (by decide) (by first | assumption | exact nI_ge (by omega) (by omega) | decide) ?_
  exact ev_throwS th_X9_shortPair_18 (Nat.le_of_ble_eq_true rfl) rfl
theorem m9_shortF (g : GS h made t l w S W) {x : Int32} (hx : ¬ itIs x made t) : Ev (d + 3) MX9_shortPair 0 (lv_args 0 [.ref 2, .int x]) [] n h (.inr IOE, n, h, 1, 6) := by
  have g1 := g.1
  first | refine ev_aload_n dX9_shortPair_0 rfl ?_ | refine ev_aload_nN dX9_shortPair_0 rfl ?_
  refine ev_iload_n dX9_shortPair_1 rfl ?_
  exact ev_callVx (as := [_]) dX9_shortPair_2 st_RX9_100 na_X9_pairThatIsThere (Nat.le_of_ble_eq_true rfl) (Nat.le_of_ble_eq_true rfl) (by repeat (first | assumption | exact up_s | refine (up_n (by omega)).trans ?_)) rfl rfl (m9_pairF g hx)
/-- how likely -/
def toN (S : Nat → Nat → Nat) (l : Nat → Nat → Nat) (w : Nat → Nat → Nat → Nat) (i : Nat) : Nat := prD (ptF (S 0) (w 0 i) (w 1 i)) (l 0 i + 1) (l 1 i)
theorem cF_at {q : Nat → Nat → Nat} {N j i P : Nat} {A : Nat → Nat} (hj : j < P) (hi : i < N) (hN : N ≤ 9) : cF q N A P 0 (j * 9 + i) = q j i := by
  have e1 : (j * 9 + i) / 9 = j := by omega
  have e2 : (j * 9 + i) % 9 = i := by omega
  unfold cF
  rw [e1, e2, if_pos (Or.inl ⟨hj, hi⟩)]
theorem m9_totalT (g : GS h made t l w S W) {i : Nat} (hi : i < made) (ht : t i = 1) (hl : l 1 i ≤ 4) : ∃ h', Ev (d + 8) MX9_total 0 (lv_args 0 [.ref 2, .int (nI i)]) [] n h (.inl (some (.long (lN (toN S l w i)))), n, h', 0, 0) ∧ GS h' made t l w S W ∧ Fr h h' := by
  have g1 := g.1
  have g5 := g.2.2.1.1
  have hp := GS_Pr g hi
  have h0 := hp.2.1.2.2.1
  obtain ⟨P, N, A, z1, z2⟩ := g.2.2.2.2.2.2.1
  obtain ⟨k1, k2, k3, k4, k5, k6, k7, k8⟩ := g.2.2.1
  have em : min (l 1 i) 4 = l 1 i := by omega
  have co := m3_consider (d := d + 4) (n := n) z1 z2 k2 k4 k7 hp (pp_ge i)
  rw [em] at co
  have gg : GS (LiX h (l 1 i) (l 0 i + 1) (cF (ptF (S 0) (w 0 i) (w 1 i)) (l 0 i + 1) A (l 1 i) 0)) made t l w S W := GS_Li g
  have gg1 := gg.1
  have gl : LiX h (l 1 i) (l 0 i + 1) (cF (ptF (S 0) (w 0 i) (w 1 i)) (l 0 i + 1) A (l 1 i) 0) 24 = _ := (up_n (by omega)).trans up_s
  refine ⟨_, ?_, gg, Fr_Li⟩
  first | refine ev_aload_n dX9_total_0 rfl ?_ | refine ev_aload_nN dX9_total_0 rfl ?_
  refine ev_getfield dX9_total_1 fl_RX9_40 (by repeat (first | assumption | exact up_s | refine (up_n (by omega)).trans ?_)) rfl ?_
  first | refine ev_aload_n dX9_total_4 rfl ?_ | refine ev_aload_nN dX9_total_4 rfl ?_
  refine ev_iload_n dX9_total_5 rfl ?_
  refine ev_V1 dX9_total_6 st_RX9_193 na_X9_shortPair (Nat.le_of_ble_eq_true rfl) (Nat.le_of_ble_eq_true rfl) (by repeat (first | assumption | exact up_s | refine (up_n (by omega)).trans ?_)) rfl (m9_shortT g hi ht hl) ?_
  first | refine ev_aload_n dX9_total_9 rfl ?_ | refine ev_aload_nN dX9_total_9 rfl ?_
  refine ev_getfield dX9_total_10 fl_RX9_19 (by repeat (first | assumption | exact up_s | refine (up_n (by omega)).trans ?_)) rfl ?_
  refine ev_iconst dX9_total_13 ci0 ?_
  refine ev_V1 dX9_total_14 st_RX9_111 na_X4_lexicon (Nat.le_of_ble_eq_true rfl) (Nat.le_of_ble_eq_true rfl) (by repeat (first | assumption | exact up_s | refine (up_n (by omega)).trans ?_)) rfl (m4_lexicon g5 (show 0 ≤ 1 by omega)) ?_
  refine ev_V2v dX9_total_17 st_RX9_196 na_X3_consider (Nat.le_of_ble_eq_true rfl) (Nat.le_of_ble_eq_true rfl) (by repeat (first | assumption | exact up_s | refine (up_n (by omega)).trans ?_)) rfl (co) ?_
  first | refine ev_aload_n dX9_total_20 rfl ?_ | refine ev_aload_nN dX9_total_20 rfl ?_
  refine ev_getfield dX9_total_21 fl_RX9_40 (by repeat (first | assumption | exact up_s | refine (up_n (by omega)).trans ?_)) rfl ?_
  refine ev_V0 dX9_total_24 st_RX9_200 na_X3_productOfSums (Nat.le_of_ble_eq_true rfl) (Nat.le_of_ble_eq_true rfl) (by repeat (first | assumption | exact up_s | refine (up_n (by omega)).trans ?_)) rfl (m3_productOfSums gl up_s (show l 0 i + 1 ≤ 9 by omega) hl (fun j i9 q1 q2 => cF_at q1 q2 (by omega))) ?_
  exact ev_lreturnE dX9_total_27 rfl (by rfl)
theorem m9_total2 (g : GS h made t l w S W) {i : Nat} (hi : i < made) (ht : t i = 1) (hl : 4 < l 1 i) : Ev (d + 8) MX9_total 0 (lv_args 0 [.ref 2, .int (nI i)]) [] n h (.inr "java/lang/IllegalStateException", n, h, 1, 6) := by
  have g1 := g.1
  first | refine ev_aload_n dX9_total_0 rfl ?_ | refine ev_aload_nN dX9_total_0 rfl ?_
  refine ev_getfield dX9_total_1 fl_RX9_40 (by repeat (first | assumption | exact up_s | refine (up_n (by omega)).trans ?_)) rfl ?_
  first | refine ev_aload_n dX9_total_4 rfl ?_ | refine ev_aload_nN dX9_total_4 rfl ?_
  refine ev_iload_n dX9_total_5 rfl ?_
  exact ev_callVx (as := [_]) dX9_total_6 st_RX9_193 na_X9_shortPair (Nat.le_of_ble_eq_true rfl) (Nat.le_of_ble_eq_true rfl) (by repeat (first | assumption | exact up_s | refine (up_n (by omega)).trans ?_)) rfl rfl (m9_short2 g hi ht hl)
theorem m9_totalF (g : GS h made t l w S W) {x : Int32} (hx : ¬ itIs x made t) : Ev (d + 8) MX9_total 0 (lv_args 0 [.ref 2, .int x]) [] n h (.inr IOE, n, h, 1, 6) := by
  have g1 := g.1
  first | refine ev_aload_n dX9_total_0 rfl ?_ | refine ev_aload_nN dX9_total_0 rfl ?_
  refine ev_getfield dX9_total_1 fl_RX9_40 (by repeat (first | assumption | exact up_s | refine (up_n (by omega)).trans ?_)) rfl ?_
  first | refine ev_aload_n dX9_total_4 rfl ?_ | refine ev_aload_nN dX9_total_4 rfl ?_
  refine ev_iload_n dX9_total_5 rfl ?_
  exact ev_callVx (as := [_]) dX9_total_6 st_RX9_193 na_X9_shortPair (Nat.le_of_ble_eq_true rfl) (Nat.le_of_ble_eq_true rfl) (by repeat (first | assumption | exact up_s | refine (up_n (by omega)).trans ?_)) rfl rfl (m9_shortF g hx)
theorem m9_totalAnewT (g : GS h made t l w S W) {i : Nat} (hi : i < made) (ht : t i = 1) (hl : l 1 i ≤ 4) : ∃ h', Ev (d + 8) MX9_totalAnew 0 (lv_args 0 [.ref 2, .int (nI i)]) [] n h (.inl (some (.long (lN (toN S l w i)))), n, h', 0, 0) ∧ GS h' made t l w S W ∧ Fr h h' := by
  have g1 := g.1
  have g5 := g.2.2.1.1
  have hp := GS_Pr g hi
  have h0 := hp.2.1.2.2.1
  obtain ⟨P, N, A, z1, z2⟩ := g.2.2.2.2.2.2.1
  obtain ⟨k1, k2, k3, k4, k5, k6, k7, k8⟩ := g.2.2.1
  have em : min (l 1 i) 4 = l 1 i := by omega
  have co := m3_consider (d := d + 4) (n := n) z1 z2 k2 k4 k7 hp (pp_ge i)
  rw [em] at co
  have gg : GS (LiX h (l 1 i) (l 0 i + 1) (cF (ptF (S 0) (w 0 i) (w 1 i)) (l 0 i + 1) A (l 1 i) 0)) made t l w S W := GS_Li g
  have gg1 := gg.1
  have gl : LiX h (l 1 i) (l 0 i + 1) (cF (ptF (S 0) (w 0 i) (w 1 i)) (l 0 i + 1) A (l 1 i) 0) 24 = _ := (up_n (by omega)).trans up_s
  refine ⟨_, ?_, gg, Fr_Li⟩
  first | refine ev_aload_n dX9_totalAnew_0 rfl ?_ | refine ev_aload_nN dX9_totalAnew_0 rfl ?_
  refine ev_getfield dX9_totalAnew_1 fl_RX9_40 (by repeat (first | assumption | exact up_s | refine (up_n (by omega)).trans ?_)) rfl ?_
  first | refine ev_aload_n dX9_totalAnew_4 rfl ?_ | refine ev_aload_nN dX9_totalAnew_4 rfl ?_
  refine ev_iload_n dX9_totalAnew_5 rfl ?_
  refine ev_V1 dX9_totalAnew_6 st_RX9_193 na_X9_shortPair (Nat.le_of_ble_eq_true rfl) (Nat.le_of_ble_eq_true rfl) (by repeat (first | assumption | exact up_s | refine (up_n (by omega)).trans ?_)) rfl (m9_shortT g hi ht hl) ?_
  first | refine ev_aload_n dX9_totalAnew_9 rfl ?_ | refine ev_aload_nN dX9_totalAnew_9 rfl ?_
  refine ev_getfield dX9_totalAnew_10 fl_RX9_19 (by repeat (first | assumption | exact up_s | refine (up_n (by omega)).trans ?_)) rfl ?_
  refine ev_iconst dX9_totalAnew_13 ci0 ?_
  refine ev_V1 dX9_totalAnew_14 st_RX9_111 na_X4_lexicon (Nat.le_of_ble_eq_true rfl) (Nat.le_of_ble_eq_true rfl) (by repeat (first | assumption | exact up_s | refine (up_n (by omega)).trans ?_)) rfl (m4_lexicon g5 (show 0 ≤ 1 by omega)) ?_
  refine ev_V2v dX9_totalAnew_17 st_RX9_196 na_X3_consider (Nat.le_of_ble_eq_true rfl) (Nat.le_of_ble_eq_true rfl) (by repeat (first | assumption | exact up_s | refine (up_n (by omega)).trans ?_)) rfl (co) ?_
  first | refine ev_aload_n dX9_totalAnew_20 rfl ?_ | refine ev_aload_nN dX9_totalAnew_20 rfl ?_
  refine ev_getfield dX9_totalAnew_21 fl_RX9_40 (by repeat (first | assumption | exact up_s | refine (up_n (by omega)).trans ?_)) rfl ?_
  refine ev_V0 dX9_totalAnew_24 st_RX9_204 na_X3_sumOfProducts (Nat.le_of_ble_eq_true rfl) (Nat.le_of_ble_eq_true rfl) (by repeat (first | assumption | exact up_s | refine (up_n (by omega)).trans ?_)) rfl (m3_sumOfProducts gl up_s (show l 0 i + 1 ≤ 9 by omega) hl (fun j i9 q1 q2 => cF_at q1 q2 (by omega))) ?_
  exact ev_lreturnE dX9_totalAnew_27 rfl (by rfl)
theorem m9_totalAnew2 (g : GS h made t l w S W) {i : Nat} (hi : i < made) (ht : t i = 1) (hl : 4 < l 1 i) : Ev (d + 8) MX9_totalAnew 0 (lv_args 0 [.ref 2, .int (nI i)]) [] n h (.inr "java/lang/IllegalStateException", n, h, 1, 6) := by
  have g1 := g.1
  first | refine ev_aload_n dX9_totalAnew_0 rfl ?_ | refine ev_aload_nN dX9_totalAnew_0 rfl ?_
  refine ev_getfield dX9_totalAnew_1 fl_RX9_40 (by repeat (first | assumption | exact up_s | refine (up_n (by omega)).trans ?_)) rfl ?_
  first | refine ev_aload_n dX9_totalAnew_4 rfl ?_ | refine ev_aload_nN dX9_totalAnew_4 rfl ?_
  refine ev_iload_n dX9_totalAnew_5 rfl ?_
  exact ev_callVx (as := [_]) dX9_totalAnew_6 st_RX9_193 na_X9_shortPair (Nat.le_of_ble_eq_true rfl) (Nat.le_of_ble_eq_true rfl) (by repeat (first | assumption | exact up_s | refine (up_n (by omega)).trans ?_)) rfl rfl (m9_short2 g hi ht hl)
theorem m9_totalAnewF (g : GS h made t l w S W) {x : Int32} (hx : ¬ itIs x made t) : Ev (d + 8) MX9_totalAnew 0 (lv_args 0 [.ref 2, .int x]) [] n h (.inr IOE, n, h, 1, 6) := by
  have g1 := g.1
  first | refine ev_aload_n dX9_totalAnew_0 rfl ?_ | refine ev_aload_nN dX9_totalAnew_0 rfl ?_
  refine ev_getfield dX9_totalAnew_1 fl_RX9_40 (by repeat (first | assumption | exact up_s | refine (up_n (by omega)).trans ?_)) rfl ?_
  first | refine ev_aload_n dX9_totalAnew_4 rfl ?_ | refine ev_aload_nN dX9_totalAnew_4 rfl ?_
  refine ev_iload_n dX9_totalAnew_5 rfl ?_
  exact ev_callVx (as := [_]) dX9_totalAnew_6 st_RX9_193 na_X9_shortPair (Nat.le_of_ble_eq_true rfl) (Nat.le_of_ble_eq_true rfl) (by repeat (first | assumption | exact up_s | refine (up_n (by omega)).trans ?_)) rfl rfl (m9_shortF g hx)
end M9E
