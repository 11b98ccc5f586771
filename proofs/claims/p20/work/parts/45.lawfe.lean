/-! the law: fertilities -/
section LFE
variable {d n : Nat} {h : Hp} {made : Nat} {t : Nat → Nat} {l : Nat → Nat → Nat} {w : Nat → Nat → Nat → Nat} {S : Nat → Nat → Nat} {W : Nat → Nat} {wd : Nat}
theorem lp_feI {G Z Lc Wc : Nat → Nat} (g : GS h made t l w S W) (v : LW h G Z Lc Wc) (hw : wd < 15) {k P : Nat} (hk : k < made) (ht : t k = 1) (hz : Z k = 0) {o9 : Out} (K : Ev (d + 9) ML_areFertile 60 [(0, .ref 2), (1, .ref 31), (2, .ref 32), (3, .int (nI wd)), (4, .int (nI (P + sumN (wA l w wd k) 8))), (5, .int (nI k))] [] n h o9) :
    ∀ m j, j + m = 8 → Ev (d + 9) ML_areFertile 17 [(0, .ref 2), (1, .ref 31), (2, .ref 32), (3, .int (nI wd)), (4, .int (nI (P + sumN (wA l w wd k) j))), (5, .int (nI k)), (6, .int (nI j))] [] n h o9 := by
  have g1 := g.1
  have v2 := v.2.1
  have hm20 := g.2.1.2.2.1
  have hp := GS_Pr g hk
  intro m
  induction m with
  | zero =>
    intro j hj
    have e : j = 8 := by omega
    subst e
    refine ev_iload dL_areFertile_17 rfl ?_
    refine ev_bipush dL_areFertile_19 bp8 ?_
    refine ev_icmp_geT (tgt := 60) dL_areFertile_21 (by decide) (by first | assumption | exact nI_le (by omega) (by omega) | decide) ?_
    refine ev_sub ?_ (K)
    repeat (first | exact trivial | refine ⟨rfl, ?_⟩)
  | succ m ih =>
    intro j hj
    have ih := ih (j + 1) (by omega)
    have es : P + sumN (wA l w wd k) (j + 1) = P + sumN (wA l w wd k) j + wA l w wd k j := (Nat.add_assoc _ _ _).symm
    rw [es] at ih
    have s1 := hl_wordR (n := n) (d := d + 7) g1 (m9_wordT (d := d + 4) g (D := 0) hk ht (by omega) (show j < 2 ^ 31 by omega))
    by_cases q : j < l 0 k
    · rw [if_pos q] at s1
      have hb := hp.2.1.2.2.2 j q
      by_cases q2 : w 0 k j = wd
      · rw [show wA l w wd k j = 1 from (if_pos q).trans (if_pos q2)] at ih
        refine ev_iload dL_areFertile_17 rfl ?_
        refine ev_bipush dL_areFertile_19 bp8 ?_
        refine ev_icmp_geF dL_areFertile_21 60 (by decide) (by first | assumption | exact nI_ge (by omega) (by omega) | decide) ?_
        first | refine ev_aload_n dL_areFertile_24 rfl ?_ | refine ev_aload_nN dL_areFertile_24 rfl ?_
        refine ev_iload dL_areFertile_25 rfl ?_
        refine ev_iald dL_areFertile_27 (by repeat (first | assumption | exact up_s | refine (up_n (by omega)).trans ?_)) _ rfl (by omega) (by omega) ?_
        refine ev_if_neF dL_areFertile_28 60 (by decide) (hz ▸ nI_z.symm ▸ rfl) ?_
        refine ev_iload dL_areFertile_31 rfl ?_
        first | refine ev_aload_n dL_areFertile_33 rfl ?_ | refine ev_aload_nN dL_areFertile_33 rfl ?_
        refine ev_iload dL_areFertile_34 rfl ?_
        refine ev_iconst dL_areFertile_36 ci0 ?_
        refine ev_iload dL_areFertile_37 rfl ?_
        refine ev_callT (as := [_, _, _, _]) dL_areFertile_39 st_RL_85 na_L_word (Nat.le_of_ble_eq_true rfl) (Nat.le_of_ble_eq_true rfl) (Nat.zero_add _) (Nat.zero_add _) (s1) ?_
        refine ev_iload_n dL_areFertile_42 rfl ?_
        refine ev_icmp_neF dL_areFertile_43 50 (by decide) (by first | assumption | exact n_eq (by omega) | decide) ?_
        refine ev_iconst dL_areFertile_46 ci1 ?_
        refine ev_goto (tgt := 51) dL_areFertile_47 (by decide) ?_
        first | refine ev_iaddN dL_areFertile_51 ?_ | refine ev_iadd dL_areFertile_51 ?_
        refine ev_istore dL_areFertile_52 (Nat.le_of_ble_eq_true rfl) ?_
        refine ev_iincN (b := 1) dL_areFertile_54 rfl (Nat.le_of_ble_eq_true rfl) ?_
        refine ev_goto (tgt := 17) dL_areFertile_57 (by decide) ?_
        refine ev_sub ?_ (ih)
        repeat (first | exact trivial | refine ⟨rfl, ?_⟩)
      · rw [show wA l w wd k j = 0 from (if_pos q).trans (if_neg q2)] at ih
        refine ev_iload dL_areFertile_17 rfl ?_
        refine ev_bipush dL_areFertile_19 bp8 ?_
        refine ev_icmp_geF dL_areFertile_21 60 (by decide) (by first | assumption | exact nI_ge (by omega) (by omega) | decide) ?_
        first | refine ev_aload_n dL_areFertile_24 rfl ?_ | refine ev_aload_nN dL_areFertile_24 rfl ?_
        refine ev_iload dL_areFertile_25 rfl ?_
        refine ev_iald dL_areFertile_27 (by repeat (first | assumption | exact up_s | refine (up_n (by omega)).trans ?_)) _ rfl (by omega) (by omega) ?_
        refine ev_if_neF dL_areFertile_28 60 (by decide) (hz ▸ nI_z.symm ▸ rfl) ?_
        refine ev_iload dL_areFertile_31 rfl ?_
        first | refine ev_aload_n dL_areFertile_33 rfl ?_ | refine ev_aload_nN dL_areFertile_33 rfl ?_
        refine ev_iload dL_areFertile_34 rfl ?_
        refine ev_iconst dL_areFertile_36 ci0 ?_
        refine ev_iload dL_areFertile_37 rfl ?_
        refine ev_callT (as := [_, _, _, _]) dL_areFertile_39 st_RL_85 na_L_word (Nat.le_of_ble_eq_true rfl) (Nat.le_of_ble_eq_true rfl) (Nat.zero_add _) (Nat.zero_add _) (s1) ?_
        refine ev_iload_n dL_areFertile_42 rfl ?_
        refine ev_icmp_neT (tgt := 50) dL_areFertile_43 (by decide) (by first | assumption | exact n_ne (by omega) (by omega) (by omega) | decide) ?_
        refine ev_iconst dL_areFertile_50 ci0 ?_
        first | refine ev_iaddN dL_areFertile_51 ?_ | refine ev_iadd dL_areFertile_51 ?_
        refine ev_istore dL_areFertile_52 (Nat.le_of_ble_eq_true rfl) ?_
        refine ev_iincN (b := 1) dL_areFertile_54 rfl (Nat.le_of_ble_eq_true rfl) ?_
        refine ev_goto (tgt := 17) dL_areFertile_57 (by decide) ?_
        refine ev_sub ?_ (ih)
        repeat (first | exact trivial | refine ⟨rfl, ?_⟩)
    · rw [if_neg q] at s1
      rw [show wA l w wd k j = 0 from if_neg q] at ih
      refine ev_iload dL_areFertile_17 rfl ?_
      refine ev_bipush dL_areFertile_19 bp8 ?_
      refine ev_icmp_geF dL_areFertile_21 60 (by decide) (by first | assumption | exact nI_ge (by omega) (by omega) | decide) ?_
      first | refine ev_aload_n dL_areFertile_24 rfl ?_ | refine ev_aload_nN dL_areFertile_24 rfl ?_
      refine ev_iload dL_areFertile_25 rfl ?_
      refine ev_iald dL_areFertile_27 (by repeat (first | assumption | exact up_s | refine (up_n (by omega)).trans ?_)) _ rfl (by omega) (by omega) ?_
      refine ev_if_neF dL_areFertile_28 60 (by decide) (hz ▸ nI_z.symm ▸ rfl) ?_
      refine ev_iload dL_areFertile_31 rfl ?_
      first | refine ev_aload_n dL_areFertile_33 rfl ?_ | refine ev_aload_nN dL_areFertile_33 rfl ?_
      refine ev_iload dL_areFertile_34 rfl ?_
      refine ev_iconst dL_areFertile_36 ci0 ?_
      refine ev_iload dL_areFertile_37 rfl ?_
      refine ev_callT (as := [_, _, _, _]) dL_areFertile_39 st_RL_85 na_L_word (Nat.le_of_ble_eq_true rfl) (Nat.le_of_ble_eq_true rfl) (Nat.zero_add _) (Nat.zero_add _) (s1) ?_
      refine ev_iload_n dL_areFertile_42 rfl ?_
      refine ev_icmp_neT (tgt := 50) dL_areFertile_43 (by decide) (fun e => m1_ne (show wd < 2 ^ 31 by omega) e.symm) ?_
      refine ev_iconst dL_areFertile_50 ci0 ?_
      first | refine ev_iaddN dL_areFertile_51 ?_ | refine ev_iadd dL_areFertile_51 ?_
      refine ev_istore dL_areFertile_52 (Nat.le_of_ble_eq_true rfl) ?_
      refine ev_iincN (b := 1) dL_areFertile_54 rfl (Nat.le_of_ble_eq_true rfl) ?_
      refine ev_goto (tgt := 17) dL_areFertile_57 (by decide) ?_
      refine ev_sub ?_ (ih)
      repeat (first | exact trivial | refine ⟨rfl, ?_⟩)
theorem lp_feO {G Z Lc Wc : Nat → Nat} (g : GS h made t l w S W) (v : LW h G Z Lc Wc) (hw : wd < 15) (hG : G 2 = made) (hZ : ∀ i, i < made → Z i + t i = 1) {o9 : Out} (K : Ev (d + 9) ML_areFertile 66 [(0, .ref 2), (1, .ref 31), (2, .ref 32), (3, .int (nI wd)), (4, .int (nI (sumN (wC t l w wd) made)))] [] n h o9) :
    ∀ m k, k + m = made → Ev (d + 9) ML_areFertile 6 [(0, .ref 2), (1, .ref 31), (2, .ref 32), (3, .int (nI wd)), (4, .int (nI (sumN (wC t l w wd) k))), (5, .int (nI k))] [] n h o9 := by
  have v1 := v.1
  have v2 := v.2.1
  have hm20 := g.2.1.2.2.1
  intro m
  induction m with
  | zero =>
    intro k hk
    have e : k = made := by omega
    subst e
    refine ev_iload dL_areFertile_6 rfl ?_
    first | refine ev_aload_n dL_areFertile_8 rfl ?_ | refine ev_aload_nN dL_areFertile_8 rfl ?_
    refine ev_iconst dL_areFertile_9 ci2 ?_
    refine ev_iald dL_areFertile_10 (by repeat (first | assumption | exact up_s | refine (up_n (by omega)).trans ?_)) _ rfl (by omega) (by omega) ?_
    refine ev_top (v2 := .int (nI k)) (congrArg (fun z => Value.int (nI z)) hG) ?_
    refine ev_icmp_geT (tgt := 66) dL_areFertile_11 (by decide) (by first | assumption | exact nI_le (by omega) (by omega) | decide) ?_
    refine ev_sub ?_ (K)
    repeat (first | exact trivial | refine ⟨rfl, ?_⟩)
  | succ m ih =>
    intro k hk
    have ih := ih (k + 1) (by omega)
    have es : sumN (wC t l w wd) (k + 1) = sumN (wC t l w wd) k + wC t l w wd k := rfl
    rw [es] at ih
    have hZk := hZ k (by omega)
    rcases g.2.1.2.2.2.2.1 k with ht | ht
    · rw [show wC t l w wd k = 0 from if_neg (by omega)] at ih
      refine ev_iload dL_areFertile_6 rfl ?_
      first | refine ev_aload_n dL_areFertile_8 rfl ?_ | refine ev_aload_nN dL_areFertile_8 rfl ?_
      refine ev_iconst dL_areFertile_9 ci2 ?_
      refine ev_iald dL_areFertile_10 (by repeat (first | assumption | exact up_s | refine (up_n (by omega)).trans ?_)) _ rfl (by omega) (by omega) ?_
      refine ev_top (v2 := .int (nI made)) (congrArg (fun z => Value.int (nI z)) hG) ?_
      refine ev_icmp_geF dL_areFertile_11 66 (by decide) (by first | assumption | exact nI_ge (by omega) (by omega) | decide) ?_
      refine ev_iconst dL_areFertile_14 ci0 ?_
      refine ev_istore dL_areFertile_15 (Nat.le_of_ble_eq_true rfl) ?_
      refine ev_iload dL_areFertile_17 rfl ?_
      refine ev_bipush dL_areFertile_19 bp8 ?_
      refine ev_icmp_geF dL_areFertile_21 60 (by decide) (by first | assumption | exact nI_ge (by omega) (by omega) | decide) ?_
      first | refine ev_aload_n dL_areFertile_24 rfl ?_ | refine ev_aload_nN dL_areFertile_24 rfl ?_
      refine ev_iload dL_areFertile_25 rfl ?_
      refine ev_iald dL_areFertile_27 (by repeat (first | assumption | exact up_s | refine (up_n (by omega)).trans ?_)) _ rfl (by omega) (by omega) ?_
      refine ev_top (v2 := .int (nI 1)) (congrArg (fun z => Value.int (nI z)) (show Z k = 1 by omega)) ?_
      refine ev_if_neT (tgt := 60) dL_areFertile_28 (by decide) (by first | assumption | exact nI_ne0 (by omega) (by omega) | decide) ?_
      refine ev_iincN (b := 1) dL_areFertile_60 rfl (Nat.le_of_ble_eq_true rfl) ?_
      refine ev_goto (tgt := 6) dL_areFertile_63 (by decide) ?_
      refine ev_sub ?_ (ih)
      repeat (first | exact trivial | refine ⟨rfl, ?_⟩)
    · rw [show wC t l w wd k = sumN (wA l w wd k) 8 from if_pos ht] at ih
      refine ev_iload dL_areFertile_6 rfl ?_
      first | refine ev_aload_n dL_areFertile_8 rfl ?_ | refine ev_aload_nN dL_areFertile_8 rfl ?_
      refine ev_iconst dL_areFertile_9 ci2 ?_
      refine ev_iald dL_areFertile_10 (by repeat (first | assumption | exact up_s | refine (up_n (by omega)).trans ?_)) _ rfl (by omega) (by omega) ?_
      refine ev_top (v2 := .int (nI made)) (congrArg (fun z => Value.int (nI z)) hG) ?_
      refine ev_icmp_geF dL_areFertile_11 66 (by decide) (by first | assumption | exact nI_ge (by omega) (by omega) | decide) ?_
      refine ev_iconst dL_areFertile_14 ci0 ?_
      refine ev_istore dL_areFertile_15 (Nat.le_of_ble_eq_true rfl) ?_
      refine ev_sub ?_ (lp_feI (k := k) (P := sumN (wC t l w wd) k) g v hw (by omega) ht (show Z k = 0 by omega) ?_ 8 0 (by omega))
      · repeat (first | exact trivial | refine ⟨rfl, ?_⟩)
      · refine ev_iincN (b := 1) dL_areFertile_60 rfl (Nat.le_of_ble_eq_true rfl) ?_
        refine ev_goto (tgt := 6) dL_areFertile_63 (by decide) ?_
        refine ev_sub ?_ (ih)
        repeat (first | exact trivial | refine ⟨rfl, ?_⟩)
theorem lp_feS (hw : wd < 15) {P : Nat} (hP : P ≤ 160) (hF : sumN (fun f => sumN (feF S W t l w wd f) made) 9 = P) :
    ∀ m f h', f + m = 9 → GS h' made t l w S W → Fr h h' → ∃ h2, Ev (d + 9) ML_areFertile 69 [(0, .ref 2), (3, .int (nI wd)), (4, .int (nI (P - sumN (fun f => sumN (feF S W t l w wd f) made) f))), (5, .int (nI f))] [] n h' (.inl (some (.int (nI 1))), n, h2, 0, 0) ∧ GS h2 made t l w S W ∧ Fr h h2 := by
  intro m
  induction m with
  | zero =>
    intro f h' hf g fr
    refine ⟨h', ?_, g, fr⟩
    have e : f = 9 := by omega
    subst e
    rw [hF, Nat.sub_self]
    refine ev_iload dL_areFertile_69 rfl ?_
    refine ev_bipush dL_areFertile_71 bp9 ?_
    refine ev_icmp_geT (tgt := 108) dL_areFertile_73 (by decide) (by first | assumption | exact nI_le (by omega) (by omega) | decide) ?_
    refine ev_iload dL_areFertile_108 rfl ?_
    refine ev_if_neF dL_areFertile_110 117 (by decide) (by first | assumption | exact z_eq (by omega) | decide) ?_
    refine ev_iconst dL_areFertile_113 ci1 ?_
    refine ev_goto (tgt := 118) dL_areFertile_114 (by decide) ?_
    exact ev_zreturnE dL_areFertile_118 rfl (by first | exact Or.inl rfl | exact Or.inr rfl | assumption | exact z01 (bI_01 _) | exact z01 (by omega)) (by rfl)
  | succ m ih =>
    intro f h' hf g fr
    obtain ⟨x1, e1, y1, f1⟩ := m9_fertilityT (d := d + 1) (n := n) g hw (show f < 9 by omega)
    have e1 := hl_fertilityR g.1 e1
    obtain ⟨h2, ev, z1, z2⟩ := ih (f + 1) x1 (by omega) y1 (Fr_trans fr f1)
    refine ⟨h2, ?_, z1, z2⟩
    have es : sumN (fun f => sumN (feF S W t l w wd f) made) (f + 1) = sumN (fun f => sumN (feF S W t l w wd f) made) f + sumN (feF S W t l w wd f) made := rfl
    have hb : sumN (fun f => sumN (feF S W t l w wd f) made) (f + 1) ≤ sumN (fun f => sumN (feF S W t l w wd f) made) 9 := sumN_mono (by omega)
    rw [hF, es] at hb
    rw [es, Nat.sub_add_eq] at ev
    generalize sumN (fun f => sumN (feF S W t l w wd f) made) f = A at *
    generalize sumN (feF S W t l w wd f) made = B at *
    refine ev_iload dL_areFertile_69 rfl ?_
    refine ev_bipush dL_areFertile_71 bp9 ?_
    refine ev_icmp_geF dL_areFertile_73 108 (by decide) (by first | assumption | exact nI_ge (by omega) (by omega) | decide) ?_
    first | refine ev_aload_n dL_areFertile_76 rfl ?_ | refine ev_aload_nN dL_areFertile_76 rfl ?_
    refine ev_iload_n dL_areFertile_77 rfl ?_
    refine ev_iload dL_areFertile_78 rfl ?_
    refine ev_callT (as := [_, _, _]) dL_areFertile_80 st_RL_87 na_L_fertility (Nat.le_of_ble_eq_true rfl) (Nat.le_of_ble_eq_true rfl) (Nat.zero_add _) (Nat.zero_add _) (e1) ?_
    refine ev_istore dL_areFertile_83 (Nat.le_of_ble_eq_true rfl) ?_
    refine ev_iload dL_areFertile_85 rfl ?_
    refine ev_iload dL_areFertile_87 rfl ?_
    refine ev_if_geT (tgt := 97) dL_areFertile_89 (by decide) (by first | assumption | exact nI_pos' (by omega) | decide) ?_
    refine ev_iload dL_areFertile_97 rfl ?_
    first | refine ev_isubN dL_areFertile_99 (by omega) ?_ | refine ev_isub dL_areFertile_99 ?_
    refine ev_istore dL_areFertile_100 (Nat.le_of_ble_eq_true rfl) ?_
    refine ev_iincN (b := 1) dL_areFertile_102 rfl (Nat.le_of_ble_eq_true rfl) ?_
    refine ev_goto (tgt := 69) dL_areFertile_105 (by decide) ?_
    refine ev_sub ?_ (ev)
    repeat (first | exact trivial | refine ⟨rfl, ?_⟩)
theorem l_areFertile {G Z Lc Wc : Nat → Nat} (g : GS h made t l w S W) (v : LW h G Z Lc Wc) (hw : wd < 15) (hG : G 2 = made) (hZ : ∀ i, i < made → Z i + t i = 1) : ∃ h2, Ev (d + 9) ML_areFertile 0 (lv_args 0 [.ref 2, .ref 31, .ref 32, .int (nI wd)]) [] n h (.inl (some (.int (nI 1))), n, h2, 0, 0) ∧ GS h2 made t l w S W ∧ Fr h h2 := by
  have hm20 := g.2.1.2.2.1
  have hP : sumN (wC t l w wd) made ≤ made * 8 := sumN_bd (fun _ _ => wC_le)
  obtain ⟨h2, ev, z1, z2⟩ := lp_feS (d := d) (n := n) (h := h) (S := S) (W := W) (t := t) (l := l) (w := w) (made := made) hw (P := sumN (wC t l w wd) made) (by omega) (fe_all (fun i hi => (GS_Pr g hi).2.1.2.2.1)) 9 0 h (by omega) g Fr_rfl
  refine ⟨h2, ?_, z1, z2⟩
  refine ev_iconst dL_areFertile_0 ci0 ?_
  refine ev_istore dL_areFertile_1 (Nat.le_of_ble_eq_true rfl) ?_
  refine ev_iconst dL_areFertile_3 ci0 ?_
  refine ev_istore dL_areFertile_4 (Nat.le_of_ble_eq_true rfl) ?_
  refine ev_sub ?_ (lp_feO g v hw hG hZ ?_ made 0 (by omega))
  · repeat (first | exact trivial | refine ⟨rfl, ?_⟩)
  · refine ev_iconst dL_areFertile_66 ci0 ?_
    refine ev_istore dL_areFertile_67 (Nat.le_of_ble_eq_true rfl) ?_
    refine ev_sub ?_ (ev)
    repeat (first | exact trivial | refine ⟨rfl, ?_⟩)
end LFE
