/-! the class from outside: what is asked -/
/-- what is left alone by the class -/
def Fr (h h' : Hp) : Prop := ∀ a, a < 2 ∨ (31 ≤ a ∧ a ≤ 34) → h' a = h a
theorem Fr_rfl {h : Hp} : Fr h h := fun _ _ => rfl
theorem Fr_trans {h h1 h2 : Hp} (a : Fr h h1) (b : Fr h1 h2) : Fr h h2 := fun x q => (b x q).trans (a x q)
theorem Fr_up {h h1 : Hp} {k : Nat} {e : va_E} (a : Fr h h1) (hk : (2 ≤ k ∧ k < 31) ∨ 34 < k) : Fr h (va_up h1 k e) := fun x q => (up_n (by omega)).trans (a x q)
abbrev IOE : String := "java/lang/IndexOutOfBoundsException"
section M9B
variable {d n : Nat} {h h' : Hp} {made : Nat} {t : Nat → Nat} {l : Nat → Nat → Nat} {w : Nat → Nat → Nat → Nat} {S : Nat → Nat → Nat} {W : Nat → Nat}
theorem GS_Pr (g : GS h made t l w S W) {i : Nat} (hi : i < made) : Pr h (pp i) (t i) (l 0 i) (w 0 i) (l 1 i) (w 1 i) := g.2.1.2.2.2.2.2 i hi
theorem m9_wordT (g : GS h made t l w S W) {i D j : Nat} (hi : i < made) (ht : t i = 1) (hD : D < 2) (hj : j < 2 ^ 31) : Ev (d + 3) MX9_word 0 (lv_args 0 [.ref 2, .int (nI i), .int (nI D), .int (nI j)]) [] n h (.inl (some (.int (if j < l D i then nI (w D i j) else -1))), n, h, 0, 0) := by
  have g1 := g.1
  have hp := GS_Pr g hi
  have hs := Pr_side hp (show D ≤ 1 by omega)
  have hp1 := hp.1
  have hs1 := hs.1
  by_cases q : j < l D i
  · rw [if_pos q]
    first | refine ev_aload_n dX9_word_0 rfl ?_ | refine ev_aload_nN dX9_word_0 rfl ?_
    refine ev_iload_n dX9_word_1 rfl ?_
    refine ev_V1 dX9_word_2 st_RX9_100 na_X9_pairThatIsThere (Nat.le_of_ble_eq_true rfl) (Nat.le_of_ble_eq_true rfl) (by repeat (first | assumption | exact up_s | refine (up_n (by omega)).trans ?_)) rfl (m9_pairT g hi ht) ?_
    refine ev_astore dX9_word_5 (Nat.le_of_ble_eq_true rfl) ?_
    refine ev_iload_n dX9_word_7 rfl ?_
    refine ev_S1 dX9_word_8 st_RX9_51 na_X9_isSide (Nat.le_of_ble_eq_true rfl) (Nat.le_of_ble_eq_true rfl) (m9_isSideT hD) ?_
    refine ev_if_eqF dX9_word_11 18 (by decide) (by first | assumption | exact nI_ne0 (by omega) (by omega) | decide) ?_
    refine ev_iload_n dX9_word_14 rfl ?_
    refine ev_if_geT (tgt := 28) dX9_word_15 (by decide) (nI_pos' hj) ?_
    first | refine ev_aload dX9_word_28 rfl ?_ | refine ev_aloadN dX9_word_28 rfl ?_
    refine ev_iload_n dX9_word_30 rfl ?_
    refine ev_V1 dX9_word_31 st_RX9_65 na_X7_ofSide (Nat.le_of_ble_eq_true rfl) (Nat.le_of_ble_eq_true rfl) (by repeat (first | assumption | exact up_s | refine (up_n (by omega)).trans ?_)) rfl (m7_of hp (show D ≤ 1 by omega)) ?_
    refine ev_iload_n dX9_word_34 rfl ?_
    refine ev_V1 dX9_word_35 st_RX9_137 na_X6_at (Nat.le_of_ble_eq_true rfl) (Nat.le_of_ble_eq_true rfl) (by repeat (first | assumption | exact up_s | refine (up_n (by omega)).trans ?_)) rfl (m6_atT hs q) ?_
    exact ev_ireturnE dX9_word_38 rfl (by rfl)
  · rw [if_neg q]
    first | refine ev_aload_n dX9_word_0 rfl ?_ | refine ev_aload_nN dX9_word_0 rfl ?_
    refine ev_iload_n dX9_word_1 rfl ?_
    refine ev_V1 dX9_word_2 st_RX9_100 na_X9_pairThatIsThere (Nat.le_of_ble_eq_true rfl) (Nat.le_of_ble_eq_true rfl) (by repeat (first | assumption | exact up_s | refine (up_n (by omega)).trans ?_)) rfl (m9_pairT g hi ht) ?_
    refine ev_astore dX9_word_5 (Nat.le_of_ble_eq_true rfl) ?_
    refine ev_iload_n dX9_word_7 rfl ?_
    refine ev_S1 dX9_word_8 st_RX9_51 na_X9_isSide (Nat.le_of_ble_eq_true rfl) (Nat.le_of_ble_eq_true rfl) (m9_isSideT hD) ?_
    refine ev_if_eqF dX9_word_11 18 (by decide) (by first | assumption | exact nI_ne0 (by omega) (by omega) | decide) ?_
    refine ev_iload_n dX9_word_14 rfl ?_
    refine ev_if_geT (tgt := 28) dX9_word_15 (by decide) (nI_pos' hj) ?_
    first | refine ev_aload dX9_word_28 rfl ?_ | refine ev_aloadN dX9_word_28 rfl ?_
    refine ev_iload_n dX9_word_30 rfl ?_
    refine ev_V1 dX9_word_31 st_RX9_65 na_X7_ofSide (Nat.le_of_ble_eq_true rfl) (Nat.le_of_ble_eq_true rfl) (by repeat (first | assumption | exact up_s | refine (up_n (by omega)).trans ?_)) rfl (m7_of hp (show D ≤ 1 by omega)) ?_
    refine ev_iload_n dX9_word_34 rfl ?_
    refine ev_V1 dX9_word_35 st_RX9_137 na_X6_at (Nat.le_of_ble_eq_true rfl) (Nat.le_of_ble_eq_true rfl) (by repeat (first | assumption | exact up_s | refine (up_n (by omega)).trans ?_)) rfl (m6_atF hs (Or.inr ⟨j, by omega, hj, rfl⟩)) ?_
    exact ev_ireturnE dX9_word_38 rfl (by rfl)
theorem m9_wordF (g : GS h made t l w S W) {x y z : Int32} (hx : ¬ itIs x made t ∨ ¬ inN y 2 ∨ z < 0) : Ev (d + 3) MX9_word 0 (lv_args 0 [.ref 2, .int x, .int y, .int z]) [] n h (.inr IOE, n, h, 1, 6) := by
  have g1 := g.1
  by_cases q : itIs x made t
  · obtain ⟨i, hi, ht, rfl⟩ := q
    by_cases q2 : inN y 2
    · obtain ⟨D, hD, rfl⟩ := q2
      have q3 : z < 0 := hx.elim (fun c => absurd ⟨i, hi, ht, rfl⟩ c) (fun c => c.elim (fun c => absurd ⟨D, hD, rfl⟩ c) id)
      first | refine ev_aload_n dX9_word_0 rfl ?_ | refine ev_aload_nN dX9_word_0 rfl ?_
      refine ev_iload_n dX9_word_1 rfl ?_
      refine ev_V1 dX9_word_2 st_RX9_100 na_X9_pairThatIsThere (Nat.le_of_ble_eq_true rfl) (Nat.le_of_ble_eq_true rfl) (by repeat (first | assumption | exact up_s | refine (up_n (by omega)).trans ?_)) rfl (m9_pairT g hi ht) ?_
      refine ev_astore dX9_word_5 (Nat.le_of_ble_eq_true rfl) ?_
      refine ev_iload_n dX9_word_7 rfl ?_
      refine ev_S1 dX9_word_8 st_RX9_51 na_X9_isSide (Nat.le_of_ble_eq_true rfl) (Nat.le_of_ble_eq_true rfl) (m9_isSideT hD) ?_
      refine ev_if_eqF dX9_word_11 18 (by decide) (by first | assumption | exact nI_ne0 (by omega) (by omega) | decide) ?_
      refine ev_iload_n dX9_word_14 rfl ?_
      refine ev_if_geF dX9_word_15 28 (by decide) (fun c => absurd c (Int32.not_le.mpr q3)) ?_
      exact ev_throwS th_X9_word_18 (Nat.le_of_ble_eq_true rfl) rfl
    · first | refine ev_aload_n dX9_word_0 rfl ?_ | refine ev_aload_nN dX9_word_0 rfl ?_
      refine ev_iload_n dX9_word_1 rfl ?_
      refine ev_V1 dX9_word_2 st_RX9_100 na_X9_pairThatIsThere (Nat.le_of_ble_eq_true rfl) (Nat.le_of_ble_eq_true rfl) (by repeat (first | assumption | exact up_s | refine (up_n (by omega)).trans ?_)) rfl (m9_pairT g hi ht) ?_
      refine ev_astore dX9_word_5 (Nat.le_of_ble_eq_true rfl) ?_
      refine ev_iload_n dX9_word_7 rfl ?_
      refine ev_S1 dX9_word_8 st_RX9_51 na_X9_isSide (Nat.le_of_ble_eq_true rfl) (Nat.le_of_ble_eq_true rfl) (m9_isSideF q2) ?_
      refine ev_if_eqT (tgt := 18) dX9_word_11 (by decide) (by first | assumption | exact z_eq (by omega) | decide) ?_
      exact ev_throwS th_X9_word_18 (Nat.le_of_ble_eq_true rfl) rfl
  · first | refine ev_aload_n dX9_word_0 rfl ?_ | refine ev_aload_nN dX9_word_0 rfl ?_
    refine ev_iload_n dX9_word_1 rfl ?_
    exact ev_callVx (as := [_]) dX9_word_2 st_RX9_100 na_X9_pairThatIsThere (Nat.le_of_ble_eq_true rfl) (Nat.le_of_ble_eq_true rfl) (by repeat (first | assumption | exact up_s | refine (up_n (by omega)).trans ?_)) rfl rfl (m9_pairF g q)
theorem m9_shareT (g : GS h made t l w S W) {D wd o : Nat} (hD : D < 2) (hw : wd ≤ 15) (ho : o < 15) : Ev (d + 2) MX9_share 0 (lv_args 0 [.ref 2, .int (nI D), .int (nI wd), .int (nI o)]) [] n h (.inl (some (.int (nI (S D (15 * wd + o))))), n, h, 0, 0) := by
  have g1 := g.1
  obtain ⟨x1, x2, x3⟩ := Kn_lx g.2.2.1 (show D ≤ 1 by omega)
  have g5 := g.2.2.1.1
  by_cases q : wd < 15
  · refine ev_iload_n dX9_share_0 rfl ?_
    refine ev_S1 dX9_share_1 st_RX9_51 na_X9_isSide (Nat.le_of_ble_eq_true rfl) (Nat.le_of_ble_eq_true rfl) (m9_isSideT hD) ?_
    refine ev_if_eqF dX9_share_4 27 (by decide) (by first | assumption | exact nI_ne0 (by omega) (by omega) | decide) ?_
    refine ev_iload_n dX9_share_7 rfl ?_
    refine ev_S1 dX9_share_8 st_RX9_55 na_X9_isWord (Nat.le_of_ble_eq_true rfl) (Nat.le_of_ble_eq_true rfl) (m9_isWordT q) ?_
    refine ev_if_neT (tgt := 20) dX9_share_11 (by decide) (by first | assumption | exact nI_ne0 (by omega) (by omega) | decide) ?_
    refine ev_iload_n dX9_share_20 rfl ?_
    refine ev_S1 dX9_share_21 st_RX9_55 na_X9_isWord (Nat.le_of_ble_eq_true rfl) (Nat.le_of_ble_eq_true rfl) (m9_isWordT ho) ?_
    refine ev_if_neT (tgt := 37) dX9_share_24 (by decide) (by first | assumption | exact nI_ne0 (by omega) (by omega) | decide) ?_
    first | refine ev_aload_n dX9_share_37 rfl ?_ | refine ev_aload_nN dX9_share_37 rfl ?_
    refine ev_getfield dX9_share_38 fl_RX9_19 (by repeat (first | assumption | exact up_s | refine (up_n (by omega)).trans ?_)) rfl ?_
    refine ev_iload_n dX9_share_41 rfl ?_
    refine ev_V1 dX9_share_42 st_RX9_111 na_X4_lexicon (Nat.le_of_ble_eq_true rfl) (Nat.le_of_ble_eq_true rfl) (by repeat (first | assumption | exact up_s | refine (up_n (by omega)).trans ?_)) rfl (m4_lexicon g5 (show D ≤ 1 by omega)) ?_
    refine ev_iload_n dX9_share_45 rfl ?_
    refine ev_iload_n dX9_share_46 rfl ?_
    refine ev_V2 dX9_share_47 st_RX9_143 na_X2_shareOf (Nat.le_of_ble_eq_true rfl) (Nat.le_of_ble_eq_true rfl) (by repeat (first | assumption | exact up_s | refine (up_n (by omega)).trans ?_)) rfl (m2_shareOf x1 x2 hw ho) ?_
    exact ev_ireturnE dX9_share_50 rfl (by rfl)
  · have e : wd = 15 := by omega
    subst e
    refine ev_iload_n dX9_share_0 rfl ?_
    refine ev_S1 dX9_share_1 st_RX9_51 na_X9_isSide (Nat.le_of_ble_eq_true rfl) (Nat.le_of_ble_eq_true rfl) (m9_isSideT hD) ?_
    refine ev_if_eqF dX9_share_4 27 (by decide) (by first | assumption | exact nI_ne0 (by omega) (by omega) | decide) ?_
    refine ev_iload_n dX9_share_7 rfl ?_
    refine ev_S1 dX9_share_8 st_RX9_55 na_X9_isWord (Nat.le_of_ble_eq_true rfl) (Nat.le_of_ble_eq_true rfl) (m9_isWordF (x := nI 15) (fun ⟨j, c1, c2⟩ => absurd ((nI_eq (by omega) (by omega)).mp c2) (by omega))) ?_
    refine ev_if_neF dX9_share_11 20 (by decide) (by first | assumption | exact z_eq (by omega) | decide) ?_
    refine ev_iload_n dX9_share_14 rfl ?_
    refine ev_bipush dX9_share_15 bp15 ?_
    refine ev_icmp_neF dX9_share_17 27 (by decide) (by first | assumption | exact n_eq (by omega) | decide) ?_
    refine ev_iload_n dX9_share_20 rfl ?_
    refine ev_S1 dX9_share_21 st_RX9_55 na_X9_isWord (Nat.le_of_ble_eq_true rfl) (Nat.le_of_ble_eq_true rfl) (m9_isWordT ho) ?_
    refine ev_if_neT (tgt := 37) dX9_share_24 (by decide) (by first | assumption | exact nI_ne0 (by omega) (by omega) | decide) ?_
    first | refine ev_aload_n dX9_share_37 rfl ?_ | refine ev_aload_nN dX9_share_37 rfl ?_
    refine ev_getfield dX9_share_38 fl_RX9_19 (by repeat (first | assumption | exact up_s | refine (up_n (by omega)).trans ?_)) rfl ?_
    refine ev_iload_n dX9_share_41 rfl ?_
    refine ev_V1 dX9_share_42 st_RX9_111 na_X4_lexicon (Nat.le_of_ble_eq_true rfl) (Nat.le_of_ble_eq_true rfl) (by repeat (first | assumption | exact up_s | refine (up_n (by omega)).trans ?_)) rfl (m4_lexicon g5 (show D ≤ 1 by omega)) ?_
    refine ev_iload_n dX9_share_45 rfl ?_
    refine ev_iload_n dX9_share_46 rfl ?_
    refine ev_V2 dX9_share_47 st_RX9_143 na_X2_shareOf (Nat.le_of_ble_eq_true rfl) (Nat.le_of_ble_eq_true rfl) (by repeat (first | assumption | exact up_s | refine (up_n (by omega)).trans ?_)) rfl (m2_shareOf x1 x2 hw ho) ?_
    exact ev_ireturnE dX9_share_50 rfl (by rfl)
theorem m9_shareF {x y z : Int32} (hx : ¬ inN x 2 ∨ ¬ inN y 16 ∨ ¬ inN z 15) : Ev (d + 2) MX9_share 0 (lv_args 0 [.ref 2, .int x, .int y, .int z]) [] n h (.inr IOE, n, h, 1, 6) := by
  by_cases q : inN x 2
  · obtain ⟨D, hD, rfl⟩ := q
    by_cases q2 : inN y 15
    · obtain ⟨wd, hw, rfl⟩ := q2
      have q3 : ¬ inN z 15 := hx.elim (fun c => absurd ⟨D, hD, rfl⟩ c) (fun c => c.elim (fun c => absurd ⟨wd, by omega, rfl⟩ c) id)
      refine ev_iload_n dX9_share_0 rfl ?_
      refine ev_S1 dX9_share_1 st_RX9_51 na_X9_isSide (Nat.le_of_ble_eq_true rfl) (Nat.le_of_ble_eq_true rfl) (m9_isSideT hD) ?_
      refine ev_if_eqF dX9_share_4 27 (by decide) (by first | assumption | exact nI_ne0 (by omega) (by omega) | decide) ?_
      refine ev_iload_n dX9_share_7 rfl ?_
      refine ev_S1 dX9_share_8 st_RX9_55 na_X9_isWord (Nat.le_of_ble_eq_true rfl) (Nat.le_of_ble_eq_true rfl) (m9_isWordT hw) ?_
      refine ev_if_neT (tgt := 20) dX9_share_11 (by decide) (by first | assumption | exact nI_ne0 (by omega) (by omega) | decide) ?_
      refine ev_iload_n dX9_share_20 rfl ?_
      refine ev_S1 dX9_share_21 st_RX9_55 na_X9_isWord (Nat.le_of_ble_eq_true rfl) (Nat.le_of_ble_eq_true rfl) (m9_isWordF q3) ?_
      refine ev_if_neF dX9_share_24 37 (by decide) (by first | assumption | exact z_eq (by omega) | decide) ?_
      exact ev_throwS th_X9_share_27 (Nat.le_of_ble_eq_true rfl) rfl
    · by_cases q4 : y = nI 15
      · have q3 : ¬ inN z 15 := hx.elim (fun c => absurd ⟨D, hD, rfl⟩ c) (fun c => c.elim (fun c => absurd ⟨15, by omega, q4⟩ c) id)
        refine ev_iload_n dX9_share_0 rfl ?_
        refine ev_S1 dX9_share_1 st_RX9_51 na_X9_isSide (Nat.le_of_ble_eq_true rfl) (Nat.le_of_ble_eq_true rfl) (m9_isSideT hD) ?_
        refine ev_if_eqF dX9_share_4 27 (by decide) (by first | assumption | exact nI_ne0 (by omega) (by omega) | decide) ?_
        refine ev_iload_n dX9_share_7 rfl ?_
        refine ev_S1 dX9_share_8 st_RX9_55 na_X9_isWord (Nat.le_of_ble_eq_true rfl) (Nat.le_of_ble_eq_true rfl) (m9_isWordF q2) ?_
        refine ev_if_neF dX9_share_11 20 (by decide) (by first | assumption | exact z_eq (by omega) | decide) ?_
        refine ev_iload_n dX9_share_14 rfl ?_
        refine ev_bipush dX9_share_15 bp15 ?_
        refine ev_icmp_neF dX9_share_17 27 (by decide) q4 ?_
        refine ev_iload_n dX9_share_20 rfl ?_
        refine ev_S1 dX9_share_21 st_RX9_55 na_X9_isWord (Nat.le_of_ble_eq_true rfl) (Nat.le_of_ble_eq_true rfl) (m9_isWordF q3) ?_
        refine ev_if_neF dX9_share_24 37 (by decide) (by first | assumption | exact z_eq (by omega) | decide) ?_
        exact ev_throwS th_X9_share_27 (Nat.le_of_ble_eq_true rfl) rfl
      · refine ev_iload_n dX9_share_0 rfl ?_
        refine ev_S1 dX9_share_1 st_RX9_51 na_X9_isSide (Nat.le_of_ble_eq_true rfl) (Nat.le_of_ble_eq_true rfl) (m9_isSideT hD) ?_
        refine ev_if_eqF dX9_share_4 27 (by decide) (by first | assumption | exact nI_ne0 (by omega) (by omega) | decide) ?_
        refine ev_iload_n dX9_share_7 rfl ?_
        refine ev_S1 dX9_share_8 st_RX9_55 na_X9_isWord (Nat.le_of_ble_eq_true rfl) (Nat.le_of_ble_eq_true rfl) (m9_isWordF q2) ?_
        refine ev_if_neF dX9_share_11 20 (by decide) (by first | assumption | exact z_eq (by omega) | decide) ?_
        refine ev_iload_n dX9_share_14 rfl ?_
        refine ev_bipush dX9_share_15 bp15 ?_
        refine ev_icmp_neT (tgt := 27) dX9_share_17 (by decide) q4 ?_
        exact ev_throwS th_X9_share_27 (Nat.le_of_ble_eq_true rfl) rfl
  · refine ev_iload_n dX9_share_0 rfl ?_
    refine ev_S1 dX9_share_1 st_RX9_51 na_X9_isSide (Nat.le_of_ble_eq_true rfl) (Nat.le_of_ble_eq_true rfl) (m9_isSideF q) ?_
    refine ev_if_eqT (tgt := 27) dX9_share_4 (by decide) (by first | assumption | exact z_eq (by omega) | decide) ?_
    exact ev_throwS th_X9_share_27 (Nat.le_of_ble_eq_true rfl) rfl
theorem m9_linkT (g : GS h made t l w S W) {i D j : Nat} (hi : i < made) (ht : t i = 1) (hD : D < 2) (hj : j < l (1 - D) i) : Ev (d + 3) MX9_link 0 (lv_args 0 [.ref 2, .int (nI D), .int (nI i), .int (nI j)]) [] n h (.inl (some (.int (bo (lkF S W l w i D j)))), n, h, 0, 0) := by
  have g1 := g.1
  have g5 := g.2.2.1.1
  have hp := GS_Pr g hi
  have hs := Pr_side hp (show 1 - D ≤ 1 by omega)
  have hp1 := hp.1
  have hs1 := hs.1
  first | refine ev_aload_n dX9_link_0 rfl ?_ | refine ev_aload_nN dX9_link_0 rfl ?_
  refine ev_iload_n dX9_link_1 rfl ?_
  refine ev_V1 dX9_link_2 st_RX9_100 na_X9_pairThatIsThere (Nat.le_of_ble_eq_true rfl) (Nat.le_of_ble_eq_true rfl) (by repeat (first | assumption | exact up_s | refine (up_n (by omega)).trans ?_)) rfl (m9_pairT g hi ht) ?_
  refine ev_astore dX9_link_5 (Nat.le_of_ble_eq_true rfl) ?_
  refine ev_iload_n dX9_link_7 rfl ?_
  refine ev_S1 dX9_link_8 st_RX9_51 na_X9_isSide (Nat.le_of_ble_eq_true rfl) (Nat.le_of_ble_eq_true rfl) (m9_isSideT hD) ?_
  refine ev_if_eqF dX9_link_11 29 (by decide) (by first | assumption | exact nI_ne0 (by omega) (by omega) | decide) ?_
  first | refine ev_aload dX9_link_14 rfl ?_ | refine ev_aloadN dX9_link_14 rfl ?_
  refine ev_iconst dX9_link_16 ci1 ?_
  refine ev_iload_n dX9_link_17 rfl ?_
  first | refine ev_isubN dX9_link_18 (by omega) ?_ | refine ev_isub dX9_link_18 ?_
  refine ev_V1 dX9_link_19 st_RX9_65 na_X7_ofSide (Nat.le_of_ble_eq_true rfl) (Nat.le_of_ble_eq_true rfl) (by repeat (first | assumption | exact up_s | refine (up_n (by omega)).trans ?_)) rfl (m7_of hp (show 1 - D ≤ 1 by omega)) ?_
  refine ev_iload_n dX9_link_22 rfl ?_
  refine ev_V1 dX9_link_23 st_RX9_146 na_X6_has (Nat.le_of_ble_eq_true rfl) (Nat.le_of_ble_eq_true rfl) (by repeat (first | assumption | exact up_s | refine (up_n (by omega)).trans ?_)) rfl (m6_hasT hs hj) ?_
  refine ev_if_neT (tgt := 39) dX9_link_26 (by decide) (by first | assumption | exact nI_ne0 (by omega) (by omega) | decide) ?_
  first | refine ev_aload_n dX9_link_39 rfl ?_ | refine ev_aload_nN dX9_link_39 rfl ?_
  refine ev_getfield dX9_link_40 fl_RX9_19 (by repeat (first | assumption | exact up_s | refine (up_n (by omega)).trans ?_)) rfl ?_
  refine ev_iload_n dX9_link_43 rfl ?_
  first | refine ev_aload dX9_link_44 rfl ?_ | refine ev_aloadN dX9_link_44 rfl ?_
  refine ev_iload_n dX9_link_46 rfl ?_
  refine ev_V3 dX9_link_47 st_RX9_151 na_X4_answerFor (Nat.le_of_ble_eq_true rfl) (Nat.le_of_ble_eq_true rfl) (by repeat (first | assumption | exact up_s | refine (up_n (by omega)).trans ?_)) rfl (m4_answerFor g.2.2.1 (show D ≤ 1 by omega) hp hj) ?_
  exact ev_ireturnE dX9_link_50 rfl (by rfl)
theorem m9_linkF (g : GS h made t l w S W) {x y z : Int32} (hx : ¬ itIs y made t ∨ ¬ inN x 2 ∨ ∀ D i, D < 2 → i < made → x = nI D → y = nI i → ¬ inN z (l (1 - D) i)) : Ev (d + 3) MX9_link 0 (lv_args 0 [.ref 2, .int x, .int y, .int z]) [] n h (.inr IOE, n, h, 1, 6) := by
  have g1 := g.1
  by_cases q : itIs y made t
  · obtain ⟨i, hi, ht, rfl⟩ := q
    have hp := GS_Pr g hi
    have hp1 := hp.1
    by_cases q2 : inN x 2
    · obtain ⟨D, hD, rfl⟩ := q2
      have q3 : ¬ inN z (l (1 - D) i) := hx.elim (fun c => absurd ⟨i, hi, ht, rfl⟩ c) (fun c => c.elim (fun c => absurd ⟨D, hD, rfl⟩ c) (fun c => c D i hD hi rfl rfl))
      have hs := Pr_side hp (show 1 - D ≤ 1 by omega)
      have hs1 := hs.1
      first | refine ev_aload_n dX9_link_0 rfl ?_ | refine ev_aload_nN dX9_link_0 rfl ?_
      refine ev_iload_n dX9_link_1 rfl ?_
      refine ev_V1 dX9_link_2 st_RX9_100 na_X9_pairThatIsThere (Nat.le_of_ble_eq_true rfl) (Nat.le_of_ble_eq_true rfl) (by repeat (first | assumption | exact up_s | refine (up_n (by omega)).trans ?_)) rfl (m9_pairT g hi ht) ?_
      refine ev_astore dX9_link_5 (Nat.le_of_ble_eq_true rfl) ?_
      refine ev_iload_n dX9_link_7 rfl ?_
      refine ev_S1 dX9_link_8 st_RX9_51 na_X9_isSide (Nat.le_of_ble_eq_true rfl) (Nat.le_of_ble_eq_true rfl) (m9_isSideT hD) ?_
      refine ev_if_eqF dX9_link_11 29 (by decide) (by first | assumption | exact nI_ne0 (by omega) (by omega) | decide) ?_
      first | refine ev_aload dX9_link_14 rfl ?_ | refine ev_aloadN dX9_link_14 rfl ?_
      refine ev_iconst dX9_link_16 ci1 ?_
      refine ev_iload_n dX9_link_17 rfl ?_
      first | refine ev_isubN dX9_link_18 (by omega) ?_ | refine ev_isub dX9_link_18 ?_
      refine ev_V1 dX9_link_19 st_RX9_65 na_X7_ofSide (Nat.le_of_ble_eq_true rfl) (Nat.le_of_ble_eq_true rfl) (by repeat (first | assumption | exact up_s | refine (up_n (by omega)).trans ?_)) rfl (m7_of hp (show 1 - D ≤ 1 by omega)) ?_
      refine ev_iload_n dX9_link_22 rfl ?_
      refine ev_V1 dX9_link_23 st_RX9_146 na_X6_has (Nat.le_of_ble_eq_true rfl) (Nat.le_of_ble_eq_true rfl) (by repeat (first | assumption | exact up_s | refine (up_n (by omega)).trans ?_)) rfl (m6_hasF hs (inN_not q3)) ?_
      refine ev_if_neF dX9_link_26 39 (by decide) (by first | assumption | exact z_eq (by omega) | decide) ?_
      exact ev_throwS th_X9_link_29 (Nat.le_of_ble_eq_true rfl) rfl
    · first | refine ev_aload_n dX9_link_0 rfl ?_ | refine ev_aload_nN dX9_link_0 rfl ?_
      refine ev_iload_n dX9_link_1 rfl ?_
      refine ev_V1 dX9_link_2 st_RX9_100 na_X9_pairThatIsThere (Nat.le_of_ble_eq_true rfl) (Nat.le_of_ble_eq_true rfl) (by repeat (first | assumption | exact up_s | refine (up_n (by omega)).trans ?_)) rfl (m9_pairT g hi ht) ?_
      refine ev_astore dX9_link_5 (Nat.le_of_ble_eq_true rfl) ?_
      refine ev_iload_n dX9_link_7 rfl ?_
      refine ev_S1 dX9_link_8 st_RX9_51 na_X9_isSide (Nat.le_of_ble_eq_true rfl) (Nat.le_of_ble_eq_true rfl) (m9_isSideF q2) ?_
      refine ev_if_eqT (tgt := 29) dX9_link_11 (by decide) (by first | assumption | exact z_eq (by omega) | decide) ?_
      exact ev_throwS th_X9_link_29 (Nat.le_of_ble_eq_true rfl) rfl
  · first | refine ev_aload_n dX9_link_0 rfl ?_ | refine ev_aload_nN dX9_link_0 rfl ?_
    refine ev_iload_n dX9_link_1 rfl ?_
    exact ev_callVx (as := [_]) dX9_link_2 st_RX9_100 na_X9_pairThatIsThere (Nat.le_of_ble_eq_true rfl) (Nat.le_of_ble_eq_true rfl) (by repeat (first | assumption | exact up_s | refine (up_n (by omega)).trans ?_)) rfl rfl (m9_pairF g q)
end M9B
