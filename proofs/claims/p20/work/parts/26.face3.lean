/-! the class from outside: what is asked of alignments -/
section M9C
variable {d n : Nat} {h h' : Hp} {made : Nat} {t : Nat → Nat} {l : Nat → Nat → Nat} {w : Nat → Nat → Nat → Nat} {S : Nat → Nat → Nat} {W : Nat → Nat}
theorem GS_AX (g : GS h made t l w S W) {a0 a1 : Nat} {B E J : Nat → Nat} : GS (AX h a0 a1 B E J) made t l w S W := by
  obtain ⟨g1, g2, g3, g4, g5, ⟨C1, F1, y1, y2⟩, ⟨P, N, A, z1, z2⟩, ⟨C2, F2, R2, u1, u2, u3⟩, ⟨C3, F3, R3, v1, v2, v3⟩⟩ := g
  have e : ∀ a, a < 18 ∨ 21 < a → AX h a0 a1 B E J a = h a := fun a q => (up_n (by omega)).trans ((up_n (by omega)).trans ((up_n (by omega)).trans (up_n (by omega))))
  have hm := pp_gap made
  exact ⟨(e _ (by omega)).trans g1, Cp_up (Cp_up (Cp_up (Cp_up g2 (by omega)) (by omega)) (by omega)) (by omega), Kn_up (Kn_up (Kn_up (Kn_up g3 (by omega)) (by omega)) (by omega)) (by omega), Pr_up (Pr_up (Pr_up (Pr_up g4 (by omega)) (by omega)) (by omega)) (by omega),
    ⟨a0, a1, B, E, J, (up_n (by omega)).trans ((up_n (by omega)).trans ((up_n (by omega)).trans up_s)), (up_n (by omega)).trans ((up_n (by omega)).trans up_s), (up_n (by omega)).trans up_s, up_s⟩,
    ⟨C1, F1, (e _ (by omega)).trans y1, (e _ (by omega)).trans y2⟩, ⟨P, N, A, (e _ (by omega)).trans z1, (e _ (by omega)).trans z2⟩, ⟨C2, F2, R2, (e _ (by omega)).trans u1, (e _ (by omega)).trans u2, (e _ (by omega)).trans u3⟩, ⟨C3, F3, R3, (e _ (by omega)).trans v1, (e _ (by omega)).trans v2, (e _ (by omega)).trans v3⟩⟩
theorem GS_Sr (g : GS h made t l w S W) {s : Nat × (Nat → Nat)} : GS (Sr h s) made t l w S W := by
  obtain ⟨g1, g2, g3, g4, ⟨a0, a1, B, E, J, x1, x2, x3, x4⟩, g6, ⟨P, N, A, z1, z2⟩, ⟨C2, F2, R2, u1, u2, u3⟩, ⟨C3, F3, R3, v1, v2, v3⟩⟩ := g
  have e : ∀ a, a < 22 ∨ 23 < a → Sr h s a = h a := fun a q => (up_n (by omega)).trans (up_n (by omega))
  have hm := pp_gap made
  exact ⟨(e _ (by omega)).trans g1, Cp_up (Cp_up g2 (by omega)) (by omega), Kn_up (Kn_up g3 (by omega)) (by omega), Pr_up (Pr_up g4 (by omega)) (by omega),
    ⟨a0, a1, B, E, J, (e _ (by omega)).trans x1, (e _ (by omega)).trans x2, (e _ (by omega)).trans x3, (e _ (by omega)).trans x4⟩,
    ⟨s.1, s.2, Sr_22, Sr_23⟩, ⟨P, N, A, (e _ (by omega)).trans z1, (e _ (by omega)).trans z2⟩, ⟨C2, F2, R2, (e _ (by omega)).trans u1, (e _ (by omega)).trans u2, (e _ (by omega)).trans u3⟩, ⟨C3, F3, R3, (e _ (by omega)).trans v1, (e _ (by omega)).trans v2, (e _ (by omega)).trans v3⟩⟩
theorem GS_Li (g : GS h made t l w S W) {P N : Nat} {A : Nat → Nat} : GS (LiX h P N A) made t l w S W := by
  obtain ⟨g1, g2, g3, g4, ⟨a0, a1, B, E, J, x1, x2, x3, x4⟩, ⟨C1, F1, y1, y2⟩, g7, ⟨C2, F2, R2, u1, u2, u3⟩, ⟨C3, F3, R3, v1, v2, v3⟩⟩ := g
  have e : ∀ a, a < 24 ∨ 25 < a → LiX h P N A a = h a := fun a q => (up_n (by omega)).trans (up_n (by omega))
  have hm := pp_gap made
  exact ⟨(e _ (by omega)).trans g1, Cp_up (Cp_up g2 (by omega)) (by omega), Kn_up (Kn_up g3 (by omega)) (by omega), Pr_up (Pr_up g4 (by omega)) (by omega),
    ⟨a0, a1, B, E, J, (e _ (by omega)).trans x1, (e _ (by omega)).trans x2, (e _ (by omega)).trans x3, (e _ (by omega)).trans x4⟩,
    ⟨C1, F1, (e _ (by omega)).trans y1, (e _ (by omega)).trans y2⟩, ⟨P, N, A, (up_n (by omega)).trans up_s, up_s⟩, ⟨C2, F2, R2, (e _ (by omega)).trans u1, (e _ (by omega)).trans u2, (e _ (by omega)).trans u3⟩, ⟨C3, F3, R3, (e _ (by omega)).trans v1, (e _ (by omega)).trans v2, (e _ (by omega)).trans v3⟩⟩
theorem Fr_AX {a0 a1 : Nat} {B E J : Nat → Nat} : Fr h (AX h a0 a1 B E J) := Fr_up (Fr_up (Fr_up (Fr_up Fr_rfl (by omega)) (by omega)) (by omega)) (by omega)
theorem Fr_Sr {s : Nat × (Nat → Nat)} : Fr h (Sr h s) := Fr_up (Fr_up Fr_rfl (by omega)) (by omega)
theorem Fr_Li {P N : Nat} {A : Nat → Nat} : Fr h (LiX h P N A) := Fr_up (Fr_up Fr_rfl (by omega)) (by omega)
/-- what is joined of a pair -/
def JJ (S : Nat → Nat → Nat) (W : Nat → Nat) (l : Nat → Nat → Nat) (w : Nat → Nat → Nat → Nat) (i : Nat) : Nat → Nat := gr (BE S W l w i).2 65 (BE S W l w i).1
theorem grw_ok {l0 : Nat} {E : Nat → Nat} (hE0 : ∀ i, l0 ≤ i → E i = 0) : ∀ k J, (∀ i, J i < 256) → (∀ i, l0 ≤ i → J i = 0) → (∀ i, gr E k J i < 256) ∧ (∀ i, l0 ≤ i → gr E k J i = 0)
  | 0, J, h1, h2 => ⟨h1, h2⟩
  | k + 1, J, h1, h2 => by
    obtain ⟨i1, i2, i3⟩ := swp_inv (E := E) (x := (J, 0)) hE0 h1 h2 (Or.inl rfl) 64
    unfold gr
    split
    · exact grw_ok hE0 k _ i1 i2
    · exact ⟨i1, i2⟩
theorem JJ_ok {i : Nat} (h0 : l 0 i ≤ 8) (h1 : l 1 i ≤ 8) : (∀ j, JJ S W l w i j < 256) ∧ (∀ j, l 0 i ≤ j → JJ S W l w i j = 0) := by
  obtain ⟨q1, q2, q3, q4, q5⟩ := BE_ok (S := S) (W := W) (l := l) (w := w) (i9 := i) h0 h1
  exact grw_ok q4 65 _ q1 q3
/-- aligning a pair that is there -/
theorem g_align (g : GS h made t l w S W) {i : Nat} (hi : i < made) : Ev (d + 5) MX0_align 0 (lv_args 0 [.ref 18, .ref (pp i), .ref 5]) [] n h (.inl none, n, AX h (l 0 i) (l 1 i) (BE S W l w i).1 (BE S W l w i).2 (JJ S W l w i), 0, 0) := by
  obtain ⟨a0, a1, B, E, J, x1, x2, x3, x4⟩ := g.2.2.2.2.1
  exact m0_align x1 x2 x3 x4 g.2.2.1 (GS_Pr g hi) (pp_ge i)
abbrev AXi (h : Hp) (S : Nat → Nat → Nat) (W : Nat → Nat) (l : Nat → Nat → Nat) (w : Nat → Nat → Nat → Nat) (i : Nat) : Hp := AX h (l 0 i) (l 1 i) (BE S W l w i).1 (BE S W l w i).2 (JJ S W l w i)
theorem AX_Ah {a0 a1 : Nat} {B E J : Nat → Nat} : Ah (AX h a0 a1 B E J) a0 a1 := (up_n (by omega)).trans ((up_n (by omega)).trans ((up_n (by omega)).trans up_s))
theorem m9_isJoinedT (g : GS h made t l w S W) {i j o : Nat} (hi : i < made) (ht : t i = 1) (hj : j < l 0 i) (ho : o < l 1 i) : Ev (d + 6) MX9_isJoined 0 (lv_args 0 [.ref 2, .int (nI i), .int (nI j), .int (nI o)]) [] n h (.inl (some (.int (nI (bI (JJ S W l w i j &&& 2 ^ o ≠ 0))))), n, AXi h S W l w i, 0, 0) := by
  have g1 := g.1
  have hp := GS_Pr g hi
  have hp1 := hp.1
  have hp2 := hp.2.1.1
  have hp3 := hp.2.2.1
  have h0 := hp.2.1.2.2.1
  have h1 := hp.2.2.2.2.1
  obtain ⟨a0, a1, B, E, J, x1, x2, x3, x4⟩ := g.2.2.2.2.1
  have gg : GS (AXi h S W l w i) made t l w S W := GS_AX g
  have gg1 := gg.1
  have gA : Ah (AXi h S W l w i) (l 0 i) (l 1 i) := AX_Ah
  first | refine ev_aload_n dX9_isJoined_0 rfl ?_ | refine ev_aload_nN dX9_isJoined_0 rfl ?_
  refine ev_iload_n dX9_isJoined_1 rfl ?_
  refine ev_V1 dX9_isJoined_2 st_RX9_100 na_X9_pairThatIsThere (Nat.le_of_ble_eq_true rfl) (Nat.le_of_ble_eq_true rfl) (by repeat (first | assumption | exact up_s | refine (up_n (by omega)).trans ?_)) rfl (m9_pairT g hi ht) ?_
  refine ev_astore dX9_isJoined_5 (Nat.le_of_ble_eq_true rfl) ?_
  first | refine ev_aload dX9_isJoined_7 rfl ?_ | refine ev_aloadN dX9_isJoined_7 rfl ?_
  refine ev_iconst dX9_isJoined_9 ci0 ?_
  refine ev_V1 dX9_isJoined_10 st_RX9_65 na_X7_ofSide (Nat.le_of_ble_eq_true rfl) (Nat.le_of_ble_eq_true rfl) (by repeat (first | assumption | exact up_s | refine (up_n (by omega)).trans ?_)) rfl (m7_of0 hp) ?_
  refine ev_iload_n dX9_isJoined_13 rfl ?_
  refine ev_V1 dX9_isJoined_14 st_RX9_146 na_X6_has (Nat.le_of_ble_eq_true rfl) (Nat.le_of_ble_eq_true rfl) (by repeat (first | assumption | exact up_s | refine (up_n (by omega)).trans ?_)) rfl (m6_hasT hp.2.1 hj) ?_
  refine ev_if_eqF dX9_isJoined_17 33 (by decide) (by first | assumption | exact nI_ne0 (by omega) (by omega) | decide) ?_
  first | refine ev_aload dX9_isJoined_20 rfl ?_ | refine ev_aloadN dX9_isJoined_20 rfl ?_
  refine ev_iconst dX9_isJoined_22 ci1 ?_
  refine ev_V1 dX9_isJoined_23 st_RX9_65 na_X7_ofSide (Nat.le_of_ble_eq_true rfl) (Nat.le_of_ble_eq_true rfl) (by repeat (first | assumption | exact up_s | refine (up_n (by omega)).trans ?_)) rfl (m7_of1 hp) ?_
  refine ev_iload_n dX9_isJoined_26 rfl ?_
  refine ev_V1 dX9_isJoined_27 st_RX9_146 na_X6_has (Nat.le_of_ble_eq_true rfl) (Nat.le_of_ble_eq_true rfl) (by repeat (first | assumption | exact up_s | refine (up_n (by omega)).trans ?_)) rfl (m6_hasT hp.2.2 ho) ?_
  refine ev_if_neT (tgt := 43) dX9_isJoined_30 (by decide) (by first | assumption | exact nI_ne0 (by omega) (by omega) | decide) ?_
  first | refine ev_aload_n dX9_isJoined_43 rfl ?_ | refine ev_aload_nN dX9_isJoined_43 rfl ?_
  refine ev_getfield dX9_isJoined_44 fl_RX9_26 (by repeat (first | assumption | exact up_s | refine (up_n (by omega)).trans ?_)) rfl ?_
  first | refine ev_aload dX9_isJoined_47 rfl ?_ | refine ev_aloadN dX9_isJoined_47 rfl ?_
  first | refine ev_aload_n dX9_isJoined_49 rfl ?_ | refine ev_aload_nN dX9_isJoined_49 rfl ?_
  refine ev_getfield dX9_isJoined_50 fl_RX9_19 (by repeat (first | assumption | exact up_s | refine (up_n (by omega)).trans ?_)) rfl ?_
  refine ev_V2v dX9_isJoined_53 st_RX9_157 na_X0_align (Nat.le_of_ble_eq_true rfl) (Nat.le_of_ble_eq_true rfl) (by repeat (first | assumption | exact up_s | refine (up_n (by omega)).trans ?_)) rfl (g_align g hi) ?_
  first | refine ev_aload_n dX9_isJoined_56 rfl ?_ | refine ev_aload_nN dX9_isJoined_56 rfl ?_
  refine ev_getfield dX9_isJoined_57 fl_RX9_26 (by repeat (first | assumption | exact up_s | refine (up_n (by omega)).trans ?_)) rfl ?_
  refine ev_iload_n dX9_isJoined_60 rfl ?_
  refine ev_iload_n dX9_isJoined_61 rfl ?_
  refine ev_V2 dX9_isJoined_62 st_RX9_161 na_X0_hasJoined (Nat.le_of_ble_eq_true rfl) (Nat.le_of_ble_eq_true rfl) (by repeat (first | assumption | exact up_s | refine (up_n (by omega)).trans ?_)) rfl (m0_hasJoined gA up_s (show j < 8 by omega) (show o < 8 by omega)) ?_
  exact ev_zreturnE dX9_isJoined_65 rfl (by first | exact Or.inl rfl | exact Or.inr rfl | assumption | exact z01 (bI_01 _) | exact z01 (by omega)) (by rfl)
theorem m9_isJoinedF (g : GS h made t l w S W) {x y z : Int32} (hx : ¬ itIs x made t ∨ ∀ i, i < made → x = nI i → ¬ inN y (l 0 i) ∨ ¬ inN z (l 1 i)) : Ev (d + 6) MX9_isJoined 0 (lv_args 0 [.ref 2, .int x, .int y, .int z]) [] n h (.inr IOE, n, h, 1, 6) := by
  have g1 := g.1
  by_cases q : itIs x made t
  · obtain ⟨i, hi, ht, rfl⟩ := q
    have hp := GS_Pr g hi
    have hp1 := hp.1
    have hp2 := hp.2.1.1
    have hp3 := hp.2.2.1
    have hx := hx.elim (fun c => absurd ⟨i, hi, ht, rfl⟩ c) (fun c => c i hi rfl)
    by_cases q2 : inN y (l 0 i)
    · obtain ⟨j, hj, rfl⟩ := q2
      have q3 : ¬ inN z (l 1 i) := hx.elim (fun c => absurd ⟨j, hj, rfl⟩ c) id
      first | refine ev_aload_n dX9_isJoined_0 rfl ?_ | refine ev_aload_nN dX9_isJoined_0 rfl ?_
      refine ev_iload_n dX9_isJoined_1 rfl ?_
      refine ev_V1 dX9_isJoined_2 st_RX9_100 na_X9_pairThatIsThere (Nat.le_of_ble_eq_true rfl) (Nat.le_of_ble_eq_true rfl) (by repeat (first | assumption | exact up_s | refine (up_n (by omega)).trans ?_)) rfl (m9_pairT g hi ht) ?_
      refine ev_astore dX9_isJoined_5 (Nat.le_of_ble_eq_true rfl) ?_
      first | refine ev_aload dX9_isJoined_7 rfl ?_ | refine ev_aloadN dX9_isJoined_7 rfl ?_
      refine ev_iconst dX9_isJoined_9 ci0 ?_
      refine ev_V1 dX9_isJoined_10 st_RX9_65 na_X7_ofSide (Nat.le_of_ble_eq_true rfl) (Nat.le_of_ble_eq_true rfl) (by repeat (first | assumption | exact up_s | refine (up_n (by omega)).trans ?_)) rfl (m7_of0 hp) ?_
      refine ev_iload_n dX9_isJoined_13 rfl ?_
      refine ev_V1 dX9_isJoined_14 st_RX9_146 na_X6_has (Nat.le_of_ble_eq_true rfl) (Nat.le_of_ble_eq_true rfl) (by repeat (first | assumption | exact up_s | refine (up_n (by omega)).trans ?_)) rfl (m6_hasT hp.2.1 hj) ?_
      refine ev_if_eqF dX9_isJoined_17 33 (by decide) (by first | assumption | exact nI_ne0 (by omega) (by omega) | decide) ?_
      first | refine ev_aload dX9_isJoined_20 rfl ?_ | refine ev_aloadN dX9_isJoined_20 rfl ?_
      refine ev_iconst dX9_isJoined_22 ci1 ?_
      refine ev_V1 dX9_isJoined_23 st_RX9_65 na_X7_ofSide (Nat.le_of_ble_eq_true rfl) (Nat.le_of_ble_eq_true rfl) (by repeat (first | assumption | exact up_s | refine (up_n (by omega)).trans ?_)) rfl (m7_of1 hp) ?_
      refine ev_iload_n dX9_isJoined_26 rfl ?_
      refine ev_V1 dX9_isJoined_27 st_RX9_146 na_X6_has (Nat.le_of_ble_eq_true rfl) (Nat.le_of_ble_eq_true rfl) (by repeat (first | assumption | exact up_s | refine (up_n (by omega)).trans ?_)) rfl (m6_hasF hp.2.2 (inN_not q3)) ?_
      refine ev_if_neF dX9_isJoined_30 43 (by decide) (by first | assumption | exact z_eq (by omega) | decide) ?_
      exact ev_throwS th_X9_isJoined_33 (Nat.le_of_ble_eq_true rfl) rfl
    · first | refine ev_aload_n dX9_isJoined_0 rfl ?_ | refine ev_aload_nN dX9_isJoined_0 rfl ?_
      refine ev_iload_n dX9_isJoined_1 rfl ?_
      refine ev_V1 dX9_isJoined_2 st_RX9_100 na_X9_pairThatIsThere (Nat.le_of_ble_eq_true rfl) (Nat.le_of_ble_eq_true rfl) (by repeat (first | assumption | exact up_s | refine (up_n (by omega)).trans ?_)) rfl (m9_pairT g hi ht) ?_
      refine ev_astore dX9_isJoined_5 (Nat.le_of_ble_eq_true rfl) ?_
      first | refine ev_aload dX9_isJoined_7 rfl ?_ | refine ev_aloadN dX9_isJoined_7 rfl ?_
      refine ev_iconst dX9_isJoined_9 ci0 ?_
      refine ev_V1 dX9_isJoined_10 st_RX9_65 na_X7_ofSide (Nat.le_of_ble_eq_true rfl) (Nat.le_of_ble_eq_true rfl) (by repeat (first | assumption | exact up_s | refine (up_n (by omega)).trans ?_)) rfl (m7_of0 hp) ?_
      refine ev_iload_n dX9_isJoined_13 rfl ?_
      refine ev_V1 dX9_isJoined_14 st_RX9_146 na_X6_has (Nat.le_of_ble_eq_true rfl) (Nat.le_of_ble_eq_true rfl) (by repeat (first | assumption | exact up_s | refine (up_n (by omega)).trans ?_)) rfl (m6_hasF hp.2.1 (inN_not q2)) ?_
      refine ev_if_eqT (tgt := 33) dX9_isJoined_17 (by decide) (by first | assumption | exact z_eq (by omega) | decide) ?_
      exact ev_throwS th_X9_isJoined_33 (Nat.le_of_ble_eq_true rfl) rfl
  · first | refine ev_aload_n dX9_isJoined_0 rfl ?_ | refine ev_aload_nN dX9_isJoined_0 rfl ?_
    refine ev_iload_n dX9_isJoined_1 rfl ?_
    exact ev_callVx (as := [_]) dX9_isJoined_2 st_RX9_100 na_X9_pairThatIsThere (Nat.le_of_ble_eq_true rfl) (Nat.le_of_ble_eq_true rfl) (by repeat (first | assumption | exact up_s | refine (up_n (by omega)).trans ?_)) rfl rfl (m9_pairF g q)
end M9C
