/-! the class from outside: its state, what is thrown -/
def inN (x : Int32) (N : Nat) : Prop := ∃ j, j < N ∧ x = nI j
theorem inN_not {x : Int32} {N : Nat} (h : ¬ inN x N) : x < 0 ∨ ∃ j, N ≤ j ∧ j < 2 ^ 31 ∧ x = nI j := by
  by_cases q : x < 0
  · exact Or.inl q
  · obtain ⟨j, hj, e⟩ := nI_of q
    rcases Nat.lt_or_ge j N with c | c
    · exact absurd ⟨j, c, e⟩ h
    · exact Or.inr ⟨j, c, hj, e⟩
section M9
variable {d n : Nat} {h h' : Hp} {made : Nat} {t : Nat → Nat} {l : Nat → Nat → Nat} {w : Nat → Nat → Nat → Nat} {S : Nat → Nat → Nat} {W : Nat → Nat}
def GS (h : Hp) (made : Nat) (t : Nat → Nat) (l : Nat → Nat → Nat) (w : Nat → Nat → Nat → Nat) (S : Nat → Nat → Nat) (W : Nat → Nat) : Prop :=
  h 2 = .inr (9, [.ref 3, .ref 5, .ref 18, .ref 22, .ref 24, .ref (pp made)]) ∧ Cp h made (sumN t made) t l w ∧ Kn h S W ∧ Pr h (pp made) 0 (l 0 made) (w 0 made) (l 1 made) (w 1 made) ∧
  (∃ a0 a1 B E J, Ah h a0 a1 ∧ h 19 = aI 8 B ∧ h 20 = aI 8 E ∧ h 21 = aI 8 J) ∧ (∃ C F, h 22 = .inr (5, [.ref 23, .int (nI C)]) ∧ h 23 = aI 4 F) ∧
  (∃ P N A, h 24 = .inr (3, [.ref 25, .int (nI P), .int (nI N)]) ∧ h 25 = aL 36 A) ∧ (∃ C F R, h 8 = aL 240 C ∧ h 9 = aI 15 F ∧ h 10 = aR 15 R) ∧ (∃ C F R, h 13 = aL 240 C ∧ h 14 = aI 15 F ∧ h 15 = aR 15 R)
theorem Sn_cg {a len : Nat} {w : Nat → Nat} (e0 : h' a = h a) (e1 : h' (a + 1) = h (a + 1)) (g : Sn h a len w) : Sn h' a len w := ⟨e0.trans g.1, e1.trans g.2.1, g.2.2⟩
theorem Pr_cg {p t l0 l1 : Nat} {w0 w1 : Nat → Nat} (e : ∀ k, k ≤ 4 → h' (p + k) = h (p + k)) (g : Pr h p t l0 w0 l1 w1) : Pr h' p t l0 w0 l1 w1 :=
  ⟨(e 0 (by omega)).trans g.1, Sn_cg (e 1 (by omega)) (e 2 (by omega)) g.2.1, Sn_cg (e 3 (by omega)) (e 4 (by omega)) g.2.2⟩
theorem GS_cg (e : ∀ a, a < 31 ∨ 34 < a → h' a = h a) (g : GS h made t l w S W) : GS h' made t l w S W := by
  obtain ⟨g1, ⟨c1, c2, c3, c4, c5, c6⟩, ⟨k1, k2, k3, k4, k5, k6, k7⟩, g4, ⟨a0, a1, B, E, J, x1, x2, x3, x4⟩, ⟨C1, F1, y1, y2⟩, ⟨P, N, A, z1, z2⟩, ⟨C2, F2, R2, u1, u2, u3⟩, ⟨C3, F3, R3, v1, v2, v3⟩⟩ := g
  have ep : ∀ i, ∀ k, k ≤ 4 → h' (pp i + k) = h (pp i + k) := fun i k hk => e _ (by have := pp_gap i; omega)
  refine ⟨(e _ (by omega)).trans g1, ⟨(e _ (by omega)).trans c1, (e _ (by omega)).trans c2, c3, c4, c5, fun i hi => Pr_cg (ep i) (c6 i hi)⟩, ⟨(e _ (by omega)).trans k1, (e _ (by omega)).trans k2, (e _ (by omega)).trans k3, (e _ (by omega)).trans k4, (e _ (by omega)).trans k5, ⟨(e _ (by omega)).trans k6.1, (e _ (by omega)).trans k6.2.1, k6.2.2⟩, k7⟩, Pr_cg (ep made) g4,
    ⟨a0, a1, B, E, J, (e _ (by omega)).trans x1, (e _ (by omega)).trans x2, (e _ (by omega)).trans x3, (e _ (by omega)).trans x4⟩, ⟨C1, F1, (e _ (by omega)).trans y1, (e _ (by omega)).trans y2⟩, ⟨P, N, A, (e _ (by omega)).trans z1, (e _ (by omega)).trans z2⟩, ⟨C2, F2, R2, (e _ (by omega)).trans u1, (e _ (by omega)).trans u2, (e _ (by omega)).trans u3⟩, ⟨C3, F3, R3, (e _ (by omega)).trans v1, (e _ (by omega)).trans v2, (e _ (by omega)).trans v3⟩⟩
theorem m9_isSideT {D : Nat} (hD : D < 2) : Ev d MX9_isSide 0 (lv_args 0 [.int (nI D)]) [] n h (.inl (some (.int (nI 1))), n, h, 0, 0) := by
  refine ev_iload_n dX9_isSide_0 rfl ?_
  refine ev_if_ltF dX9_isSide_1 13 (by decide) (by first | assumption | exact nI_pos (by omega) | decide) ?_
  refine ev_iload_n dX9_isSide_4 rfl ?_
  refine ev_iconst dX9_isSide_5 ci2 ?_
  refine ev_icmp_geF dX9_isSide_6 13 (by decide) (by first | assumption | exact nI_ge (by omega) (by omega) | decide) ?_
  refine ev_iconst dX9_isSide_9 ci1 ?_
  refine ev_goto (tgt := 14) dX9_isSide_10 (by decide) ?_
  exact ev_zreturnE dX9_isSide_14 rfl (by first | exact Or.inl rfl | exact Or.inr rfl | assumption | exact z01 (bI_01 _) | exact z01 (by omega)) (by rfl)
theorem m9_isSideF {x : Int32} (hx : ¬ inN x 2) : Ev d MX9_isSide 0 (lv_args 0 [.int x]) [] n h (.inl (some (.int (nI 0))), n, h, 0, 0) := by
  rcases inN_not hx with q | ⟨j, q1, q2, rfl⟩
  · refine ev_iload_n dX9_isSide_0 rfl ?_
    refine ev_if_ltT (tgt := 13) dX9_isSide_1 (by decide) (by first | assumption | decide) ?_
    refine ev_iconst dX9_isSide_13 ci0 ?_
    exact ev_zreturnE dX9_isSide_14 rfl (by first | exact Or.inl rfl | exact Or.inr rfl | assumption | exact z01 (bI_01 _) | exact z01 (by omega)) (by rfl)
  · refine ev_iload_n dX9_isSide_0 rfl ?_
    refine ev_if_ltF dX9_isSide_1 13 (by decide) (by first | assumption | exact nI_pos (by omega) | decide) ?_
    refine ev_iload_n dX9_isSide_4 rfl ?_
    refine ev_iconst dX9_isSide_5 ci2 ?_
    refine ev_icmp_geT (tgt := 13) dX9_isSide_6 (by decide) (by first | assumption | exact nI_le (by omega) (by omega) | decide) ?_
    refine ev_iconst dX9_isSide_13 ci0 ?_
    exact ev_zreturnE dX9_isSide_14 rfl (by first | exact Or.inl rfl | exact Or.inr rfl | assumption | exact z01 (bI_01 _) | exact z01 (by omega)) (by rfl)
theorem m9_isWordT {D : Nat} (hD : D < 15) : Ev d MX9_isWord 0 (lv_args 0 [.int (nI D)]) [] n h (.inl (some (.int (nI 1))), n, h, 0, 0) := by
  refine ev_iload_n dX9_isWord_0 rfl ?_
  refine ev_if_ltF dX9_isWord_1 14 (by decide) (by first | assumption | exact nI_pos (by omega) | decide) ?_
  refine ev_iload_n dX9_isWord_4 rfl ?_
  refine ev_bipush dX9_isWord_5 bp15 ?_
  refine ev_icmp_geF dX9_isWord_7 14 (by decide) (by first | assumption | exact nI_ge (by omega) (by omega) | decide) ?_
  refine ev_iconst dX9_isWord_10 ci1 ?_
  refine ev_goto (tgt := 15) dX9_isWord_11 (by decide) ?_
  exact ev_zreturnE dX9_isWord_15 rfl (by first | exact Or.inl rfl | exact Or.inr rfl | assumption | exact z01 (bI_01 _) | exact z01 (by omega)) (by rfl)
theorem m9_isWordF {x : Int32} (hx : ¬ inN x 15) : Ev d MX9_isWord 0 (lv_args 0 [.int x]) [] n h (.inl (some (.int (nI 0))), n, h, 0, 0) := by
  rcases inN_not hx with q | ⟨j, q1, q2, rfl⟩
  · refine ev_iload_n dX9_isWord_0 rfl ?_
    refine ev_if_ltT (tgt := 14) dX9_isWord_1 (by decide) (by first | assumption | decide) ?_
    refine ev_iconst dX9_isWord_14 ci0 ?_
    exact ev_zreturnE dX9_isWord_15 rfl (by first | exact Or.inl rfl | exact Or.inr rfl | assumption | exact z01 (bI_01 _) | exact z01 (by omega)) (by rfl)
  · refine ev_iload_n dX9_isWord_0 rfl ?_
    refine ev_if_ltF dX9_isWord_1 14 (by decide) (by first | assumption | exact nI_pos (by omega) | decide) ?_
    refine ev_iload_n dX9_isWord_4 rfl ?_
    refine ev_bipush dX9_isWord_5 bp15 ?_
    refine ev_icmp_geT (tgt := 14) dX9_isWord_7 (by decide) (by first | assumption | exact nI_le (by omega) (by omega) | decide) ?_
    refine ev_iconst dX9_isWord_14 ci0 ?_
    exact ev_zreturnE dX9_isWord_15 rfl (by first | exact Or.inl rfl | exact Or.inr rfl | assumption | exact z01 (bI_01 _) | exact z01 (by omega)) (by rfl)
/-- a pair that is there -/
def itIs (x : Int32) (made : Nat) (t : Nat → Nat) : Prop := ∃ i, i < made ∧ t i = 1 ∧ x = nI i
theorem itIs_not {x : Int32} (ht : ∀ i, t i = 0 ∨ t i = 1) (h : ¬ itIs x made t) : x < 0 ∨ (∃ i, made ≤ i ∧ i < 2 ^ 31 ∧ x = nI i) ∨ ∃ i, i < made ∧ t i = 0 ∧ x = nI i := by
  by_cases q : x < 0
  · exact Or.inl q
  · obtain ⟨j, hj, e⟩ := nI_of q
    rcases Nat.lt_or_ge j made with c | c
    · refine Or.inr (Or.inr ⟨j, c, (ht j).resolve_right fun c2 => h ⟨j, c, c2, e⟩, e⟩)
    · exact Or.inr (Or.inl ⟨j, c, hj, e⟩)
theorem m9_pairT (g : GS h made t l w S W) {i : Nat} (hi : i < made) (ht : t i = 1) : Ev (d + 2) MX9_pairThatIsThere 0 (lv_args 0 [.ref 2, .int (nI i)]) [] n h (.inl (some (.ref (pp i))), n, h, 0, 0) := by
  have g1 := g.1
  have c1 := g.2.1.1
  first | refine ev_aload_n dX9_pairThatIsThere_0 rfl ?_ | refine ev_aload_nN dX9_pairThatIsThere_0 rfl ?_
  refine ev_getfield dX9_pairThatIsThere_1 fl_RX9_12 (by repeat (first | assumption | exact up_s | refine (up_n (by omega)).trans ?_)) rfl ?_
  refine ev_iload_n dX9_pairThatIsThere_4 rfl ?_
  refine ev_V1 dX9_pairThatIsThere_5 st_RX9_186 na_X1_find (Nat.le_of_ble_eq_true rfl) (Nat.le_of_ble_eq_true rfl) (by repeat (first | assumption | exact up_s | refine (up_n (by omega)).trans ?_)) rfl (m1_findT g.2.1 hi ht) ?_
  first | refine ev_astore_n dX9_pairThatIsThere_8 (Nat.le_of_ble_eq_true rfl) ?_ | refine ev_astore_nN dX9_pairThatIsThere_8 (Nat.le_of_ble_eq_true rfl) ?_
  first | refine ev_aload_n dX9_pairThatIsThere_9 rfl ?_ | refine ev_aload_nN dX9_pairThatIsThere_9 rfl ?_
  refine ev_ifnonnull (tgt := 23) dX9_pairThatIsThere_10 (by decide) ?_
  first | refine ev_aload_n dX9_pairThatIsThere_23 rfl ?_ | refine ev_aload_nN dX9_pairThatIsThere_23 rfl ?_
  exact ev_areturnE dX9_pairThatIsThere_24 rfl (by first | exact Or.inl rfl | exact Or.inr ⟨_, rfl⟩) (by rfl)
theorem m9_pairF (g : GS h made t l w S W) {x : Int32} (hx : ¬ itIs x made t) : Ev (d + 2) MX9_pairThatIsThere 0 (lv_args 0 [.ref 2, .int x]) [] n h (.inr "java/lang/IndexOutOfBoundsException", n, h, 1, 6) := by
  have g1 := g.1
  have c1 := g.2.1.1
  first | refine ev_aload_n dX9_pairThatIsThere_0 rfl ?_ | refine ev_aload_nN dX9_pairThatIsThere_0 rfl ?_
  refine ev_getfield dX9_pairThatIsThere_1 fl_RX9_12 (by repeat (first | assumption | exact up_s | refine (up_n (by omega)).trans ?_)) rfl ?_
  refine ev_iload_n dX9_pairThatIsThere_4 rfl ?_
  refine ev_V1 dX9_pairThatIsThere_5 st_RX9_186 na_X1_find (Nat.le_of_ble_eq_true rfl) (Nat.le_of_ble_eq_true rfl) (by repeat (first | assumption | exact up_s | refine (up_n (by omega)).trans ?_)) rfl (m1_findF g.2.1 (itIs_not g.2.1.2.2.2.2.1 hx)) ?_
  first | refine ev_astore_n dX9_pairThatIsThere_8 (Nat.le_of_ble_eq_true rfl) ?_ | refine ev_astore_nN dX9_pairThatIsThere_8 (Nat.le_of_ble_eq_true rfl) ?_
  first | refine ev_aload_n dX9_pairThatIsThere_9 rfl ?_ | refine ev_aload_nN dX9_pairThatIsThere_9 rfl ?_
  refine ev_ifnonnullN dX9_pairThatIsThere_10 ?_
  exact ev_throwS th_X9_pairThatIsThere_13 (Nat.le_of_ble_eq_true rfl) rfl
theorem m9_pairs (g : GS h made t l w S W) : Ev (d + 1) MX9_pairs 0 (lv_args 0 [.ref 2]) [] n h (.inl (some (.int (nI (sumN t made)))), n, h, 0, 0) := by
  have g1 := g.1
  have c1 := g.2.1.1
  first | refine ev_aload_n dX9_pairs_0 rfl ?_ | refine ev_aload_nN dX9_pairs_0 rfl ?_
  refine ev_getfield dX9_pairs_1 fl_RX9_12 (by repeat (first | assumption | exact up_s | refine (up_n (by omega)).trans ?_)) rfl ?_
  refine ev_V0 dX9_pairs_4 st_RX9_108 na_X1_size (Nat.le_of_ble_eq_true rfl) (Nat.le_of_ble_eq_true rfl) (by repeat (first | assumption | exact up_s | refine (up_n (by omega)).trans ?_)) rfl (m1_size g.2.1) ?_
  exact ev_ireturnE dX9_pairs_7 rfl (by rfl)
end M9
