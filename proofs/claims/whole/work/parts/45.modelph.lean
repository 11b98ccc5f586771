/-! the model: joined, phrases, phrase -/
section MK
variable {d n : Nat} {h h' : Hp} {made th : Nat} {t : Nat → Nat} {l : Nat → Nat → Nat} {w : Nat → Nat → Nat → Nat} {S : Nat → Nat → Nat} {W : Nat → Nat} {F : Nat → Nat}
theorem mm_isJoinedT (q : WF made t l w S W) (g : MS h th made t l w S W) {i j o : Nat} (hi : i < made) (ht : t i = 1) (hj : j < l 0 i) (ho : o < l 1 i) : ∃ h', Ev (d + 3) MX10_isJoined 0 (lv_args 0 [.ref 31, .int (nI i), .int (nI j), .int (nI o)]) [] n h (.inl (some (.int (nI (bI (JJ S W l w i j &&& 2 ^ o ≠ 0))))), n, h', 0, 0) ∧ MS h' 0 made t l w S W ∧ Fm h h' := by
  obtain ⟨⟨F, g31⟩, ga⟩ := g
  have h0 := q.2.2.1 0 i (by omega) (by omega)
  have h1 := q.2.2.1 1 i (by omega) (by omega)
  obtain ⟨L, R, fi⟩ := mm_finds (d := d) (n := n) (h := va_up h 31 (MO made F 0)) (F := F) (th := 0) q up_s (MA_31 ga) hi
  have G31 : FX (va_up h 31 (MO made F 0)) L (JJ S W l w i) R 31 = MO made F 0 := FX_31 up_s
  have G43 : FX (va_up h 31 (MO made F 0)) L (JJ S W l w i) R 43 = aZ 64 (cut (JJ S W l w i) R) := FX_43
  have e1 : cut (JJ S W l w i) R (8 * j + o) = bI (JJ S W l w i j &&& 2 ^ o ≠ 0) := by
    rw [cut_lt (by omega), jm_at (by omega)]
    by_cases z : (JJ S W l w i j).testBit o = true
    · rw [if_pos z, bI_t (and_bit.mpr z)]
    · rw [if_neg z, bI_f (fun y => z (and_bit.mp y))]
  have e2 := bI_01 (JJ S W l w i j &&& 2 ^ o ≠ 0)
  refine ⟨FX (va_up h 31 (MO made F 0)) L (JJ S W l w i) R, ?_, ⟨⟨F, G31⟩, MA_FX (MA_31 ga)⟩, Fm_trans (Fm_up Fm_rfl (by omega)) Fm_FX⟩
  rw [← e1] at e2 ⊢
  first | refine ev_aload_n dX10_isJoined_0 rfl ?_ | refine ev_aload_nN dX10_isJoined_0 rfl ?_
  first | refine ev_aload_n dX10_isJoined_1 rfl ?_ | refine ev_aload_nN dX10_isJoined_1 rfl ?_
  refine ev_iload_n dX10_isJoined_2 rfl ?_
  refine ev_iconst dX10_isJoined_3 ci0 ?_
  refine ev_iload_n dX10_isJoined_4 rfl ?_
  refine ev_V3 dX10_isJoined_5 st_RX10_138 na_X10_isPlace (Nat.le_of_ble_eq_true rfl) (Nat.le_of_ble_eq_true rfl) (by repeat (first | assumption | exact up_s | refine (up_n (by omega)).trans ?_)) rfl (mm_isPlaceT q g31 ga hi ht (show 0 < 2 by omega) hj) ?_
  refine ev_if_eqF dX10_isJoined_8 25 (by decide) (by first | assumption | exact nI_ne0 (by omega) (by omega) | decide) ?_
  first | refine ev_aload_n dX10_isJoined_11 rfl ?_ | refine ev_aload_nN dX10_isJoined_11 rfl ?_
  refine ev_iload_n dX10_isJoined_12 rfl ?_
  refine ev_iconst dX10_isJoined_13 ci1 ?_
  refine ev_iload_n dX10_isJoined_14 rfl ?_
  refine ev_V3 dX10_isJoined_15 st_RX10_138 na_X10_isPlace (Nat.le_of_ble_eq_true rfl) (Nat.le_of_ble_eq_true rfl) (by repeat (first | assumption | exact up_s | refine (up_n (by omega)).trans ?_)) rfl (mm_isPlaceT q g31 ga hi ht (show 1 < 2 by omega) ho) ?_
  refine ev_if_eqF dX10_isJoined_18 25 (by decide) (by first | assumption | exact nI_ne0 (by omega) (by omega) | decide) ?_
  refine ev_iconst dX10_isJoined_21 ci1 ?_
  refine ev_goto (tgt := 26) dX10_isJoined_22 (by decide) ?_
  refine ev_iconst dX10_isJoined_26 ci1 ?_
  refine ev_iconst dX10_isJoined_27 ci1 ?_
  refine ev_V3 dX10_isJoined_28 st_RX10_59 na_X10_goes (Nat.le_of_ble_eq_true rfl) (Nat.le_of_ble_eq_true rfl) (by repeat (first | assumption | exact up_s | refine (up_n (by omega)).trans ?_)) rfl (mm_goesT g31) ?_
  refine ev_if_neT (tgt := 36) dX10_isJoined_31 (by decide) (by first | assumption | exact nI_ne0 (by omega) (by omega) | decide) ?_
  first | refine ev_aload_n dX10_isJoined_36 rfl ?_ | refine ev_aload_nN dX10_isJoined_36 rfl ?_
  refine ev_iload_n dX10_isJoined_37 rfl ?_
  refine ev_V1v dX10_isJoined_38 st_RX10_119 na_X10_finds (Nat.le_of_ble_eq_true rfl) (Nat.le_of_ble_eq_true rfl) (by repeat (first | assumption | exact up_s | refine (up_n (by omega)).trans ?_)) rfl (fi) ?_
  first | refine ev_aload_n dX10_isJoined_41 rfl ?_ | refine ev_aload_nN dX10_isJoined_41 rfl ?_
  refine ev_getfield dX10_isJoined_42 fl_RX10_45 (by repeat (first | assumption | exact up_s | refine (up_n (by omega)).trans ?_)) rfl ?_
  refine ev_bipush dX10_isJoined_45 bp8 ?_
  refine ev_iload_n dX10_isJoined_47 rfl ?_
  first | refine ev_imulN dX10_isJoined_48 ?_ | refine ev_imul dX10_isJoined_48 ?_
  refine ev_iload_n dX10_isJoined_49 rfl ?_
  first | refine ev_iaddN dX10_isJoined_50 ?_ | refine ev_iadd dX10_isJoined_50 ?_
  refine ev_bald dX10_isJoined_51 (by repeat (first | assumption | exact up_s | refine (up_n (by omega)).trans ?_)) _ rfl (by omega) (by omega) ?_
  exact ev_zreturnE dX10_isJoined_52 rfl (z01 e2) rfl
theorem mm_isJoinedF (q : WF made t l w S W) (g : MS h th made t l w S W) {x y z : Int32} (hx : ¬ itIs x made t ∨ ∀ i, i < made → x = nI i → ¬ inN y (l 0 i) ∨ ¬ inN z (l 1 i)) : ∃ h' v, Ev (d + 3) MX10_isJoined 0 (lv_args 0 [.ref 31, .int x, .int y, .int z]) [] n h (.inl (some (.int v)), n, h', 0, 0) ∧ MS h' 1 made t l w S W ∧ Fm h h' := by
  obtain ⟨⟨F, g31⟩, ga⟩ := g
  refine ⟨va_up h 31 (MO made F 1), nI 0, ?_, ⟨⟨F, up_s⟩, MA_31 ga⟩, Fm_up Fm_rfl (by omega)⟩
  by_cases q1 : itIs x made t ∧ ∃ i, i < made ∧ x = nI i ∧ inN y (l 0 i)
  · obtain ⟨q1, i, hi, e, q2⟩ := q1
    obtain ⟨i', hi', ht, e'⟩ := q1
    have hm := q.1
    have ei : i = i' := (nI_eq (by omega) (by omega)).mp (e.symm.trans e')
    subst ei
    subst e
    obtain ⟨j, hj, rfl⟩ := q2
    have q3 : ¬ itIs (nI i) made t ∨ ∀ i2, i2 < made → nI i = nI i2 → ¬ inN z (l 1 i2) := Or.inr fun i2 h2 e2 => by
      have e3 : i = i2 := (nI_eq (by omega) (by omega)).mp e2
      subst e3
      exact (hx.resolve_left (fun c => c ⟨i, hi, ht, rfl⟩) i hi rfl).resolve_left (fun c => c ⟨j, hj, rfl⟩)
    first | refine ev_aload_n dX10_isJoined_0 rfl ?_ | refine ev_aload_nN dX10_isJoined_0 rfl ?_
    first | refine ev_aload_n dX10_isJoined_1 rfl ?_ | refine ev_aload_nN dX10_isJoined_1 rfl ?_
    refine ev_iload_n dX10_isJoined_2 rfl ?_
    refine ev_iconst dX10_isJoined_3 ci0 ?_
    refine ev_iload_n dX10_isJoined_4 rfl ?_
    refine ev_V3 dX10_isJoined_5 st_RX10_138 na_X10_isPlace (Nat.le_of_ble_eq_true rfl) (Nat.le_of_ble_eq_true rfl) (by repeat (first | assumption | exact up_s | refine (up_n (by omega)).trans ?_)) rfl (mm_isPlaceT q g31 ga hi ht (show 0 < 2 by omega) hj) ?_
    refine ev_if_eqF dX10_isJoined_8 25 (by decide) (by first | assumption | exact nI_ne0 (by omega) (by omega) | decide) ?_
    first | refine ev_aload_n dX10_isJoined_11 rfl ?_ | refine ev_aload_nN dX10_isJoined_11 rfl ?_
    refine ev_iload_n dX10_isJoined_12 rfl ?_
    refine ev_iconst dX10_isJoined_13 ci1 ?_
    refine ev_iload_n dX10_isJoined_14 rfl ?_
    refine ev_V3 dX10_isJoined_15 st_RX10_138 na_X10_isPlace (Nat.le_of_ble_eq_true rfl) (Nat.le_of_ble_eq_true rfl) (by repeat (first | assumption | exact up_s | refine (up_n (by omega)).trans ?_)) rfl (mm_isPlaceF q g31 ga (show 1 < 2 by omega) q3) ?_
    refine ev_if_eqT (tgt := 25) dX10_isJoined_18 (by decide) (by first | assumption | exact z_eq (by omega) | decide) ?_
    refine ev_iconst dX10_isJoined_25 ci0 ?_
    refine ev_iconst dX10_isJoined_26 ci1 ?_
    refine ev_iconst dX10_isJoined_27 ci1 ?_
    refine ev_V3 dX10_isJoined_28 st_RX10_59 na_X10_goes (Nat.le_of_ble_eq_true rfl) (Nat.le_of_ble_eq_true rfl) (by repeat (first | assumption | exact up_s | refine (up_n (by omega)).trans ?_)) rfl (mm_goes1 g31) ?_
    refine ev_if_neF dX10_isJoined_31 36 (by decide) (by first | assumption | exact z_eq (by omega) | decide) ?_
    refine ev_iconst dX10_isJoined_34 ci0 ?_
    exact ev_zreturnE dX10_isJoined_35 rfl (by first | exact Or.inl rfl | exact Or.inr rfl | assumption | exact z01 (bI_01 _) | exact z01 (by omega)) (by rfl)
  · have q3 : ¬ itIs x made t ∨ ∀ i, i < made → x = nI i → ¬ inN y (l 0 i) := by
      by_cases z1 : itIs x made t
      · exact Or.inr fun i hi e c => q1 ⟨z1, i, hi, e, c⟩
      · exact Or.inl z1
    first | refine ev_aload_n dX10_isJoined_0 rfl ?_ | refine ev_aload_nN dX10_isJoined_0 rfl ?_
    first | refine ev_aload_n dX10_isJoined_1 rfl ?_ | refine ev_aload_nN dX10_isJoined_1 rfl ?_
    refine ev_iload_n dX10_isJoined_2 rfl ?_
    refine ev_iconst dX10_isJoined_3 ci0 ?_
    refine ev_iload_n dX10_isJoined_4 rfl ?_
    refine ev_V3 dX10_isJoined_5 st_RX10_138 na_X10_isPlace (Nat.le_of_ble_eq_true rfl) (Nat.le_of_ble_eq_true rfl) (by repeat (first | assumption | exact up_s | refine (up_n (by omega)).trans ?_)) rfl (mm_isPlaceF q g31 ga (show 0 < 2 by omega) q3) ?_
    refine ev_if_eqT (tgt := 25) dX10_isJoined_8 (by decide) (by first | assumption | exact z_eq (by omega) | decide) ?_
    refine ev_iconst dX10_isJoined_25 ci0 ?_
    refine ev_iconst dX10_isJoined_26 ci1 ?_
    refine ev_iconst dX10_isJoined_27 ci1 ?_
    refine ev_V3 dX10_isJoined_28 st_RX10_59 na_X10_goes (Nat.le_of_ble_eq_true rfl) (Nat.le_of_ble_eq_true rfl) (by repeat (first | assumption | exact up_s | refine (up_n (by omega)).trans ?_)) rfl (mm_goes1 g31) ?_
    refine ev_if_neF dX10_isJoined_31 36 (by decide) (by first | assumption | exact z_eq (by omega) | decide) ?_
    refine ev_iconst dX10_isJoined_34 ci0 ?_
    exact ev_zreturnE dX10_isJoined_35 rfl (by first | exact Or.inl rfl | exact Or.inr rfl | assumption | exact z01 (bI_01 _) | exact z01 (by omega)) (by rfl)
theorem mm_phrasesT (q : WF made t l w S W) (g : MS h th made t l w S W) {i : Nat} (hi : i < made) (ht : t i = 1) : ∃ h', Ev (d + 4) MX10_phrases 0 (lv_args 0 [.ref 31, .int (nI i)]) [] n h (.inl (some (.int (nI (phN S W l w i)))), n, h', 0, 0) ∧ MS h' 0 made t l w S W ∧ Fm h h' := by
  obtain ⟨⟨F, g31⟩, ga⟩ := g
  obtain ⟨go, b5, c5⟩ := ga.2.2.2.2.1
  obtain ⟨L, R, me⟩ := mm_meets (d := d) (n := n) (h := va_up h 31 (MO made F 0)) (F := F) (th := 0) (wt := -1) q up_s (MA_31 ga) hi
  refine ⟨MX (FX (va_up h 31 (MO made F 0)) L (JJ S W l w i) R) made (phS S W l w i (-1) F) 0, ?_, ⟨⟨_, up_s⟩, MA_31 (MA_FX (MA_31 ga))⟩, Fm_up (Fm_trans (Fm_up Fm_rfl (by omega)) Fm_FX) (by omega)⟩
  first | refine ev_aload_n dX10_phrases_0 rfl ?_ | refine ev_aload_nN dX10_phrases_0 rfl ?_
  first | refine ev_aload_n dX10_phrases_1 rfl ?_ | refine ev_aload_nN dX10_phrases_1 rfl ?_
  refine ev_iload_n dX10_phrases_2 rfl ?_
  refine ev_V1 dX10_phrases_3 st_RX10_67 na_X10_isThere (Nat.le_of_ble_eq_true rfl) (Nat.le_of_ble_eq_true rfl) (by repeat (first | assumption | exact up_s | refine (up_n (by omega)).trans ?_)) rfl (mm_isThereT g31 b5 c5 q.1 hi ht) ?_
  refine ev_iconst dX10_phrases_6 ci1 ?_
  refine ev_iconst dX10_phrases_7 ci1 ?_
  refine ev_V3 dX10_phrases_8 st_RX10_59 na_X10_goes (Nat.le_of_ble_eq_true rfl) (Nat.le_of_ble_eq_true rfl) (by repeat (first | assumption | exact up_s | refine (up_n (by omega)).trans ?_)) rfl (mm_goesT g31) ?_
  refine ev_if_eqF dX10_phrases_11 23 (by decide) (by first | assumption | exact nI_ne0 (by omega) (by omega) | decide) ?_
  first | refine ev_aload_n dX10_phrases_14 rfl ?_ | refine ev_aload_nN dX10_phrases_14 rfl ?_
  refine ev_iload_n dX10_phrases_15 rfl ?_
  refine ev_iconst dX10_phrases_16 cm1 ?_
  refine ev_V2 dX10_phrases_17 st_RX10_141 na_X10_meets (Nat.le_of_ble_eq_true rfl) (Nat.le_of_ble_eq_true rfl) (by repeat (first | assumption | exact up_s | refine (up_n (by omega)).trans ?_)) rfl (me) ?_
  refine ev_goto (tgt := 24) dX10_phrases_20 (by decide) ?_
  exact ev_ireturnE dX10_phrases_24 rfl (by rfl)
theorem mm_phrasesF (q : WF made t l w S W) (g : MS h th made t l w S W) {x : Int32} (hx : ¬ itIs x made t) : ∃ h' v, Ev (d + 4) MX10_phrases 0 (lv_args 0 [.ref 31, .int x]) [] n h (.inl (some (.int v)), n, h', 0, 0) ∧ MS h' 1 made t l w S W ∧ Fm h h' := by
  obtain ⟨⟨F, g31⟩, ga⟩ := g
  obtain ⟨go, b5, c5⟩ := ga.2.2.2.2.1
  refine ⟨va_up h 31 (MO made F 1), nI 0, ?_, ⟨⟨F, up_s⟩, MA_31 ga⟩, Fm_up Fm_rfl (by omega)⟩
  first | refine ev_aload_n dX10_phrases_0 rfl ?_ | refine ev_aload_nN dX10_phrases_0 rfl ?_
  first | refine ev_aload_n dX10_phrases_1 rfl ?_ | refine ev_aload_nN dX10_phrases_1 rfl ?_
  refine ev_iload_n dX10_phrases_2 rfl ?_
  refine ev_V1 dX10_phrases_3 st_RX10_67 na_X10_isThere (Nat.le_of_ble_eq_true rfl) (Nat.le_of_ble_eq_true rfl) (by repeat (first | assumption | exact up_s | refine (up_n (by omega)).trans ?_)) rfl (mm_isThereF g31 b5 c5 q.1 q.2.1 hx) ?_
  refine ev_iconst dX10_phrases_6 ci1 ?_
  refine ev_iconst dX10_phrases_7 ci1 ?_
  refine ev_V3 dX10_phrases_8 st_RX10_59 na_X10_goes (Nat.le_of_ble_eq_true rfl) (Nat.le_of_ble_eq_true rfl) (by repeat (first | assumption | exact up_s | refine (up_n (by omega)).trans ?_)) rfl (mm_goes1 g31) ?_
  refine ev_if_eqT (tgt := 23) dX10_phrases_11 (by decide) (by first | assumption | exact z_eq (by omega) | decide) ?_
  refine ev_iconst dX10_phrases_23 ci0 ?_
  exact ev_ireturnE dX10_phrases_24 rfl (by rfl)
theorem mm_phraseF (q : WF made t l w S W) (g : MS h th made t l w S W) {x y z : Int32} (hx : ¬ itIs x made t) : ∃ h' v, Ev (d + 4) MX10_phrase 0 (lv_args 0 [.ref 31, .int x, .int y, .int z]) [] n h (.inl (some (.int v)), n, h', 0, 0) ∧ MS h' 1 made t l w S W ∧ Fm h h' := by
  obtain ⟨⟨F, g31⟩, ga⟩ := g
  obtain ⟨go, b5, c5⟩ := ga.2.2.2.2.1
  refine ⟨va_up h 31 (MO made F 1), nI 0, ?_, ⟨⟨F, up_s⟩, MA_31 ga⟩, Fm_up Fm_rfl (by omega)⟩
  by_cases q2 : inN z 4
  · obtain ⟨k, hk, rfl⟩ := q2
    first | refine ev_aload_n dX10_phrase_0 rfl ?_ | refine ev_aload_nN dX10_phrase_0 rfl ?_
    refine ev_iload_n dX10_phrase_1 rfl ?_
    refine ev_V1 dX10_phrase_2 st_RX10_67 na_X10_isThere (Nat.le_of_ble_eq_true rfl) (Nat.le_of_ble_eq_true rfl) (by repeat (first | assumption | exact up_s | refine (up_n (by omega)).trans ?_)) rfl (mm_isThereF g31 b5 c5 q.1 q.2.1 hx) ?_
    refine ev_if_eqT (tgt := 26) dX10_phrase_5 (by decide) (by first | assumption | exact z_eq (by omega) | decide) ?_
    refine ev_iconst dX10_phrase_26 ci0 ?_
    refine ev_istore dX10_phrase_27 (Nat.le_of_ble_eq_true rfl) ?_
    first | refine ev_aload_n dX10_phrase_29 rfl ?_ | refine ev_aload_nN dX10_phrase_29 rfl ?_
    refine ev_iload dX10_phrase_30 rfl ?_
    refine ev_iload_n dX10_phrase_32 rfl ?_
    refine ev_iconst dX10_phrase_33 ci0 ?_
    refine ev_iconst dX10_phrase_34 ci3 ?_
    refine ev_S3 dX10_phrase_35 st_RX10_55 na_X10_in (Nat.le_of_ble_eq_true rfl) (Nat.le_of_ble_eq_true rfl) (mm_inT (by omega) (show k ≤ 3 by omega) (by omega)) ?_
    refine ev_iconst dX10_phrase_38 ci1 ?_
    refine ev_V3 dX10_phrase_39 st_RX10_59 na_X10_goes (Nat.le_of_ble_eq_true rfl) (Nat.le_of_ble_eq_true rfl) (by repeat (first | assumption | exact up_s | refine (up_n (by omega)).trans ?_)) rfl (mm_goes1 g31) ?_
    refine ev_if_neF dX10_phrase_42 47 (by decide) (by first | assumption | exact z_eq (by omega) | decide) ?_
    refine ev_iconst dX10_phrase_45 ci0 ?_
    exact ev_ireturnE dX10_phrase_46 rfl (by rfl)
  · first | refine ev_aload_n dX10_phrase_0 rfl ?_ | refine ev_aload_nN dX10_phrase_0 rfl ?_
    refine ev_iload_n dX10_phrase_1 rfl ?_
    refine ev_V1 dX10_phrase_2 st_RX10_67 na_X10_isThere (Nat.le_of_ble_eq_true rfl) (Nat.le_of_ble_eq_true rfl) (by repeat (first | assumption | exact up_s | refine (up_n (by omega)).trans ?_)) rfl (mm_isThereF g31 b5 c5 q.1 q.2.1 hx) ?_
    refine ev_if_eqT (tgt := 26) dX10_phrase_5 (by decide) (by first | assumption | exact z_eq (by omega) | decide) ?_
    refine ev_iconst dX10_phrase_26 ci0 ?_
    refine ev_istore dX10_phrase_27 (Nat.le_of_ble_eq_true rfl) ?_
    first | refine ev_aload_n dX10_phrase_29 rfl ?_ | refine ev_aload_nN dX10_phrase_29 rfl ?_
    refine ev_iload dX10_phrase_30 rfl ?_
    refine ev_iload_n dX10_phrase_32 rfl ?_
    refine ev_iconst dX10_phrase_33 ci0 ?_
    refine ev_iconst dX10_phrase_34 ci3 ?_
    refine ev_S3 dX10_phrase_35 st_RX10_55 na_X10_in (Nat.le_of_ble_eq_true rfl) (Nat.le_of_ble_eq_true rfl) (mm_inF (N := 4) (by omega) (by omega) q2) ?_
    refine ev_iconst dX10_phrase_38 ci1 ?_
    refine ev_V3 dX10_phrase_39 st_RX10_59 na_X10_goes (Nat.le_of_ble_eq_true rfl) (Nat.le_of_ble_eq_true rfl) (by repeat (first | assumption | exact up_s | refine (up_n (by omega)).trans ?_)) rfl (mm_goes1 g31) ?_
    refine ev_if_neF dX10_phrase_42 47 (by decide) (by first | assumption | exact z_eq (by omega) | decide) ?_
    refine ev_iconst dX10_phrase_45 ci0 ?_
    exact ev_ireturnE dX10_phrase_46 rfl (by rfl)
theorem mm_phrase1 (q : WF made t l w S W) (g : MS h th made t l w S W) {i : Nat} (hi : i < made) (ht : t i = 1) {y z : Int32} (hy : ¬ inN y (phN S W l w i)) : ∃ h' v, Ev (d + 4) MX10_phrase 0 (lv_args 0 [.ref 31, .int (nI i), .int y, .int z]) [] n h (.inl (some (.int v)), n, h', 0, 0) ∧ MS h' 1 made t l w S W ∧ Fm h h' := by
  obtain ⟨⟨F, g31⟩, ga⟩ := g
  obtain ⟨go, b5, c5⟩ := ga.2.2.2.2.1
  have h0 := q.2.2.1 0 i (by omega) (by omega)
  have h1 := q.2.2.1 1 i (by omega) (by omega)
  have hN := phN_le (S := S) (W := W) (w := w) h0 h1
  have gin : ∃ b : Nat, ∀ (h : Hp), Ev (d + 3) MX10_in 0 (lv_args 0 [.int z, .int (nI 0), .int (nI 3)]) [] n h (.inl (some (.int (nI b))), n, h, 0, 0) := by
    by_cases q2 : inN z 4
    · obtain ⟨k, hk, rfl⟩ := q2
      exact ⟨1, fun h => mm_inT (by omega) (show k ≤ 3 by omega) (by omega)⟩
    · exact ⟨0, fun h => mm_inF (N := 4) (by omega) (by omega) q2⟩
  obtain ⟨b, hin⟩ := gin
  rcases inN_not hy with q3 | ⟨j, q3, q4, rfl⟩
  · refine ⟨va_up h 31 (MO made F 1), nI 0, ?_, ⟨⟨F, up_s⟩, MA_31 ga⟩, Fm_up Fm_rfl (by omega)⟩
    first | refine ev_aload_n dX10_phrase_0 rfl ?_ | refine ev_aload_nN dX10_phrase_0 rfl ?_
    refine ev_iload_n dX10_phrase_1 rfl ?_
    refine ev_V1 dX10_phrase_2 st_RX10_67 na_X10_isThere (Nat.le_of_ble_eq_true rfl) (Nat.le_of_ble_eq_true rfl) (by repeat (first | assumption | exact up_s | refine (up_n (by omega)).trans ?_)) rfl (mm_isThereT g31 b5 c5 q.1 hi ht) ?_
    refine ev_if_eqF dX10_phrase_5 26 (by decide) (by first | assumption | exact nI_ne0 (by omega) (by omega) | decide) ?_
    refine ev_iload_n dX10_phrase_8 rfl ?_
    refine ev_if_ltT (tgt := 26) dX10_phrase_9 (by decide) q3 ?_
    refine ev_iconst dX10_phrase_26 ci0 ?_
    refine ev_istore dX10_phrase_27 (Nat.le_of_ble_eq_true rfl) ?_
    first | refine ev_aload_n dX10_phrase_29 rfl ?_ | refine ev_aload_nN dX10_phrase_29 rfl ?_
    refine ev_iload dX10_phrase_30 rfl ?_
    refine ev_iload_n dX10_phrase_32 rfl ?_
    refine ev_iconst dX10_phrase_33 ci0 ?_
    refine ev_iconst dX10_phrase_34 ci3 ?_
    refine ev_S3 dX10_phrase_35 st_RX10_55 na_X10_in (Nat.le_of_ble_eq_true rfl) (Nat.le_of_ble_eq_true rfl) (hin _) ?_
    refine ev_iconst dX10_phrase_38 ci1 ?_
    refine ev_V3 dX10_phrase_39 st_RX10_59 na_X10_goes (Nat.le_of_ble_eq_true rfl) (Nat.le_of_ble_eq_true rfl) (by repeat (first | assumption | exact up_s | refine (up_n (by omega)).trans ?_)) rfl (mm_goes1 g31) ?_
    refine ev_if_neF dX10_phrase_42 47 (by decide) (by first | assumption | exact z_eq (by omega) | decide) ?_
    refine ev_iconst dX10_phrase_45 ci0 ?_
    exact ev_ireturnE dX10_phrase_46 rfl (by rfl)
  · obtain ⟨L, R, me⟩ := mm_meets (d := d) (n := n) (h := h) (F := F) (th := th) (wt := nI j) q g31 ga hi
    refine ⟨va_up (MX (FX h L (JJ S W l w i) R) made (phS S W l w i (nI j) F) th) 31 (MO made (phS S W l w i (nI j) F).2 1), nI 0, ?_, ⟨⟨_, up_s⟩, MA_31 (MA_31 (MA_FX ga))⟩, Fm_up (Fm_up Fm_FX (by omega)) (by omega)⟩
    first | refine ev_aload_n dX10_phrase_0 rfl ?_ | refine ev_aload_nN dX10_phrase_0 rfl ?_
    refine ev_iload_n dX10_phrase_1 rfl ?_
    refine ev_V1 dX10_phrase_2 st_RX10_67 na_X10_isThere (Nat.le_of_ble_eq_true rfl) (Nat.le_of_ble_eq_true rfl) (by repeat (first | assumption | exact up_s | refine (up_n (by omega)).trans ?_)) rfl (mm_isThereT g31 b5 c5 q.1 hi ht) ?_
    refine ev_if_eqF dX10_phrase_5 26 (by decide) (by first | assumption | exact nI_ne0 (by omega) (by omega) | decide) ?_
    refine ev_iload_n dX10_phrase_8 rfl ?_
    refine ev_if_ltF dX10_phrase_9 26 (by decide) (by first | assumption | exact nI_pos (by omega) | decide) ?_
    first | refine ev_aload_n dX10_phrase_12 rfl ?_ | refine ev_aload_nN dX10_phrase_12 rfl ?_
    refine ev_iload_n dX10_phrase_13 rfl ?_
    refine ev_iload_n dX10_phrase_14 rfl ?_
    refine ev_V2 dX10_phrase_15 st_RX10_141 na_X10_meets (Nat.le_of_ble_eq_true rfl) (Nat.le_of_ble_eq_true rfl) (by repeat (first | assumption | exact up_s | refine (up_n (by omega)).trans ?_)) rfl (me) ?_
    refine ev_iload_n dX10_phrase_18 rfl ?_
    refine ev_icmp_leT (tgt := 26) dX10_phrase_19 (by decide) (by first | assumption | exact nI_le (by omega) (by omega) | decide) ?_
    refine ev_iconst dX10_phrase_26 ci0 ?_
    refine ev_istore dX10_phrase_27 (Nat.le_of_ble_eq_true rfl) ?_
    first | refine ev_aload_n dX10_phrase_29 rfl ?_ | refine ev_aload_nN dX10_phrase_29 rfl ?_
    refine ev_iload dX10_phrase_30 rfl ?_
    refine ev_iload_n dX10_phrase_32 rfl ?_
    refine ev_iconst dX10_phrase_33 ci0 ?_
    refine ev_iconst dX10_phrase_34 ci3 ?_
    refine ev_S3 dX10_phrase_35 st_RX10_55 na_X10_in (Nat.le_of_ble_eq_true rfl) (Nat.le_of_ble_eq_true rfl) (hin _) ?_
    refine ev_iconst dX10_phrase_38 ci1 ?_
    refine ev_V3 dX10_phrase_39 st_RX10_59 na_X10_goes (Nat.le_of_ble_eq_true rfl) (Nat.le_of_ble_eq_true rfl) (by repeat (first | assumption | exact up_s | refine (up_n (by omega)).trans ?_)) rfl (mm_goes1 (F := (phS S W l w i (nI j) F).2) (th := th) up_s) ?_
    refine ev_if_neF dX10_phrase_42 47 (by decide) (by first | assumption | exact z_eq (by omega) | decide) ?_
    refine ev_iconst dX10_phrase_45 ci0 ?_
    exact ev_ireturnE dX10_phrase_46 rfl (by rfl)
theorem mm_phrase2 (q : WF made t l w S W) (g : MS h th made t l w S W) {i K : Nat} (hi : i < made) (ht : t i = 1) {z : Int32} (hy : K < phN S W l w i) (hz : ¬ inN z 4) : ∃ h' v, Ev (d + 4) MX10_phrase 0 (lv_args 0 [.ref 31, .int (nI i), .int (nI K), .int z]) [] n h (.inl (some (.int v)), n, h', 0, 0) ∧ MS h' 2 made t l w S W ∧ Fm h h' := by
  obtain ⟨⟨F, g31⟩, ga⟩ := g
  obtain ⟨go, b5, c5⟩ := ga.2.2.2.2.1
  have h0 := q.2.2.1 0 i (by omega) (by omega)
  have h1 := q.2.2.1 1 i (by omega) (by omega)
  have hN := phN_le (S := S) (W := W) (w := w) h0 h1
  obtain ⟨L, R, me⟩ := mm_meets (d := d) (n := n) (h := h) (F := F) (th := th) (wt := nI K) q g31 ga hi
  refine ⟨va_up (MX (FX h L (JJ S W l w i) R) made (phS S W l w i (nI K) F) th) 31 (MO made (phS S W l w i (nI K) F).2 2), nI 0, ?_, ⟨⟨_, up_s⟩, MA_31 (MA_31 (MA_FX ga))⟩, Fm_up (Fm_up Fm_FX (by omega)) (by omega)⟩
  first | refine ev_aload_n dX10_phrase_0 rfl ?_ | refine ev_aload_nN dX10_phrase_0 rfl ?_
  refine ev_iload_n dX10_phrase_1 rfl ?_
  refine ev_V1 dX10_phrase_2 st_RX10_67 na_X10_isThere (Nat.le_of_ble_eq_true rfl) (Nat.le_of_ble_eq_true rfl) (by repeat (first | assumption | exact up_s | refine (up_n (by omega)).trans ?_)) rfl (mm_isThereT g31 b5 c5 q.1 hi ht) ?_
  refine ev_if_eqF dX10_phrase_5 26 (by decide) (by first | assumption | exact nI_ne0 (by omega) (by omega) | decide) ?_
  refine ev_iload_n dX10_phrase_8 rfl ?_
  refine ev_if_ltF dX10_phrase_9 26 (by decide) (by first | assumption | exact nI_pos (by omega) | decide) ?_
  first | refine ev_aload_n dX10_phrase_12 rfl ?_ | refine ev_aload_nN dX10_phrase_12 rfl ?_
  refine ev_iload_n dX10_phrase_13 rfl ?_
  refine ev_iload_n dX10_phrase_14 rfl ?_
  refine ev_V2 dX10_phrase_15 st_RX10_141 na_X10_meets (Nat.le_of_ble_eq_true rfl) (Nat.le_of_ble_eq_true rfl) (by repeat (first | assumption | exact up_s | refine (up_n (by omega)).trans ?_)) rfl (me) ?_
  refine ev_iload_n dX10_phrase_18 rfl ?_
  refine ev_icmp_leF dX10_phrase_19 26 (by decide) (by first | assumption | exact nI_ge (by omega) (by omega) | decide) ?_
  refine ev_iconst dX10_phrase_22 ci1 ?_
  refine ev_goto (tgt := 27) dX10_phrase_23 (by decide) ?_
  refine ev_istore dX10_phrase_27 (Nat.le_of_ble_eq_true rfl) ?_
  first | refine ev_aload_n dX10_phrase_29 rfl ?_ | refine ev_aload_nN dX10_phrase_29 rfl ?_
  refine ev_iload dX10_phrase_30 rfl ?_
  refine ev_iload_n dX10_phrase_32 rfl ?_
  refine ev_iconst dX10_phrase_33 ci0 ?_
  refine ev_iconst dX10_phrase_34 ci3 ?_
  refine ev_S3 dX10_phrase_35 st_RX10_55 na_X10_in (Nat.le_of_ble_eq_true rfl) (Nat.le_of_ble_eq_true rfl) (mm_inF (N := 4) (by omega) (by omega) hz) ?_
  refine ev_iconst dX10_phrase_38 ci1 ?_
  refine ev_V3 dX10_phrase_39 st_RX10_59 na_X10_goes (Nat.le_of_ble_eq_true rfl) (Nat.le_of_ble_eq_true rfl) (by repeat (first | assumption | exact up_s | refine (up_n (by omega)).trans ?_)) rfl (mm_goes2 (F := (phS S W l w i (nI K) F).2) (th := th) up_s) ?_
  refine ev_if_neF dX10_phrase_42 47 (by decide) (by first | assumption | exact z_eq (by omega) | decide) ?_
  refine ev_iconst dX10_phrase_45 ci0 ?_
  exact ev_ireturnE dX10_phrase_46 rfl (by rfl)
theorem mm_phraseT (q : WF made t l w S W) (g : MS h th made t l w S W) {i K k : Nat} (hi : i < made) (ht : t i = 1) (hy : K < phN S W l w i) (hk : k < 4) : ∃ h', Ev (d + 4) MX10_phrase 0 (lv_args 0 [.ref 31, .int (nI i), .int (nI K), .int (nI k)]) [] n h (.inl (some (.int (nI ((phS S W l w i (nI K) (fun _ => 0)).2 k)))), n, h', 0, 0) ∧ MS h' 0 made t l w S W ∧ Fm h h' := by
  obtain ⟨⟨F, g31⟩, ga⟩ := g
  obtain ⟨go, b5, c5⟩ := ga.2.2.2.2.1
  have h0 := q.2.2.1 0 i (by omega) (by omega)
  have h1 := q.2.2.1 1 i (by omega) (by omega)
  have hN := phN_le (S := S) (W := W) (w := w) h0 h1
  obtain ⟨L, R, me⟩ := mm_meets (d := d) (n := n) (h := h) (F := F) (th := th) (wt := nI K) q g31 ga hi
  have e9 := phS_1 (S := S) (W := W) (l := l) (w := w) (i := i) (wt := nI K) (F := F)
  have e8 : (phS S W l w i (nI K) F).2 k = (phS S W l w i (nI K) (fun _ => 0)).2 k := pAll_ends (by rw [← e9] at hy; exact hy) hk
  refine ⟨va_up (MX (FX h L (JJ S W l w i) R) made (phS S W l w i (nI K) F) th) 31 (MO made (phS S W l w i (nI K) F).2 0), ?_, ⟨⟨_, up_s⟩, MA_31 (MA_31 (MA_FX ga))⟩, Fm_up (Fm_up Fm_FX (by omega)) (by omega)⟩
  rw [← e8]
  clear e8 e9
  generalize phS S W l w i (nI K) F = s9 at me ⊢
  rcases (show k = 0 ∨ k = 1 ∨ k = 2 ∨ k = 3 by omega) with rfl | rfl | rfl | rfl
  · first | refine ev_aload_n dX10_phrase_0 rfl ?_ | refine ev_aload_nN dX10_phrase_0 rfl ?_
    refine ev_iload_n dX10_phrase_1 rfl ?_
    refine ev_V1 dX10_phrase_2 st_RX10_67 na_X10_isThere (Nat.le_of_ble_eq_true rfl) (Nat.le_of_ble_eq_true rfl) (by repeat (first | assumption | exact up_s | refine (up_n (by omega)).trans ?_)) rfl (mm_isThereT g31 b5 c5 q.1 hi ht) ?_
    refine ev_if_eqF dX10_phrase_5 26 (by decide) (by first | assumption | exact nI_ne0 (by omega) (by omega) | decide) ?_
    refine ev_iload_n dX10_phrase_8 rfl ?_
    refine ev_if_ltF dX10_phrase_9 26 (by decide) (by first | assumption | exact nI_pos (by omega) | decide) ?_
    first | refine ev_aload_n dX10_phrase_12 rfl ?_ | refine ev_aload_nN dX10_phrase_12 rfl ?_
    refine ev_iload_n dX10_phrase_13 rfl ?_
    refine ev_iload_n dX10_phrase_14 rfl ?_
    refine ev_V2 dX10_phrase_15 st_RX10_141 na_X10_meets (Nat.le_of_ble_eq_true rfl) (Nat.le_of_ble_eq_true rfl) (by repeat (first | assumption | exact up_s | refine (up_n (by omega)).trans ?_)) rfl (me) ?_
    refine ev_iload_n dX10_phrase_18 rfl ?_
    refine ev_icmp_leF dX10_phrase_19 26 (by decide) (by first | assumption | exact nI_ge (by omega) (by omega) | decide) ?_
    refine ev_iconst dX10_phrase_22 ci1 ?_
    refine ev_goto (tgt := 27) dX10_phrase_23 (by decide) ?_
    refine ev_istore dX10_phrase_27 (Nat.le_of_ble_eq_true rfl) ?_
    first | refine ev_aload_n dX10_phrase_29 rfl ?_ | refine ev_aload_nN dX10_phrase_29 rfl ?_
    refine ev_iload dX10_phrase_30 rfl ?_
    refine ev_iload_n dX10_phrase_32 rfl ?_
    refine ev_iconst dX10_phrase_33 ci0 ?_
    refine ev_iconst dX10_phrase_34 ci3 ?_
    refine ev_S3 dX10_phrase_35 st_RX10_55 na_X10_in (Nat.le_of_ble_eq_true rfl) (Nat.le_of_ble_eq_true rfl) (mm_inT (by omega) (show 0 ≤ 3 by omega) (by omega)) ?_
    refine ev_iconst dX10_phrase_38 ci1 ?_
    refine ev_V3 dX10_phrase_39 st_RX10_59 na_X10_goes (Nat.le_of_ble_eq_true rfl) (Nat.le_of_ble_eq_true rfl) (by repeat (first | assumption | exact up_s | refine (up_n (by omega)).trans ?_)) rfl (mm_goesT (F := s9.2) (th := th) up_s) ?_
    refine ev_if_neT (tgt := 47) dX10_phrase_42 (by decide) (by first | assumption | exact nI_ne0 (by omega) (by omega) | decide) ?_
    refine ev_iload_n dX10_phrase_47 rfl ?_
    refine ev_if_neF dX10_phrase_48 58 (by decide) (by first | assumption | exact z_eq (by omega) | decide) ?_
    first | refine ev_aload_n dX10_phrase_51 rfl ?_ | refine ev_aload_nN dX10_phrase_51 rfl ?_
    refine ev_getfield dX10_phrase_52 fl_RX10_126 (by repeat (first | assumption | exact up_s | refine (up_n (by omega)).trans ?_)) rfl ?_
    refine ev_goto (tgt := 86) dX10_phrase_55 (by decide) ?_
    exact ev_ireturnE dX10_phrase_86 rfl (by rfl)
  · first | refine ev_aload_n dX10_phrase_0 rfl ?_ | refine ev_aload_nN dX10_phrase_0 rfl ?_
    refine ev_iload_n dX10_phrase_1 rfl ?_
    refine ev_V1 dX10_phrase_2 st_RX10_67 na_X10_isThere (Nat.le_of_ble_eq_true rfl) (Nat.le_of_ble_eq_true rfl) (by repeat (first | assumption | exact up_s | refine (up_n (by omega)).trans ?_)) rfl (mm_isThereT g31 b5 c5 q.1 hi ht) ?_
    refine ev_if_eqF dX10_phrase_5 26 (by decide) (by first | assumption | exact nI_ne0 (by omega) (by omega) | decide) ?_
    refine ev_iload_n dX10_phrase_8 rfl ?_
    refine ev_if_ltF dX10_phrase_9 26 (by decide) (by first | assumption | exact nI_pos (by omega) | decide) ?_
    first | refine ev_aload_n dX10_phrase_12 rfl ?_ | refine ev_aload_nN dX10_phrase_12 rfl ?_
    refine ev_iload_n dX10_phrase_13 rfl ?_
    refine ev_iload_n dX10_phrase_14 rfl ?_
    refine ev_V2 dX10_phrase_15 st_RX10_141 na_X10_meets (Nat.le_of_ble_eq_true rfl) (Nat.le_of_ble_eq_true rfl) (by repeat (first | assumption | exact up_s | refine (up_n (by omega)).trans ?_)) rfl (me) ?_
    refine ev_iload_n dX10_phrase_18 rfl ?_
    refine ev_icmp_leF dX10_phrase_19 26 (by decide) (by first | assumption | exact nI_ge (by omega) (by omega) | decide) ?_
    refine ev_iconst dX10_phrase_22 ci1 ?_
    refine ev_goto (tgt := 27) dX10_phrase_23 (by decide) ?_
    refine ev_istore dX10_phrase_27 (Nat.le_of_ble_eq_true rfl) ?_
    first | refine ev_aload_n dX10_phrase_29 rfl ?_ | refine ev_aload_nN dX10_phrase_29 rfl ?_
    refine ev_iload dX10_phrase_30 rfl ?_
    refine ev_iload_n dX10_phrase_32 rfl ?_
    refine ev_iconst dX10_phrase_33 ci0 ?_
    refine ev_iconst dX10_phrase_34 ci3 ?_
    refine ev_S3 dX10_phrase_35 st_RX10_55 na_X10_in (Nat.le_of_ble_eq_true rfl) (Nat.le_of_ble_eq_true rfl) (mm_inT (by omega) (show 1 ≤ 3 by omega) (by omega)) ?_
    refine ev_iconst dX10_phrase_38 ci1 ?_
    refine ev_V3 dX10_phrase_39 st_RX10_59 na_X10_goes (Nat.le_of_ble_eq_true rfl) (Nat.le_of_ble_eq_true rfl) (by repeat (first | assumption | exact up_s | refine (up_n (by omega)).trans ?_)) rfl (mm_goesT (F := s9.2) (th := th) up_s) ?_
    refine ev_if_neT (tgt := 47) dX10_phrase_42 (by decide) (by first | assumption | exact nI_ne0 (by omega) (by omega) | decide) ?_
    refine ev_iload_n dX10_phrase_47 rfl ?_
    refine ev_if_neT (tgt := 58) dX10_phrase_48 (by decide) (by first | assumption | exact nI_ne0 (by omega) (by omega) | decide) ?_
    refine ev_iload_n dX10_phrase_58 rfl ?_
    refine ev_iconst dX10_phrase_59 ci1 ?_
    refine ev_icmp_neF dX10_phrase_60 70 (by decide) (by first | assumption | exact n_eq (by omega) | decide) ?_
    first | refine ev_aload_n dX10_phrase_63 rfl ?_ | refine ev_aload_nN dX10_phrase_63 rfl ?_
    refine ev_getfield dX10_phrase_64 fl_RX10_129 (by repeat (first | assumption | exact up_s | refine (up_n (by omega)).trans ?_)) rfl ?_
    refine ev_goto (tgt := 86) dX10_phrase_67 (by decide) ?_
    exact ev_ireturnE dX10_phrase_86 rfl (by rfl)
  · first | refine ev_aload_n dX10_phrase_0 rfl ?_ | refine ev_aload_nN dX10_phrase_0 rfl ?_
    refine ev_iload_n dX10_phrase_1 rfl ?_
    refine ev_V1 dX10_phrase_2 st_RX10_67 na_X10_isThere (Nat.le_of_ble_eq_true rfl) (Nat.le_of_ble_eq_true rfl) (by repeat (first | assumption | exact up_s | refine (up_n (by omega)).trans ?_)) rfl (mm_isThereT g31 b5 c5 q.1 hi ht) ?_
    refine ev_if_eqF dX10_phrase_5 26 (by decide) (by first | assumption | exact nI_ne0 (by omega) (by omega) | decide) ?_
    refine ev_iload_n dX10_phrase_8 rfl ?_
    refine ev_if_ltF dX10_phrase_9 26 (by decide) (by first | assumption | exact nI_pos (by omega) | decide) ?_
    first | refine ev_aload_n dX10_phrase_12 rfl ?_ | refine ev_aload_nN dX10_phrase_12 rfl ?_
    refine ev_iload_n dX10_phrase_13 rfl ?_
    refine ev_iload_n dX10_phrase_14 rfl ?_
    refine ev_V2 dX10_phrase_15 st_RX10_141 na_X10_meets (Nat.le_of_ble_eq_true rfl) (Nat.le_of_ble_eq_true rfl) (by repeat (first | assumption | exact up_s | refine (up_n (by omega)).trans ?_)) rfl (me) ?_
    refine ev_iload_n dX10_phrase_18 rfl ?_
    refine ev_icmp_leF dX10_phrase_19 26 (by decide) (by first | assumption | exact nI_ge (by omega) (by omega) | decide) ?_
    refine ev_iconst dX10_phrase_22 ci1 ?_
    refine ev_goto (tgt := 27) dX10_phrase_23 (by decide) ?_
    refine ev_istore dX10_phrase_27 (Nat.le_of_ble_eq_true rfl) ?_
    first | refine ev_aload_n dX10_phrase_29 rfl ?_ | refine ev_aload_nN dX10_phrase_29 rfl ?_
    refine ev_iload dX10_phrase_30 rfl ?_
    refine ev_iload_n dX10_phrase_32 rfl ?_
    refine ev_iconst dX10_phrase_33 ci0 ?_
    refine ev_iconst dX10_phrase_34 ci3 ?_
    refine ev_S3 dX10_phrase_35 st_RX10_55 na_X10_in (Nat.le_of_ble_eq_true rfl) (Nat.le_of_ble_eq_true rfl) (mm_inT (by omega) (show 2 ≤ 3 by omega) (by omega)) ?_
    refine ev_iconst dX10_phrase_38 ci1 ?_
    refine ev_V3 dX10_phrase_39 st_RX10_59 na_X10_goes (Nat.le_of_ble_eq_true rfl) (Nat.le_of_ble_eq_true rfl) (by repeat (first | assumption | exact up_s | refine (up_n (by omega)).trans ?_)) rfl (mm_goesT (F := s9.2) (th := th) up_s) ?_
    refine ev_if_neT (tgt := 47) dX10_phrase_42 (by decide) (by first | assumption | exact nI_ne0 (by omega) (by omega) | decide) ?_
    refine ev_iload_n dX10_phrase_47 rfl ?_
    refine ev_if_neT (tgt := 58) dX10_phrase_48 (by decide) (by first | assumption | exact nI_ne0 (by omega) (by omega) | decide) ?_
    refine ev_iload_n dX10_phrase_58 rfl ?_
    refine ev_iconst dX10_phrase_59 ci1 ?_
    refine ev_icmp_neT (tgt := 70) dX10_phrase_60 (by decide) (by first | assumption | exact n_ne (by omega) (by omega) (by omega) | decide) ?_
    refine ev_iload_n dX10_phrase_70 rfl ?_
    refine ev_iconst dX10_phrase_71 ci2 ?_
    refine ev_icmp_neF dX10_phrase_72 82 (by decide) (by first | assumption | exact n_eq (by omega) | decide) ?_
    first | refine ev_aload_n dX10_phrase_75 rfl ?_ | refine ev_aload_nN dX10_phrase_75 rfl ?_
    refine ev_getfield dX10_phrase_76 fl_RX10_132 (by repeat (first | assumption | exact up_s | refine (up_n (by omega)).trans ?_)) rfl ?_
    refine ev_goto (tgt := 86) dX10_phrase_79 (by decide) ?_
    exact ev_ireturnE dX10_phrase_86 rfl (by rfl)
  · first | refine ev_aload_n dX10_phrase_0 rfl ?_ | refine ev_aload_nN dX10_phrase_0 rfl ?_
    refine ev_iload_n dX10_phrase_1 rfl ?_
    refine ev_V1 dX10_phrase_2 st_RX10_67 na_X10_isThere (Nat.le_of_ble_eq_true rfl) (Nat.le_of_ble_eq_true rfl) (by repeat (first | assumption | exact up_s | refine (up_n (by omega)).trans ?_)) rfl (mm_isThereT g31 b5 c5 q.1 hi ht) ?_
    refine ev_if_eqF dX10_phrase_5 26 (by decide) (by first | assumption | exact nI_ne0 (by omega) (by omega) | decide) ?_
    refine ev_iload_n dX10_phrase_8 rfl ?_
    refine ev_if_ltF dX10_phrase_9 26 (by decide) (by first | assumption | exact nI_pos (by omega) | decide) ?_
    first | refine ev_aload_n dX10_phrase_12 rfl ?_ | refine ev_aload_nN dX10_phrase_12 rfl ?_
    refine ev_iload_n dX10_phrase_13 rfl ?_
    refine ev_iload_n dX10_phrase_14 rfl ?_
    refine ev_V2 dX10_phrase_15 st_RX10_141 na_X10_meets (Nat.le_of_ble_eq_true rfl) (Nat.le_of_ble_eq_true rfl) (by repeat (first | assumption | exact up_s | refine (up_n (by omega)).trans ?_)) rfl (me) ?_
    refine ev_iload_n dX10_phrase_18 rfl ?_
    refine ev_icmp_leF dX10_phrase_19 26 (by decide) (by first | assumption | exact nI_ge (by omega) (by omega) | decide) ?_
    refine ev_iconst dX10_phrase_22 ci1 ?_
    refine ev_goto (tgt := 27) dX10_phrase_23 (by decide) ?_
    refine ev_istore dX10_phrase_27 (Nat.le_of_ble_eq_true rfl) ?_
    first | refine ev_aload_n dX10_phrase_29 rfl ?_ | refine ev_aload_nN dX10_phrase_29 rfl ?_
    refine ev_iload dX10_phrase_30 rfl ?_
    refine ev_iload_n dX10_phrase_32 rfl ?_
    refine ev_iconst dX10_phrase_33 ci0 ?_
    refine ev_iconst dX10_phrase_34 ci3 ?_
    refine ev_S3 dX10_phrase_35 st_RX10_55 na_X10_in (Nat.le_of_ble_eq_true rfl) (Nat.le_of_ble_eq_true rfl) (mm_inT (by omega) (show 3 ≤ 3 by omega) (by omega)) ?_
    refine ev_iconst dX10_phrase_38 ci1 ?_
    refine ev_V3 dX10_phrase_39 st_RX10_59 na_X10_goes (Nat.le_of_ble_eq_true rfl) (Nat.le_of_ble_eq_true rfl) (by repeat (first | assumption | exact up_s | refine (up_n (by omega)).trans ?_)) rfl (mm_goesT (F := s9.2) (th := th) up_s) ?_
    refine ev_if_neT (tgt := 47) dX10_phrase_42 (by decide) (by first | assumption | exact nI_ne0 (by omega) (by omega) | decide) ?_
    refine ev_iload_n dX10_phrase_47 rfl ?_
    refine ev_if_neT (tgt := 58) dX10_phrase_48 (by decide) (by first | assumption | exact nI_ne0 (by omega) (by omega) | decide) ?_
    refine ev_iload_n dX10_phrase_58 rfl ?_
    refine ev_iconst dX10_phrase_59 ci1 ?_
    refine ev_icmp_neT (tgt := 70) dX10_phrase_60 (by decide) (by first | assumption | exact n_ne (by omega) (by omega) (by omega) | decide) ?_
    refine ev_iload_n dX10_phrase_70 rfl ?_
    refine ev_iconst dX10_phrase_71 ci2 ?_
    refine ev_icmp_neT (tgt := 82) dX10_phrase_72 (by decide) (by first | assumption | exact n_ne (by omega) (by omega) (by omega) | decide) ?_
    first | refine ev_aload_n dX10_phrase_82 rfl ?_ | refine ev_aload_nN dX10_phrase_82 rfl ?_
    refine ev_getfield dX10_phrase_83 fl_RX10_135 (by repeat (first | assumption | exact up_s | refine (up_n (by omega)).trans ?_)) rfl ?_
    exact ev_ireturnE dX10_phrase_86 rfl (by rfl)
end MK
