/-! lexicons, second part: over the corpus, apportioning, start and learn -/
theorem Pr_side {h : Hp} {p t : Nat} {l : Nat → Nat → Nat} {w : Nat → Nat → Nat → Nat} {i D : Nat} (g : Pr h p t (l 0 i) (w 0 i) (l 1 i) (w 1 i)) (hD : D ≤ 1) : Sn h (p + 1 + 2 * D) (l D i) (w D i) := by
  rcases (show D = 0 ∨ D = 1 by omega) with rfl | rfl
  · exact g.2.1
  · exact g.2.2
theorem m7_of {d n p t l0 l1 D : Nat} {h : Hp} {w0 w1 : Nat → Nat} (g : Pr h p t l0 w0 l1 w1) (hD : D ≤ 1) : Ev d MX7_ofSide 0 (lv_args 0 [.ref p, .int (nI D)]) [] n h (.inl (some (.ref (p + 1 + 2 * D))), n, h, 0, 0) := by
  rcases (show D = 0 ∨ D = 1 by omega) with rfl | rfl
  · exact m7_of0 g
  · exact m7_of1 g
section M2B
variable {d n x D : Nat} {h : Hp} {S C F : Nat → Nat} {R : Nat → Int} {made size : Nat} {t : Nat → Nat} {l : Nat → Nat → Nat} {w : Nat → Nat → Nat → Nat}
theorem lp_cm (g : Lh h x D) (hD : D ≤ 1) (hx1 : 4 ≤ x) (hx2 : x + 4 < 26) (G : Cp h made size t l w) :
    ∀ k i, i + k = made → Ev (d + 3) MX2_countMeetings 10 [(0, .ref x), (1, .ref 3), (2, .int (nI i))] [] n (LX h x S (ccF t (fun i C => mtO 0 (w D i) (l D i) (w (1 - D) i) (l (1 - D) i) C) i C) F R) (.inl none, n, LX h x S (ccF t (fun i C => mtO 0 (w D i) (l D i) (w (1 - D) i) (l (1 - D) i) C) made C) F R, 0, 0) := by
  have g1 := G.1
  have g3 := G.2.2.1
  intro k
  induction k with
  | zero =>
    intro i hi
    have e : i = made := by omega
    subst e
    refine ev_iload_n dX2_countMeetings_10 rfl ?_
    first | refine ev_aload_n dX2_countMeetings_11 rfl ?_ | refine ev_aload_nN dX2_countMeetings_11 rfl ?_
    refine ev_V0 dX2_countMeetings_12 st_RX2_53 na_X1_made (Nat.le_of_ble_eq_true rfl) (Nat.le_of_ble_eq_true rfl) (by repeat (first | assumption | exact up_s | refine (up_n (by omega)).trans ?_)) rfl (m1_made (LX_Cp G hx1 hx2)) ?_
    refine ev_icmp_geT (tgt := 56) dX2_countMeetings_15 (by decide) (by first | assumption | exact nI_le (by omega) (by omega) | decide) ?_
    exact ev_vreturnE dX2_countMeetings_56 rfl (by rfl)
  | succ k ih =>
    intro i hi
    have hp := G.2.2.2.2.2 i (by omega)
    have hp9 := hp.1
    have hg := pp_ge i
    rcases G.2.2.2.2.1 i with ht | ht
    · have e : ccF t (fun i C => mtO 0 (w D i) (l D i) (w (1 - D) i) (l (1 - D) i) C) (i + 1) C = ccF t (fun i C => mtO 0 (w D i) (l D i) (w (1 - D) i) (l (1 - D) i) C) i C := if_neg (by omega)
      have ih := ih (i + 1) (by omega)
      rw [e] at ih
      refine ev_iload_n dX2_countMeetings_10 rfl ?_
      first | refine ev_aload_n dX2_countMeetings_11 rfl ?_ | refine ev_aload_nN dX2_countMeetings_11 rfl ?_
      refine ev_V0 dX2_countMeetings_12 st_RX2_53 na_X1_made (Nat.le_of_ble_eq_true rfl) (Nat.le_of_ble_eq_true rfl) (by repeat (first | assumption | exact up_s | refine (up_n (by omega)).trans ?_)) rfl (m1_made (LX_Cp G hx1 hx2)) ?_
      refine ev_icmp_geF dX2_countMeetings_15 56 (by decide) (by first | assumption | exact nI_ge (by omega) (by omega) | decide) ?_
      first | refine ev_aload_n dX2_countMeetings_18 rfl ?_ | refine ev_aload_nN dX2_countMeetings_18 rfl ?_
      refine ev_iload_n dX2_countMeetings_19 rfl ?_
      refine ev_V1 dX2_countMeetings_20 st_RX2_58 na_X1_find (Nat.le_of_ble_eq_true rfl) (Nat.le_of_ble_eq_true rfl) (by repeat (first | assumption | exact up_s | refine (up_n (by omega)).trans ?_)) rfl (m1_findF (LX_Cp G hx1 hx2) (Or.inr (Or.inr ⟨i, by omega, ht, rfl⟩))) ?_
      first | refine ev_astore_n dX2_countMeetings_23 (Nat.le_of_ble_eq_true rfl) ?_ | refine ev_astore_nN dX2_countMeetings_23 (Nat.le_of_ble_eq_true rfl) ?_
      first | refine ev_aload_n dX2_countMeetings_24 rfl ?_ | refine ev_aload_nN dX2_countMeetings_24 rfl ?_
      refine ev_ifnullN (tgt := 50) dX2_countMeetings_25 (by decide) ?_
      refine ev_iincN (b := 1) dX2_countMeetings_50 rfl (Nat.le_of_ble_eq_true rfl) ?_
      refine ev_goto (tgt := 10) dX2_countMeetings_53 (by decide) ?_
      refine ev_sub ?_ (ih)
      repeat (first | exact trivial | refine ⟨rfl, ?_⟩)
    · have e : ccF t (fun i C => mtO 0 (w D i) (l D i) (w (1 - D) i) (l (1 - D) i) C) (i + 1) C = mtO 0 (w D i) (l D i) (w (1 - D) i) (l (1 - D) i) (ccF t (fun i C => mtO 0 (w D i) (l D i) (w (1 - D) i) (l (1 - D) i) C) i C) := if_pos ht
      have ih := ih (i + 1) (by omega)
      rw [e] at ih
      refine ev_iload_n dX2_countMeetings_10 rfl ?_
      first | refine ev_aload_n dX2_countMeetings_11 rfl ?_ | refine ev_aload_nN dX2_countMeetings_11 rfl ?_
      refine ev_V0 dX2_countMeetings_12 st_RX2_53 na_X1_made (Nat.le_of_ble_eq_true rfl) (Nat.le_of_ble_eq_true rfl) (by repeat (first | assumption | exact up_s | refine (up_n (by omega)).trans ?_)) rfl (m1_made (LX_Cp G hx1 hx2)) ?_
      refine ev_icmp_geF dX2_countMeetings_15 56 (by decide) (by first | assumption | exact nI_ge (by omega) (by omega) | decide) ?_
      first | refine ev_aload_n dX2_countMeetings_18 rfl ?_ | refine ev_aload_nN dX2_countMeetings_18 rfl ?_
      refine ev_iload_n dX2_countMeetings_19 rfl ?_
      refine ev_V1 dX2_countMeetings_20 st_RX2_58 na_X1_find (Nat.le_of_ble_eq_true rfl) (Nat.le_of_ble_eq_true rfl) (by repeat (first | assumption | exact up_s | refine (up_n (by omega)).trans ?_)) rfl (m1_findT (LX_Cp G hx1 hx2) (show i < made by omega) ht) ?_
      first | refine ev_astore_n dX2_countMeetings_23 (Nat.le_of_ble_eq_true rfl) ?_ | refine ev_astore_nN dX2_countMeetings_23 (Nat.le_of_ble_eq_true rfl) ?_
      first | refine ev_aload_n dX2_countMeetings_24 rfl ?_ | refine ev_aload_nN dX2_countMeetings_24 rfl ?_
      refine ev_ifnull dX2_countMeetings_25 ?_
      first | refine ev_aload_n dX2_countMeetings_28 rfl ?_ | refine ev_aload_nN dX2_countMeetings_28 rfl ?_
      first | refine ev_aload_n dX2_countMeetings_29 rfl ?_ | refine ev_aload_nN dX2_countMeetings_29 rfl ?_
      first | refine ev_aload_n dX2_countMeetings_30 rfl ?_ | refine ev_aload_nN dX2_countMeetings_30 rfl ?_
      refine ev_getfield dX2_countMeetings_31 fl_RX2_25 (by repeat (first | assumption | exact up_s | refine (up_n (by omega)).trans ?_)) rfl ?_
      refine ev_V1 dX2_countMeetings_34 st_RX2_62 na_X7_ofSide (Nat.le_of_ble_eq_true rfl) (Nat.le_of_ble_eq_true rfl) (by repeat (first | assumption | exact up_s | refine (up_n (by omega)).trans ?_)) rfl (m7_of ((LX_Cp G hx1 hx2).2.2.2.2.2 i (by omega)) hD) ?_
      first | refine ev_aload_n dX2_countMeetings_37 rfl ?_ | refine ev_aload_nN dX2_countMeetings_37 rfl ?_
      refine ev_iconst dX2_countMeetings_38 ci1 ?_
      first | refine ev_aload_n dX2_countMeetings_39 rfl ?_ | refine ev_aload_nN dX2_countMeetings_39 rfl ?_
      refine ev_getfield dX2_countMeetings_40 fl_RX2_25 (by repeat (first | assumption | exact up_s | refine (up_n (by omega)).trans ?_)) rfl ?_
      first | refine ev_isubN dX2_countMeetings_43 (by omega) ?_ | refine ev_isub dX2_countMeetings_43 ?_
      refine ev_V1 dX2_countMeetings_44 st_RX2_62 na_X7_ofSide (Nat.le_of_ble_eq_true rfl) (Nat.le_of_ble_eq_true rfl) (by repeat (first | assumption | exact up_s | refine (up_n (by omega)).trans ?_)) rfl (m7_of ((LX_Cp G hx1 hx2).2.2.2.2.2 i (by omega)) (show 1 - D ≤ 1 by omega)) ?_
      refine ev_V2v dX2_countMeetings_47 st_RX2_68 na_X2_meetAll (Nat.le_of_ble_eq_true rfl) (Nat.le_of_ble_eq_true rfl) (by repeat (first | assumption | exact up_s | refine (up_n (by omega)).trans ?_)) rfl (m2_meetAll g (Pr_side hp hD) (by omega) (Pr_side hp (show 1 - D ≤ 1 by omega)) (by omega)) ?_
      refine ev_iincN (b := 1) dX2_countMeetings_50 rfl (Nat.le_of_ble_eq_true rfl) ?_
      refine ev_goto (tgt := 10) dX2_countMeetings_53 (by decide) ?_
      refine ev_sub ?_ (ih)
      repeat (first | exact trivial | refine ⟨rfl, ?_⟩)
theorem m2_countMeetings (g : Lh h x D) (hD : D ≤ 1) (hx1 : 4 ≤ x) (hx2 : x + 4 < 26) (G : Cp h made size t l w) : Ev (d + 3) MX2_countMeetings 0 (lv_args 0 [.ref x, .ref 3]) [] n (LX h x S C F R) (.inl none, n, LX h x S (ccF t (fun i C => mtO 0 (w D i) (l D i) (w (1 - D) i) (l (1 - D) i) C) made (fun _ => 0)) F R, 0, 0) := by
  first | refine ev_aload_n dX2_countMeetings_0 rfl ?_ | refine ev_aload_nN dX2_countMeetings_0 rfl ?_
  refine ev_getfield dX2_countMeetings_1 fl_RX2_15 (by repeat (first | assumption | exact up_s | refine (up_n (by omega)).trans ?_)) rfl ?_
  refine ev_lconst dX2_countMeetings_4 lc0 ?_
  refine ev_S2v dX2_countMeetings_5 st_RX2_47 na_J7_fill_d0a16 (Nat.le_of_ble_eq_true rfl) (Nat.le_of_ble_eq_true rfl) (mJ_fillL (v := 0) (by omega) (by omega) LX_2) ?_
  refine ev_iconst dX2_countMeetings_8 ci0 ?_
  refine ev_istore_n dX2_countMeetings_9 (Nat.le_of_ble_eq_true rfl) ?_
  refine ev_heap (LX_C _) ?_
  refine ev_sub ?_ (lp_cm (C := fun _ => 0) g hD hx1 hx2 G made 0 (by omega))
  repeat (first | exact trivial | refine ⟨rfl, ?_⟩)
theorem lp_ca (g : Lh h x D) (hS : SB S) (hD : D ≤ 1) (hx1 : 4 ≤ x) (hx2 : x + 4 < 26) (G : Cp h made size t l w) :
    ∀ k i, i + k = made → Ev (d + 4) MX2_countAnswers 10 [(0, .ref x), (1, .ref 3), (2, .int (nI i))] [] n (LX h x S (ccF t (fun i C => anO S 0 (w D i) (l D i) (w (1 - D) i) (l (1 - D) i) C) i (fun _ => 0)) F R) (.inl none, n, LX h x S (ccF t (fun i C => anO S 0 (w D i) (l D i) (w (1 - D) i) (l (1 - D) i) C) made (fun _ => 0)) F R, 0, 0) := by
  have g1 := G.1
  have g3 := G.2.2.1
  have hbd := ccF_le (t := t) (f := fun i C => anO S 0 (w D i) (l D i) (w (1 - D) i) (l (1 - D) i) C) (K := 72000000) (n := made) (fun i hi C B hB k => by
    have s1 := (Pr_side (G.2.2.2.2.2 i hi) hD).2.2.1
    have s2 := (Pr_side (G.2.2.2.2.2 i hi) (show 1 - D ≤ 1 by omega)).2.2.1
    have s3 := anO_le (S := S) (off := 0) (wa := w D i) (wb := w (1 - D) i) s1 hB (l (1 - D) i) k
    have : l (1 - D) i * 9000000 ≤ 72000000 := by omega
    omega)
  intro k
  induction k with
  | zero =>
    intro i hi
    have e : i = made := by omega
    subst e
    refine ev_iload_n dX2_countAnswers_10 rfl ?_
    first | refine ev_aload_n dX2_countAnswers_11 rfl ?_ | refine ev_aload_nN dX2_countAnswers_11 rfl ?_
    refine ev_V0 dX2_countAnswers_12 st_RX2_53 na_X1_made (Nat.le_of_ble_eq_true rfl) (Nat.le_of_ble_eq_true rfl) (by repeat (first | assumption | exact up_s | refine (up_n (by omega)).trans ?_)) rfl (m1_made (LX_Cp G hx1 hx2)) ?_
    refine ev_icmp_geT (tgt := 56) dX2_countAnswers_15 (by decide) (by first | assumption | exact nI_le (by omega) (by omega) | decide) ?_
    exact ev_vreturnE dX2_countAnswers_56 rfl (by rfl)
  | succ k ih =>
    intro i hi
    have hp := G.2.2.2.2.2 i (by omega)
    have hp9 := hp.1
    have hg := pp_ge i
    have hb := hbd i (by omega)
    have hb2 : i * 72000000 + 72000000 ≤ 2000000000 := by omega
    rcases G.2.2.2.2.1 i with ht | ht
    · have e : ccF t (fun i C => anO S 0 (w D i) (l D i) (w (1 - D) i) (l (1 - D) i) C) (i + 1) (fun _ => 0) = ccF t (fun i C => anO S 0 (w D i) (l D i) (w (1 - D) i) (l (1 - D) i) C) i (fun _ => 0) := if_neg (by omega)
      have ih := ih (i + 1) (by omega)
      rw [e] at ih
      refine ev_iload_n dX2_countAnswers_10 rfl ?_
      first | refine ev_aload_n dX2_countAnswers_11 rfl ?_ | refine ev_aload_nN dX2_countAnswers_11 rfl ?_
      refine ev_V0 dX2_countAnswers_12 st_RX2_53 na_X1_made (Nat.le_of_ble_eq_true rfl) (Nat.le_of_ble_eq_true rfl) (by repeat (first | assumption | exact up_s | refine (up_n (by omega)).trans ?_)) rfl (m1_made (LX_Cp G hx1 hx2)) ?_
      refine ev_icmp_geF dX2_countAnswers_15 56 (by decide) (by first | assumption | exact nI_ge (by omega) (by omega) | decide) ?_
      first | refine ev_aload_n dX2_countAnswers_18 rfl ?_ | refine ev_aload_nN dX2_countAnswers_18 rfl ?_
      refine ev_iload_n dX2_countAnswers_19 rfl ?_
      refine ev_V1 dX2_countAnswers_20 st_RX2_58 na_X1_find (Nat.le_of_ble_eq_true rfl) (Nat.le_of_ble_eq_true rfl) (by repeat (first | assumption | exact up_s | refine (up_n (by omega)).trans ?_)) rfl (m1_findF (LX_Cp G hx1 hx2) (Or.inr (Or.inr ⟨i, by omega, ht, rfl⟩))) ?_
      first | refine ev_astore_n dX2_countAnswers_23 (Nat.le_of_ble_eq_true rfl) ?_ | refine ev_astore_nN dX2_countAnswers_23 (Nat.le_of_ble_eq_true rfl) ?_
      first | refine ev_aload_n dX2_countAnswers_24 rfl ?_ | refine ev_aload_nN dX2_countAnswers_24 rfl ?_
      refine ev_ifnullN (tgt := 50) dX2_countAnswers_25 (by decide) ?_
      refine ev_iincN (b := 1) dX2_countAnswers_50 rfl (Nat.le_of_ble_eq_true rfl) ?_
      refine ev_goto (tgt := 10) dX2_countAnswers_53 (by decide) ?_
      refine ev_sub ?_ (ih)
      repeat (first | exact trivial | refine ⟨rfl, ?_⟩)
    · have e : ccF t (fun i C => anO S 0 (w D i) (l D i) (w (1 - D) i) (l (1 - D) i) C) (i + 1) (fun _ => 0) = anO S 0 (w D i) (l D i) (w (1 - D) i) (l (1 - D) i) (ccF t (fun i C => anO S 0 (w D i) (l D i) (w (1 - D) i) (l (1 - D) i) C) i (fun _ => 0)) := if_pos ht
      have ih := ih (i + 1) (by omega)
      rw [e] at ih
      refine ev_iload_n dX2_countAnswers_10 rfl ?_
      first | refine ev_aload_n dX2_countAnswers_11 rfl ?_ | refine ev_aload_nN dX2_countAnswers_11 rfl ?_
      refine ev_V0 dX2_countAnswers_12 st_RX2_53 na_X1_made (Nat.le_of_ble_eq_true rfl) (Nat.le_of_ble_eq_true rfl) (by repeat (first | assumption | exact up_s | refine (up_n (by omega)).trans ?_)) rfl (m1_made (LX_Cp G hx1 hx2)) ?_
      refine ev_icmp_geF dX2_countAnswers_15 56 (by decide) (by first | assumption | exact nI_ge (by omega) (by omega) | decide) ?_
      first | refine ev_aload_n dX2_countAnswers_18 rfl ?_ | refine ev_aload_nN dX2_countAnswers_18 rfl ?_
      refine ev_iload_n dX2_countAnswers_19 rfl ?_
      refine ev_V1 dX2_countAnswers_20 st_RX2_58 na_X1_find (Nat.le_of_ble_eq_true rfl) (Nat.le_of_ble_eq_true rfl) (by repeat (first | assumption | exact up_s | refine (up_n (by omega)).trans ?_)) rfl (m1_findT (LX_Cp G hx1 hx2) (show i < made by omega) ht) ?_
      first | refine ev_astore_n dX2_countAnswers_23 (Nat.le_of_ble_eq_true rfl) ?_ | refine ev_astore_nN dX2_countAnswers_23 (Nat.le_of_ble_eq_true rfl) ?_
      first | refine ev_aload_n dX2_countAnswers_24 rfl ?_ | refine ev_aload_nN dX2_countAnswers_24 rfl ?_
      refine ev_ifnull dX2_countAnswers_25 ?_
      first | refine ev_aload_n dX2_countAnswers_28 rfl ?_ | refine ev_aload_nN dX2_countAnswers_28 rfl ?_
      first | refine ev_aload_n dX2_countAnswers_29 rfl ?_ | refine ev_aload_nN dX2_countAnswers_29 rfl ?_
      first | refine ev_aload_n dX2_countAnswers_30 rfl ?_ | refine ev_aload_nN dX2_countAnswers_30 rfl ?_
      refine ev_getfield dX2_countAnswers_31 fl_RX2_25 (by repeat (first | assumption | exact up_s | refine (up_n (by omega)).trans ?_)) rfl ?_
      refine ev_V1 dX2_countAnswers_34 st_RX2_62 na_X7_ofSide (Nat.le_of_ble_eq_true rfl) (Nat.le_of_ble_eq_true rfl) (by repeat (first | assumption | exact up_s | refine (up_n (by omega)).trans ?_)) rfl (m7_of ((LX_Cp G hx1 hx2).2.2.2.2.2 i (by omega)) hD) ?_
      first | refine ev_aload_n dX2_countAnswers_37 rfl ?_ | refine ev_aload_nN dX2_countAnswers_37 rfl ?_
      refine ev_iconst dX2_countAnswers_38 ci1 ?_
      first | refine ev_aload_n dX2_countAnswers_39 rfl ?_ | refine ev_aload_nN dX2_countAnswers_39 rfl ?_
      refine ev_getfield dX2_countAnswers_40 fl_RX2_25 (by repeat (first | assumption | exact up_s | refine (up_n (by omega)).trans ?_)) rfl ?_
      first | refine ev_isubN dX2_countAnswers_43 (by omega) ?_ | refine ev_isub dX2_countAnswers_43 ?_
      refine ev_V1 dX2_countAnswers_44 st_RX2_62 na_X7_ofSide (Nat.le_of_ble_eq_true rfl) (Nat.le_of_ble_eq_true rfl) (by repeat (first | assumption | exact up_s | refine (up_n (by omega)).trans ?_)) rfl (m7_of ((LX_Cp G hx1 hx2).2.2.2.2.2 i (by omega)) (show 1 - D ≤ 1 by omega)) ?_
      refine ev_V2v dX2_countAnswers_47 st_RX2_85 na_X2_answerAll (Nat.le_of_ble_eq_true rfl) (Nat.le_of_ble_eq_true rfl) (by repeat (first | assumption | exact up_s | refine (up_n (by omega)).trans ?_)) rfl (m2_answerAll g hS (B := i * 72000000) hb2 hb (Pr_side hp hD) (by omega) (Pr_side hp (show 1 - D ≤ 1 by omega)) (by omega)) ?_
      refine ev_iincN (b := 1) dX2_countAnswers_50 rfl (Nat.le_of_ble_eq_true rfl) ?_
      refine ev_goto (tgt := 10) dX2_countAnswers_53 (by decide) ?_
      refine ev_sub ?_ (ih)
      repeat (first | exact trivial | refine ⟨rfl, ?_⟩)
theorem m2_countAnswers (g : Lh h x D) (hS : SB S) (hD : D ≤ 1) (hx1 : 4 ≤ x) (hx2 : x + 4 < 26) (G : Cp h made size t l w) : Ev (d + 4) MX2_countAnswers 0 (lv_args 0 [.ref x, .ref 3]) [] n (LX h x S C F R) (.inl none, n, LX h x S (ccF t (fun i C => anO S 0 (w D i) (l D i) (w (1 - D) i) (l (1 - D) i) C) made (fun _ => 0)) F R, 0, 0) := by
  first | refine ev_aload_n dX2_countAnswers_0 rfl ?_ | refine ev_aload_nN dX2_countAnswers_0 rfl ?_
  refine ev_getfield dX2_countAnswers_1 fl_RX2_15 (by repeat (first | assumption | exact up_s | refine (up_n (by omega)).trans ?_)) rfl ?_
  refine ev_lconst dX2_countAnswers_4 lc0 ?_
  refine ev_S2v dX2_countAnswers_5 st_RX2_47 na_J7_fill_d0a16 (Nat.le_of_ble_eq_true rfl) (Nat.le_of_ble_eq_true rfl) (mJ_fillL (v := 0) (by omega) (by omega) LX_2) ?_
  refine ev_iconst dX2_countAnswers_8 ci0 ?_
  refine ev_istore_n dX2_countAnswers_9 (Nat.le_of_ble_eq_true rfl) ?_
  refine ev_heap (LX_C _) ?_
  refine ev_sub ?_ (lp_ca g hS hD hx1 hx2 G made 0 (by omega))
  repeat (first | exact trivial | refine ⟨rfl, ?_⟩)
theorem lp_pr (g : Lh h x D) (g4 : h (x + 4) = aR 15 R) (hR : ∀ k, k < 15 → -1 ≤ R k ∧ R k < 2 ^ 62) :
    ∀ k i, i + k = 15 → Ev d MX2_placeOfGreatestRest 9 [(0, .ref x), (1, .int (nI (prF R i).1)), (2, .long (lZ (prF R i).2)), (4, .int (nI i))] [] n h (.inl (some (.int (nI (prF R 15).1))), n, h, 0, 0) := by
  have hp : ∀ i, i ≤ 15 → -1 ≤ (prF R i).2 ∧ (prF R i).2 < 2 ^ 62 := by
    intro i
    induction i with
    | zero => intro _; exact ⟨by show (-1 : Int) ≤ -1; omega, by show (-1 : Int) < 2 ^ 62; omega⟩
    | succ i ih =>
      intro hi
      unfold prF
      split
      · exact hR i (by omega)
      · exact ih (by omega)
  intro k
  induction k with
  | zero =>
    intro i hi
    have e : i = 15 := by omega
    subst e
    refine ev_iload dX2_placeOfGreatestRest_9 rfl ?_
    first | refine ev_aload_n dX2_placeOfGreatestRest_11 rfl ?_ | refine ev_aload_nN dX2_placeOfGreatestRest_11 rfl ?_
    refine ev_getfield dX2_placeOfGreatestRest_12 fl_RX2_22 (by repeat (first | assumption | exact up_s | refine (up_n (by omega)).trans ?_)) rfl ?_
    refine ev_alen dX2_placeOfGreatestRest_15 (by repeat (first | assumption | exact up_s | refine (up_n (by omega)).trans ?_)) (by decide) ?_
    refine ev_icmp_geT (tgt := 48) dX2_placeOfGreatestRest_16 (by decide) (by first | assumption | exact nI_le (by omega) (by omega) | decide) ?_
    refine ev_iload_n dX2_placeOfGreatestRest_48 rfl ?_
    exact ev_ireturnE dX2_placeOfGreatestRest_49 rfl (by rfl)
  | succ k ih =>
    intro i hi
    have h1 := hp i (by omega)
    have h2 := hR i (by omega)
    have ih := ih (i + 1) (by omega)
    by_cases q : (prF R i).2 < R i
    · have e : prF R (i + 1) = (i, R i) := if_pos q
      rw [e] at ih
      refine ev_iload dX2_placeOfGreatestRest_9 rfl ?_
      first | refine ev_aload_n dX2_placeOfGreatestRest_11 rfl ?_ | refine ev_aload_nN dX2_placeOfGreatestRest_11 rfl ?_
      refine ev_getfield dX2_placeOfGreatestRest_12 fl_RX2_22 (by repeat (first | assumption | exact up_s | refine (up_n (by omega)).trans ?_)) rfl ?_
      refine ev_alen dX2_placeOfGreatestRest_15 (by repeat (first | assumption | exact up_s | refine (up_n (by omega)).trans ?_)) (by decide) ?_
      refine ev_icmp_geF dX2_placeOfGreatestRest_16 48 (by decide) (by first | assumption | exact nI_ge (by omega) (by omega) | decide) ?_
      first | refine ev_aload_n dX2_placeOfGreatestRest_19 rfl ?_ | refine ev_aload_nN dX2_placeOfGreatestRest_19 rfl ?_
      refine ev_getfield dX2_placeOfGreatestRest_20 fl_RX2_22 (by repeat (first | assumption | exact up_s | refine (up_n (by omega)).trans ?_)) rfl ?_
      refine ev_iload dX2_placeOfGreatestRest_23 rfl ?_
      refine ev_lald dX2_placeOfGreatestRest_25 (by repeat (first | assumption | exact up_s | refine (up_n (by omega)).trans ?_)) _ rfl (by omega) (by omega) ?_
      refine ev_lload_n dX2_placeOfGreatestRest_26 rfl ?_
      refine ev_lcmpZ dX2_placeOfGreatestRest_27 (by omega) (by omega) (by omega) (by omega) ?_
      refine ev_if_leF dX2_placeOfGreatestRest_28 42 (by decide) (by first | assumption | exact cmz_ngt (by omega)) ?_
      first | refine ev_aload_n dX2_placeOfGreatestRest_31 rfl ?_ | refine ev_aload_nN dX2_placeOfGreatestRest_31 rfl ?_
      refine ev_getfield dX2_placeOfGreatestRest_32 fl_RX2_22 (by repeat (first | assumption | exact up_s | refine (up_n (by omega)).trans ?_)) rfl ?_
      refine ev_iload dX2_placeOfGreatestRest_35 rfl ?_
      refine ev_lald dX2_placeOfGreatestRest_37 (by repeat (first | assumption | exact up_s | refine (up_n (by omega)).trans ?_)) _ rfl (by omega) (by omega) ?_
      refine ev_lstore_n dX2_placeOfGreatestRest_38 (Nat.le_of_ble_eq_true rfl) ?_
      refine ev_iload dX2_placeOfGreatestRest_39 rfl ?_
      refine ev_istore_n dX2_placeOfGreatestRest_41 (Nat.le_of_ble_eq_true rfl) ?_
      refine ev_iincN (b := 1) dX2_placeOfGreatestRest_42 rfl (Nat.le_of_ble_eq_true rfl) ?_
      refine ev_goto (tgt := 9) dX2_placeOfGreatestRest_45 (by decide) ?_
      refine ev_sub ?_ (ih)
      repeat (first | exact trivial | refine ⟨rfl, ?_⟩)
    · have e : prF R (i + 1) = prF R i := if_neg q
      rw [e] at ih
      refine ev_iload dX2_placeOfGreatestRest_9 rfl ?_
      first | refine ev_aload_n dX2_placeOfGreatestRest_11 rfl ?_ | refine ev_aload_nN dX2_placeOfGreatestRest_11 rfl ?_
      refine ev_getfield dX2_placeOfGreatestRest_12 fl_RX2_22 (by repeat (first | assumption | exact up_s | refine (up_n (by omega)).trans ?_)) rfl ?_
      refine ev_alen dX2_placeOfGreatestRest_15 (by repeat (first | assumption | exact up_s | refine (up_n (by omega)).trans ?_)) (by decide) ?_
      refine ev_icmp_geF dX2_placeOfGreatestRest_16 48 (by decide) (by first | assumption | exact nI_ge (by omega) (by omega) | decide) ?_
      first | refine ev_aload_n dX2_placeOfGreatestRest_19 rfl ?_ | refine ev_aload_nN dX2_placeOfGreatestRest_19 rfl ?_
      refine ev_getfield dX2_placeOfGreatestRest_20 fl_RX2_22 (by repeat (first | assumption | exact up_s | refine (up_n (by omega)).trans ?_)) rfl ?_
      refine ev_iload dX2_placeOfGreatestRest_23 rfl ?_
      refine ev_lald dX2_placeOfGreatestRest_25 (by repeat (first | assumption | exact up_s | refine (up_n (by omega)).trans ?_)) _ rfl (by omega) (by omega) ?_
      refine ev_lload_n dX2_placeOfGreatestRest_26 rfl ?_
      refine ev_lcmpZ dX2_placeOfGreatestRest_27 (by omega) (by omega) (by omega) (by omega) ?_
      refine ev_if_leT (tgt := 42) dX2_placeOfGreatestRest_28 (by decide) (by first | assumption | exact cmz_le (by omega)) ?_
      refine ev_iincN (b := 1) dX2_placeOfGreatestRest_42 rfl (Nat.le_of_ble_eq_true rfl) ?_
      refine ev_goto (tgt := 9) dX2_placeOfGreatestRest_45 (by decide) ?_
      refine ev_sub ?_ (ih)
      repeat (first | exact trivial | refine ⟨rfl, ?_⟩)
theorem m2_place (g : Lh h x D) (g4 : h (x + 4) = aR 15 R) (hR : ∀ k, k < 15 → -1 ≤ R k ∧ R k < 2 ^ 62) : Ev d MX2_placeOfGreatestRest 0 (lv_args 0 [.ref x]) [] n h (.inl (some (.int (nI (prF R 15).1))), n, h, 0, 0) := by
  refine ev_iconst dX2_placeOfGreatestRest_0 ci0 ?_
  refine ev_istore_n dX2_placeOfGreatestRest_1 (Nat.le_of_ble_eq_true rfl) ?_
  refine ev_ldc2 (v := lZ (-1)) dX2_placeOfGreatestRest_2 (am_in 618 (by decide +kernel) rfl) ?_
  refine ev_lstore_n dX2_placeOfGreatestRest_5 (Nat.le_of_ble_eq_true rfl) ?_
  refine ev_iconst dX2_placeOfGreatestRest_6 ci0 ?_
  refine ev_istore dX2_placeOfGreatestRest_7 (Nat.le_of_ble_eq_true rfl) ?_
  refine ev_sub ?_ (lp_pr g g4 hR 15 0 (by omega))
  repeat (first | exact trivial | refine ⟨rfl, ?_⟩)
theorem grF_R {x : (Nat → Nat) × (Nat → Int)} (hx : ∀ k, k < 15 → -1 ≤ x.2 k ∧ x.2 k < 2 ^ 62) : ∀ m k, k < 15 → -1 ≤ (grF m x).2 k ∧ (grF m x).2 k < 2 ^ 62
  | 0, k, hk => hx k hk
  | m + 1, k, hk => by
    have := grF_R hx m k hk
    show -1 ≤ va_up (grF m x).2 _ (-1) k ∧ va_up (grF m x).2 _ (-1) k < 2 ^ 62
    unfold va_up
    split
    · constructor <;> omega
    · exact this
theorem grF_F {x : (Nat → Nat) × (Nat → Int)} {B : Nat} (hx : ∀ k, x.1 k ≤ B) : ∀ m k, (grF m x).1 k ≤ B + m
  | 0, k => hx k
  | m + 1, k => by
    have h1 := grF_F hx m
    have h2 := h1 k
    have h3 := h1 (prF (grF m x).2 15).1
    show va_up (grF m x).1 _ ((grF m x).1 _ + 1) k ≤ _
    unfold va_up
    split <;> omega
theorem lp_gr (g : Lh h x D) (hF : ∀ k, F k ≤ 1000000) (hR : ∀ k, k < 15 → -1 ≤ R k ∧ R k < 2 ^ 62) {m : Nat} (hm : m < 15) :
    ∀ k i, i + k = m → Ev (d + 1) MX2_giveRests 2 [(0, .ref x), (1, .int (nI m)), (2, .int (nI i))] [] n (LX h x S C (grF i (F, R)).1 (grF i (F, R)).2) (.inl none, n, LX h x S C (grF m (F, R)).1 (grF m (F, R)).2, 0, 0) := by
  intro k
  induction k with
  | zero =>
    intro i hi
    have e : i = m := by omega
    subst e
    refine ev_iload_n dX2_giveRests_2 rfl ?_
    refine ev_iload_n dX2_giveRests_3 rfl ?_
    refine ev_icmp_geT (tgt := 65) dX2_giveRests_4 (by decide) (by first | assumption | exact nI_le (by omega) (by omega) | decide) ?_
    exact ev_vreturnE dX2_giveRests_65 rfl (by rfl)
  | succ k ih =>
    intro i hi
    have h1 := prF_lt (grF i (F, R)).2 15 (by omega)
    have h2 := grF_R (x := (F, R)) hR i
    have h3 := grF_F (x := (F, R)) hF i (prF (grF i (F, R)).2 15).1
    refine ev_iload_n dX2_giveRests_2 rfl ?_
    refine ev_iload_n dX2_giveRests_3 rfl ?_
    refine ev_icmp_geF dX2_giveRests_4 65 (by decide) (by first | assumption | exact nI_ge (by omega) (by omega) | decide) ?_
    refine ev_iload_n dX2_giveRests_7 rfl ?_
    refine ev_bipush dX2_giveRests_8 bp15 ?_
    refine ev_icmp_geF dX2_giveRests_10 65 (by decide) (by first | assumption | exact nI_ge (by omega) (by omega) | decide) ?_
    first | refine ev_aload_n dX2_giveRests_13 rfl ?_ | refine ev_aload_nN dX2_giveRests_13 rfl ?_
    refine ev_V0 dX2_giveRests_14 st_RX2_123 na_X2_placeOfGreatestRest (Nat.le_of_ble_eq_true rfl) (Nat.le_of_ble_eq_true rfl) (by repeat (first | assumption | exact up_s | refine (up_n (by omega)).trans ?_)) rfl (m2_place (LX_h g) LX_4 h2) ?_
    refine ev_istore_n dX2_giveRests_17 (Nat.le_of_ble_eq_true rfl) ?_
    refine ev_iload_n dX2_giveRests_18 rfl ?_
    refine ev_if_ltF dX2_giveRests_19 59 (by decide) (by first | assumption | exact nI_pos (by omega) | decide) ?_
    refine ev_iload_n dX2_giveRests_22 rfl ?_
    first | refine ev_aload_n dX2_giveRests_23 rfl ?_ | refine ev_aload_nN dX2_giveRests_23 rfl ?_
    refine ev_getfield dX2_giveRests_24 fl_RX2_19 (by repeat (first | assumption | exact up_s | refine (up_n (by omega)).trans ?_)) rfl ?_
    refine ev_alen dX2_giveRests_27 (by repeat (first | assumption | exact up_s | refine (up_n (by omega)).trans ?_)) (by decide) ?_
    refine ev_icmp_geF dX2_giveRests_28 59 (by decide) (by first | assumption | exact nI_ge (by omega) (by omega) | decide) ?_
    refine ev_iload_n dX2_giveRests_31 rfl ?_
    first | refine ev_aload_n dX2_giveRests_32 rfl ?_ | refine ev_aload_nN dX2_giveRests_32 rfl ?_
    refine ev_getfield dX2_giveRests_33 fl_RX2_22 (by repeat (first | assumption | exact up_s | refine (up_n (by omega)).trans ?_)) rfl ?_
    refine ev_alen dX2_giveRests_36 (by repeat (first | assumption | exact up_s | refine (up_n (by omega)).trans ?_)) (by decide) ?_
    refine ev_icmp_geF dX2_giveRests_37 59 (by decide) (by first | assumption | exact nI_ge (by omega) (by omega) | decide) ?_
    first | refine ev_aload_n dX2_giveRests_40 rfl ?_ | refine ev_aload_nN dX2_giveRests_40 rfl ?_
    refine ev_getfield dX2_giveRests_41 fl_RX2_19 (by repeat (first | assumption | exact up_s | refine (up_n (by omega)).trans ?_)) rfl ?_
    refine ev_iload_n dX2_giveRests_44 rfl ?_
    refine ev_dup2_11 dX2_giveRests_45 rfl rfl ?_
    refine ev_iald dX2_giveRests_46 (by repeat (first | assumption | exact up_s | refine (up_n (by omega)).trans ?_)) _ rfl (by omega) (by omega) ?_
    refine ev_iconst dX2_giveRests_47 ci1 ?_
    first | refine ev_iaddN dX2_giveRests_48 ?_ | refine ev_iadd dX2_giveRests_48 ?_
    refine ev_iast dX2_giveRests_49 (by omega) (by repeat (first | assumption | exact up_s | refine (up_n (by omega)).trans ?_)) _ _ rfl rfl (by omega) (by omega) ?_
    first | refine ev_aload_n dX2_giveRests_50 rfl ?_ | refine ev_aload_nN dX2_giveRests_50 rfl ?_
    refine ev_getfield dX2_giveRests_51 fl_RX2_22 (by repeat (first | assumption | exact up_s | refine (up_n (by omega)).trans ?_)) rfl ?_
    refine ev_iload_n dX2_giveRests_54 rfl ?_
    refine ev_heap (LX_F _) ?_
    refine ev_ldc2 (v := lZ (-1)) dX2_giveRests_55 (am_in 618 (by decide +kernel) rfl) ?_
    refine ev_rast dX2_giveRests_58 (by omega) LX_4 _ (-1) rfl rfl h1 (by omega) ?_
    refine ev_iincN (b := 1) dX2_giveRests_59 rfl (Nat.le_of_ble_eq_true rfl) ?_
    refine ev_goto (tgt := 2) dX2_giveRests_62 (by decide) ?_
    refine ev_heap (LX_R _) ?_
    refine ev_sub ?_ (ih (i + 1) (by omega))
    repeat (first | exact trivial | refine ⟨rfl, ?_⟩)
theorem m2_giveRests (g : Lh h x D) (hF : ∀ k, F k ≤ 1000000) (hR : ∀ k, k < 15 → -1 ≤ R k ∧ R k < 2 ^ 62) {m : Nat} (hm : m < 15) : Ev (d + 1) MX2_giveRests 0 (lv_args 0 [.ref x, .int (nI m)]) [] n (LX h x S C F R) (.inl none, n, LX h x S C (grF m (F, R)).1 (grF m (F, R)).2, 0, 0) := by
  refine ev_iconst dX2_giveRests_0 ci0 ?_
  refine ev_istore_n dX2_giveRests_1 (Nat.le_of_ble_eq_true rfl) ?_
  refine ev_sub ?_ (lp_gr g hF hR hm m 0 (by omega))
  repeat (first | exact trivial | refine ⟨rfl, ?_⟩)
end M2B
