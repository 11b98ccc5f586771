/-! the class from outside: weight, begin, round -/
section M9G
variable {d n : Nat} {h h' : Hp} {made : Nat} {t : Nat → Nat} {l : Nat → Nat → Nat} {w : Nat → Nat → Nat → Nat} {S : Nat → Nat → Nat} {W : Nat → Nat}
theorem m9_weightT (g : GS h made t l w S W) {k v : Nat} (hk : k < 5) (hv : v < 10) : ∃ h', Ev (d + 3) MX9_weight 0 (lv_args 0 [.ref 2, .int (nI k), .int (nI v)]) [] n h (.inl (some (.int (nI (W k)))), n, h', 0, 0) ∧ GS h' made t l w S (va_up W k v) ∧ Fr h h' := by
  have g1 := g.1
  obtain ⟨k1, k2, k3, k4, k5, k6, k7⟩ := g.2.2.1
  have hm := pp_gap made
  refine ⟨va_up h 17 (aI 5 (va_up W k v)), ?_, ⟨(up_n (by omega)).trans g1, Cp_up g.2.1 (by omega), ⟨(up_n (by omega)).trans k1, (up_n (by omega)).trans k2, (up_n (by omega)).trans k3, (up_n (by omega)).trans k4, (up_n (by omega)).trans k5, ⟨(up_n (by omega)).trans k6.1, up_s, fun j => ?_⟩, k7⟩, Pr_up g.2.2.2.1 (by omega), ?_, ?_, ?_, ?_, ?_⟩, Fr_up Fr_rfl (by omega)⟩
  · refine ev_iload_n dX9_weight_0 rfl ?_
    refine ev_if_ltF dX9_weight_1 9 (by decide) (by first | assumption | exact nI_pos (by omega) | decide) ?_
    refine ev_iload_n dX9_weight_4 rfl ?_
    refine ev_iconst dX9_weight_5 ci4 ?_
    refine ev_icmp_leT (tgt := 19) dX9_weight_6 (by decide) (by first | assumption | exact nI_le (by omega) (by omega) | decide) ?_
    refine ev_iload_n dX9_weight_19 rfl ?_
    refine ev_if_ltF dX9_weight_20 29 (by decide) (by first | assumption | exact nI_pos (by omega) | decide) ?_
    refine ev_iload_n dX9_weight_23 rfl ?_
    refine ev_bipush dX9_weight_24 bp9 ?_
    refine ev_icmp_leT (tgt := 39) dX9_weight_26 (by decide) (by first | assumption | exact nI_le (by omega) (by omega) | decide) ?_
    first | refine ev_aload_n dX9_weight_39 rfl ?_ | refine ev_aload_nN dX9_weight_39 rfl ?_
    refine ev_getfield dX9_weight_40 fl_RX9_19 (by repeat (first | assumption | exact up_s | refine (up_n (by omega)).trans ?_)) rfl ?_
    refine ev_iload_n dX9_weight_43 rfl ?_
    refine ev_iload_n dX9_weight_44 rfl ?_
    refine ev_V2 dX9_weight_45 st_RX9_131 na_X4_setWeight (Nat.le_of_ble_eq_true rfl) (Nat.le_of_ble_eq_true rfl) (by repeat (first | assumption | exact up_s | refine (up_n (by omega)).trans ?_)) rfl (m4_setWeight k1 k6 hk v) ?_
    exact ev_ireturnE dX9_weight_48 rfl (by rfl)
  · unfold va_up
    split
    · omega
    · exact k6.2.2 j
  · obtain ⟨a0, a1, B, E, J, x1, x2, x3, x4⟩ := g.2.2.2.2.1
    exact ⟨a0, a1, B, E, J, (up_n (by omega)).trans x1, (up_n (by omega)).trans x2, (up_n (by omega)).trans x3, (up_n (by omega)).trans x4⟩
  · obtain ⟨C1, F1, y1, y2⟩ := g.2.2.2.2.2.1
    exact ⟨C1, F1, (up_n (by omega)).trans y1, (up_n (by omega)).trans y2⟩
  · obtain ⟨P, N, A, z1, z2⟩ := g.2.2.2.2.2.2.1
    exact ⟨P, N, A, (up_n (by omega)).trans z1, (up_n (by omega)).trans z2⟩
  · obtain ⟨C2, F2, R2, u1, u2, u3⟩ := g.2.2.2.2.2.2.2.1
    exact ⟨C2, F2, R2, (up_n (by omega)).trans u1, (up_n (by omega)).trans u2, (up_n (by omega)).trans u3⟩
  · obtain ⟨C2, F2, R2, u1, u2, u3⟩ := g.2.2.2.2.2.2.2.2
    exact ⟨C2, F2, R2, (up_n (by omega)).trans u1, (up_n (by omega)).trans u2, (up_n (by omega)).trans u3⟩
theorem m9_weight1 {x y : Int32} (hx : ¬ inN x 5) : Ev (d + 3) MX9_weight 0 (lv_args 0 [.ref 2, .int x, .int y]) [] n h (.inr IOE, n, h, 1, 6) := by
  rcases inN_not hx with q | ⟨j, q1, q2, rfl⟩
  · refine ev_iload_n dX9_weight_0 rfl ?_
    refine ev_if_ltT (tgt := 9) dX9_weight_1 (by decide) (by first | assumption | decide) ?_
    exact ev_throwS th_X9_weight_9 (Nat.le_of_ble_eq_true rfl) rfl
  · refine ev_iload_n dX9_weight_0 rfl ?_
    refine ev_if_ltF dX9_weight_1 9 (by decide) (by first | assumption | exact nI_pos (by omega) | decide) ?_
    refine ev_iload_n dX9_weight_4 rfl ?_
    refine ev_iconst dX9_weight_5 ci4 ?_
    refine ev_icmp_leF dX9_weight_6 19 (by decide) (by first | assumption | exact nI_ge (by omega) (by omega) | decide) ?_
    exact ev_throwS th_X9_weight_9 (Nat.le_of_ble_eq_true rfl) rfl
theorem m9_weight2 {k : Nat} {y : Int32} (hk : k < 5) (hy : ¬ inN y 10) : Ev (d + 3) MX9_weight 0 (lv_args 0 [.ref 2, .int (nI k), .int y]) [] n h (.inr "java/lang/IllegalArgumentException", n, h, 1, 6) := by
  rcases inN_not hy with q | ⟨j, q1, q2, rfl⟩
  · refine ev_iload_n dX9_weight_0 rfl ?_
    refine ev_if_ltF dX9_weight_1 9 (by decide) (by first | assumption | exact nI_pos (by omega) | decide) ?_
    refine ev_iload_n dX9_weight_4 rfl ?_
    refine ev_iconst dX9_weight_5 ci4 ?_
    refine ev_icmp_leT (tgt := 19) dX9_weight_6 (by decide) (by first | assumption | exact nI_le (by omega) (by omega) | decide) ?_
    refine ev_iload_n dX9_weight_19 rfl ?_
    refine ev_if_ltT (tgt := 29) dX9_weight_20 (by decide) (by first | assumption | decide) ?_
    exact ev_throwS th_X9_weight_29 (Nat.le_of_ble_eq_true rfl) rfl
  · refine ev_iload_n dX9_weight_0 rfl ?_
    refine ev_if_ltF dX9_weight_1 9 (by decide) (by first | assumption | exact nI_pos (by omega) | decide) ?_
    refine ev_iload_n dX9_weight_4 rfl ?_
    refine ev_iconst dX9_weight_5 ci4 ?_
    refine ev_icmp_leT (tgt := 19) dX9_weight_6 (by decide) (by first | assumption | exact nI_le (by omega) (by omega) | decide) ?_
    refine ev_iload_n dX9_weight_19 rfl ?_
    refine ev_if_ltF dX9_weight_20 29 (by decide) (by first | assumption | exact nI_pos (by omega) | decide) ?_
    refine ev_iload_n dX9_weight_23 rfl ?_
    refine ev_bipush dX9_weight_24 bp9 ?_
    refine ev_icmp_leF dX9_weight_26 39 (by decide) (by first | assumption | exact nI_ge (by omega) (by omega) | decide) ?_
    exact ev_throwS th_X9_weight_29 (Nat.le_of_ble_eq_true rfl) rfl
/-- shares anew out of counts -/
def nwS (C : Nat → Nat → Nat) (S : Nat → Nat → Nat) : Nat → Nat → Nat := fun D => apS (C D) 0 16 (S D)
theorem GS_lex (g : GS h made t l w S W) {C : Nat → Nat → Nat} {F0 F1 : Nat → Nat} {R0 R1 : Nat → Int} : GS (LX (LX h 6 (nwS C S 0) (C 0) F0 R0) 11 (nwS C S 1) (C 1) F1 R1) made t l w (nwS C S) W := by
  obtain ⟨g1, g2, ⟨k1, k2, k3, k4, k5, k6, k7, k8⟩, g4, ⟨a0, a1, B, E, J, x1, x2, x3, x4⟩, ⟨C1, F1', y1, y2⟩, ⟨P, N, A, z1, z2⟩, -, -⟩ := g
  have e : ∀ a, (a < 7 ∨ (10 < a ∧ a < 12) ∨ 15 < a) → LX (LX h 6 (nwS C S 0) (C 0) F0 R0) 11 (nwS C S 1) (C 1) F1 R1 a = h a := fun a q => (LX_o (by omega)).trans (LX_o (by omega))
  have hm := pp_gap made
  exact ⟨(e _ (by omega)).trans g1, LX_Cp (LX_Cp g2 (by omega) (by omega)) (by omega) (by omega), ⟨(e _ (by omega)).trans k1, (e _ (by omega)).trans k2, (e _ (by omega)).trans k3, (LX_o (by omega)).trans LX_1, LX_1, ⟨(e _ (by omega)).trans k6.1, (e _ (by omega)).trans k6.2.1, k6.2.2⟩, apS_SB k7 16, apS_SB k8 16⟩, Pr_cg (fun k hk => e _ (by omega)) g4,
    ⟨a0, a1, B, E, J, (e _ (by omega)).trans x1, (e _ (by omega)).trans x2, (e _ (by omega)).trans x3, (e _ (by omega)).trans x4⟩, ⟨C1, F1', (e _ (by omega)).trans y1, (e _ (by omega)).trans y2⟩, ⟨P, N, A, (e _ (by omega)).trans z1, (e _ (by omega)).trans z2⟩,
    ⟨C 0, F0, R0, (LX_o (by omega)).trans LX_2, (LX_o (by omega)).trans LX_3, (LX_o (by omega)).trans LX_4⟩, ⟨C 1, F1, R1, LX_2, LX_3, LX_4⟩⟩
theorem Fr_LX {x : Nat} {S C F : Nat → Nat} {R : Nat → Int} (h1 : 4 ≤ x) (h2 : x + 4 < 26) : Fr h (LX h x S C F R) := Fr_up (Fr_up (Fr_up (Fr_up Fr_rfl (by omega)) (by omega)) (by omega)) (by omega)
def beC (t : Nat → Nat) (l : Nat → Nat → Nat) (w : Nat → Nat → Nat → Nat) (made : Nat) : Nat → Nat → Nat := fun D => cmC t l w D 0 made
def roC (t : Nat → Nat) (l : Nat → Nat → Nat) (w : Nat → Nat → Nat → Nat) (S : Nat → Nat → Nat) (made : Nat) : Nat → Nat → Nat := fun D => caC t l w (S D) D 0 made
theorem m9_begin (g : GS h made t l w S W) : ∃ h', Ev (d + 6) MX9_begin 0 (lv_args 0 [.ref 2]) [] n h (.inl (some (.int (nI (szN (nwS (beC t l w made) S 0) 240 + szN (nwS (beC t l w made) S 1) 240)))), n, h', 0, 0) ∧ GS h' made t l w (nwS (beC t l w made) S) W ∧ Fr h h' := by
  have g1 := g.1
  have c1 := g.2.1.1
  obtain ⟨k1, k2, k3, k4, k5, k6, k7, k8⟩ := g.2.2.1
  obtain ⟨C2, F2, R2, u1, u2, u3⟩ := g.2.2.2.2.2.2.2.1
  obtain ⟨C3, F3, R3, v1, v2, v3⟩ := g.2.2.2.2.2.2.2.2
  obtain ⟨F0, R0, s0⟩ := m2_start (d := d) (n := n) (S := S 0) (C := C2) (F := F2) (R := R2) k2 k7 (by omega) (by omega) (by omega) g.2.1
  rw [LX_id (h := h) (x := 6) (e1 := k4) (e2 := u1) (e3 := u2) (e4 := u3)] at s0
  have G1 : Cp (LX h 6 (nwS (beC t l w made) S 0) (beC t l w made 0) F0 R0) made (sumN t made) t l w := LX_Cp g.2.1 (by omega) (by omega)
  obtain ⟨F1, R1, s1⟩ := m2_start (d := d) (n := n) (h := LX h 6 (nwS (beC t l w made) S 0) (beC t l w made 0) F0 R0) (x := 11) (D := 1) (S := S 1) (C := C3) (F := F3) (R := R3) ((LX_o (by omega)).trans k3) k8 (by omega) (by omega) (by omega) G1
  rw [LX_id (h := LX h 6 (nwS (beC t l w made) S 0) (beC t l w made 0) F0 R0) (x := 11) (e1 := (LX_o (by omega)).trans k5) (e2 := (LX_o (by omega)).trans v1) (e3 := (LX_o (by omega)).trans v2) (e4 := (LX_o (by omega)).trans v3)] at s1
  have g2' : LX h 6 (nwS (beC t l w made) S 0) (beC t l w made 0) F0 R0 2 = _ := (LX_o (by omega)).trans g1
  have g5' : LX h 6 (nwS (beC t l w made) S 0) (beC t l w made 0) F0 R0 5 = _ := (LX_o (by omega)).trans k1
  have g11 : LX h 6 (nwS (beC t l w made) S 0) (beC t l w made 0) F0 R0 11 = _ := (LX_o (by omega)).trans k3
  refine ⟨_, ?_, GS_lex g (C := beC t l w made) (F0 := F0) (R0 := R0) (F1 := F1) (R1 := R1), Fr_trans (Fr_LX (by omega) (by omega)) (Fr_LX (by omega) (by omega))⟩
  first | refine ev_aload_n dX9_begin_0 rfl ?_ | refine ev_aload_nN dX9_begin_0 rfl ?_
  refine ev_getfield dX9_begin_1 fl_RX9_19 (by repeat (first | assumption | exact up_s | refine (up_n (by omega)).trans ?_)) rfl ?_
  refine ev_iconst dX9_begin_4 ci0 ?_
  refine ev_V1 dX9_begin_5 st_RX9_111 na_X4_lexicon (Nat.le_of_ble_eq_true rfl) (Nat.le_of_ble_eq_true rfl) (by repeat (first | assumption | exact up_s | refine (up_n (by omega)).trans ?_)) rfl (m4_lexicon k1 (show 0 ≤ 1 by omega)) ?_
  first | refine ev_aload_n dX9_begin_8 rfl ?_ | refine ev_aload_nN dX9_begin_8 rfl ?_
  refine ev_getfield dX9_begin_9 fl_RX9_12 (by repeat (first | assumption | exact up_s | refine (up_n (by omega)).trans ?_)) rfl ?_
  refine ev_V1 dX9_begin_12 st_RX9_115 na_X2_start (Nat.le_of_ble_eq_true rfl) (Nat.le_of_ble_eq_true rfl) (by repeat (first | assumption | exact up_s | refine (up_n (by omega)).trans ?_)) rfl (s0) ?_
  first | refine ev_aload_n dX9_begin_15 rfl ?_ | refine ev_aload_nN dX9_begin_15 rfl ?_
  refine ev_getfield dX9_begin_16 fl_RX9_19 (by repeat (first | assumption | exact up_s | refine (up_n (by omega)).trans ?_)) rfl ?_
  refine ev_iconst dX9_begin_19 ci1 ?_
  refine ev_V1 dX9_begin_20 st_RX9_111 na_X4_lexicon (Nat.le_of_ble_eq_true rfl) (Nat.le_of_ble_eq_true rfl) (by repeat (first | assumption | exact up_s | refine (up_n (by omega)).trans ?_)) rfl (m4_lexicon g5' (show 1 ≤ 1 by omega)) ?_
  first | refine ev_aload_n dX9_begin_23 rfl ?_ | refine ev_aload_nN dX9_begin_23 rfl ?_
  refine ev_getfield dX9_begin_24 fl_RX9_12 (by repeat (first | assumption | exact up_s | refine (up_n (by omega)).trans ?_)) rfl ?_
  refine ev_V1 dX9_begin_27 st_RX9_115 na_X2_start (Nat.le_of_ble_eq_true rfl) (Nat.le_of_ble_eq_true rfl) (by repeat (first | assumption | exact up_s | refine (up_n (by omega)).trans ?_)) rfl (s1) ?_
  first | refine ev_iaddN dX9_begin_30 ?_ | refine ev_iadd dX9_begin_30 ?_
  exact ev_ireturnE dX9_begin_31 rfl (by rfl)
theorem m9_round (g : GS h made t l w S W) : ∃ h', Ev (d + 6) MX9_round 0 (lv_args 0 [.ref 2]) [] n h (.inl (some (.int (nI (apN (roC t l w S made 0) 0 (S 0) 16 + apN (roC t l w S made 1) 0 (S 1) 16)))), n, h', 0, 0) ∧ GS h' made t l w (nwS (roC t l w S made) S) W ∧ Fr h h' := by
  have g1 := g.1
  have c1 := g.2.1.1
  obtain ⟨k1, k2, k3, k4, k5, k6, k7, k8⟩ := g.2.2.1
  obtain ⟨C2, F2, R2, u1, u2, u3⟩ := g.2.2.2.2.2.2.2.1
  obtain ⟨C3, F3, R3, v1, v2, v3⟩ := g.2.2.2.2.2.2.2.2
  obtain ⟨F0, R0, s0⟩ := m2_learn (d := d) (n := n) (S := S 0) (C := C2) (F := F2) (R := R2) k2 k7 (by omega) (by omega) (by omega) g.2.1
  rw [LX_id (h := h) (x := 6) (e1 := k4) (e2 := u1) (e3 := u2) (e4 := u3)] at s0
  have G1 : Cp (LX h 6 (nwS (roC t l w S made) S 0) (roC t l w S made 0) F0 R0) made (sumN t made) t l w := LX_Cp g.2.1 (by omega) (by omega)
  obtain ⟨F1, R1, s1⟩ := m2_learn (d := d) (n := n) (h := LX h 6 (nwS (roC t l w S made) S 0) (roC t l w S made 0) F0 R0) (x := 11) (D := 1) (S := S 1) (C := C3) (F := F3) (R := R3) ((LX_o (by omega)).trans k3) k8 (by omega) (by omega) (by omega) G1
  rw [LX_id (h := LX h 6 (nwS (roC t l w S made) S 0) (roC t l w S made 0) F0 R0) (x := 11) (e1 := (LX_o (by omega)).trans k5) (e2 := (LX_o (by omega)).trans v1) (e3 := (LX_o (by omega)).trans v2) (e4 := (LX_o (by omega)).trans v3)] at s1
  have g2' : LX h 6 (nwS (roC t l w S made) S 0) (roC t l w S made 0) F0 R0 2 = _ := (LX_o (by omega)).trans g1
  have g5' : LX h 6 (nwS (roC t l w S made) S 0) (roC t l w S made 0) F0 R0 5 = _ := (LX_o (by omega)).trans k1
  have g11 : LX h 6 (nwS (roC t l w S made) S 0) (roC t l w S made 0) F0 R0 11 = _ := (LX_o (by omega)).trans k3
  refine ⟨_, ?_, GS_lex g (C := roC t l w S made) (F0 := F0) (R0 := R0) (F1 := F1) (R1 := R1), Fr_trans (Fr_LX (by omega) (by omega)) (Fr_LX (by omega) (by omega))⟩
  first | refine ev_aload_n dX9_round_0 rfl ?_ | refine ev_aload_nN dX9_round_0 rfl ?_
  refine ev_getfield dX9_round_1 fl_RX9_19 (by repeat (first | assumption | exact up_s | refine (up_n (by omega)).trans ?_)) rfl ?_
  refine ev_iconst dX9_round_4 ci0 ?_
  refine ev_V1 dX9_round_5 st_RX9_111 na_X4_lexicon (Nat.le_of_ble_eq_true rfl) (Nat.le_of_ble_eq_true rfl) (by repeat (first | assumption | exact up_s | refine (up_n (by omega)).trans ?_)) rfl (m4_lexicon k1 (show 0 ≤ 1 by omega)) ?_
  first | refine ev_aload_n dX9_round_8 rfl ?_ | refine ev_aload_nN dX9_round_8 rfl ?_
  refine ev_getfield dX9_round_9 fl_RX9_12 (by repeat (first | assumption | exact up_s | refine (up_n (by omega)).trans ?_)) rfl ?_
  refine ev_V1 dX9_round_12 st_RX9_121 na_X2_learn (Nat.le_of_ble_eq_true rfl) (Nat.le_of_ble_eq_true rfl) (by repeat (first | assumption | exact up_s | refine (up_n (by omega)).trans ?_)) rfl (s0) ?_
  first | refine ev_aload_n dX9_round_15 rfl ?_ | refine ev_aload_nN dX9_round_15 rfl ?_
  refine ev_getfield dX9_round_16 fl_RX9_19 (by repeat (first | assumption | exact up_s | refine (up_n (by omega)).trans ?_)) rfl ?_
  refine ev_iconst dX9_round_19 ci1 ?_
  refine ev_V1 dX9_round_20 st_RX9_111 na_X4_lexicon (Nat.le_of_ble_eq_true rfl) (Nat.le_of_ble_eq_true rfl) (by repeat (first | assumption | exact up_s | refine (up_n (by omega)).trans ?_)) rfl (m4_lexicon g5' (show 1 ≤ 1 by omega)) ?_
  first | refine ev_aload_n dX9_round_23 rfl ?_ | refine ev_aload_nN dX9_round_23 rfl ?_
  refine ev_getfield dX9_round_24 fl_RX9_12 (by repeat (first | assumption | exact up_s | refine (up_n (by omega)).trans ?_)) rfl ?_
  refine ev_V1 dX9_round_27 st_RX9_121 na_X2_learn (Nat.le_of_ble_eq_true rfl) (Nat.le_of_ble_eq_true rfl) (by repeat (first | assumption | exact up_s | refine (up_n (by omega)).trans ?_)) rfl (s1) ?_
  first | refine ev_iaddN dX9_round_30 ?_ | refine ev_iadd dX9_round_30 ?_
  exact ev_ireturnE dX9_round_31 rfl (by rfl)
end M9G
