/-! making the class, whole -/
section MK3
variable {d n : Nat} {h : Hp}
theorem m4_init (g : h 5 = .inr (4, [.null, .null, .null])) : ∃ h', Ev (d + 1) MX4_init 0 (lv_args 0 [.ref 5]) [] 6 h (.inl none, 18, h', 12, 1036) ∧ h' 5 = .inr (4, [.ref 6, .ref 11, .ref 16]) ∧
    (Lh h' 6 0 ∧ h' 7 = aI 240 (fun _ => 0) ∧ h' 8 = aL 240 (fun _ => 0) ∧ h' 9 = aI 15 (fun _ => 0) ∧ h' 10 = aR 15 (fun _ => 0)) ∧
    (Lh h' 11 1 ∧ h' 12 = aI 240 (fun _ => 0) ∧ h' 13 = aL 240 (fun _ => 0) ∧ h' 14 = aI 15 (fun _ => 0) ∧ h' 15 = aR 15 (fun _ => 0)) ∧
    h' 16 = .inr (8, [.ref 17]) ∧ h' 17 = .inl (0, 5, .inl am_fw) ∧ ∀ a, a < 5 ∨ 17 < a → h' a = h a := by
  obtain ⟨h1, ev1, f1, f2, f3, f4, f5, o1⟩ := m2_init (d := d) (h := va_up h 6 (.inr (2, [.int 0, .null, .null, .null, .null]))) (b := 6) (D := 0) up_s (by omega)
  have x1 : h1 5 = .inr (4, [.null, .null, .null]) := (o1 5 (by omega)).trans ((up_n (by omega)).trans g)
  obtain ⟨h2, ev2, p1, p2, p3, p4, p5, o2⟩ := m2_init (d := d) (h := va_up (va_up h1 5 (.inr (4, [.ref 6, .null, .null]))) 11 (.inr (2, [.int 0, .null, .null, .null, .null]))) (b := 11) (D := 1) up_s (by omega)
  have x2 : h2 5 = .inr (4, [.ref 6, .null, .null]) := (o2 5 (by omega)).trans ((up_n (by omega)).trans up_s)
  have oo : ∀ a, 5 < a → a < 11 → h2 a = h1 a := fun a q1 q2 => (o2 a (by omega)).trans ((up_n (by omega)).trans (up_n (by omega)))
  obtain ⟨h3, ev3, r1, r2, o3⟩ := m8_init (d := d) (h := va_up (va_up h2 5 (.inr (4, [.ref 6, .ref 11, .null]))) 16 (.inr (8, [.null]))) (b := 16) up_s (by omega)
  have x3 : h3 5 = .inr (4, [.ref 6, .ref 11, .null]) := (o3 5 (by omega)).trans ((up_n (by omega)).trans up_s)
  have op : ∀ a, 5 < a → a < 16 → h3 a = h2 a := fun a q1 q2 => (o3 a (by omega)).trans ((up_n (by omega)).trans (up_n (by omega)))
  have oq : ∀ a, 5 < a → a < 11 → h3 a = h1 a := fun a q1 q2 => (op a (by omega) (by omega)).trans (oo a q1 q2)
  refine ⟨va_up h3 5 (.inr (4, [.ref 6, .ref 11, .ref 16])), ?_, up_s, ⟨(up_n (by omega)).trans ((oq 6 (by omega) (by omega)).trans f1), (up_n (by omega)).trans ((oq 7 (by omega) (by omega)).trans f2), (up_n (by omega)).trans ((oq 8 (by omega) (by omega)).trans f3), (up_n (by omega)).trans ((oq 9 (by omega) (by omega)).trans f4), (up_n (by omega)).trans ((oq 10 (by omega) (by omega)).trans f5)⟩,
    ⟨(up_n (by omega)).trans ((op 11 (by omega) (by omega)).trans p1), (up_n (by omega)).trans ((op 12 (by omega) (by omega)).trans p2), (up_n (by omega)).trans ((op 13 (by omega) (by omega)).trans p3), (up_n (by omega)).trans ((op 14 (by omega) (by omega)).trans p4), (up_n (by omega)).trans ((op 15 (by omega) (by omega)).trans p5)⟩, (up_n (by omega)).trans r1, (up_n (by omega)).trans r2, fun a q => ?_⟩
  · first | refine ev_aload_n dX4_init_0 rfl ?_ | refine ev_aload_nN dX4_init_0 rfl ?_
    refine ev_objInit dX4_init_1 (am_in 80 (by decide +kernel) rfl) (Nat.le_of_ble_eq_true rfl) ?_
    first | refine ev_aload_n dX4_init_4 rfl ?_ | refine ev_aload_nN dX4_init_4 rfl ?_
    refine ev_newS dX4_init_5 nw_RX4_9 (by decide) (by decide) ?_
    refine ev_dup dX4_init_8 rfl ?_
    refine ev_iconst dX4_init_9 ci0 ?_
    refine ev_I1vS dX4_init_10 st_RX4_11 na_X2_init (Nat.le_of_ble_eq_true rfl) (Nat.le_of_ble_eq_true rfl) (by decide) (by decide) (ev1) ?_
    refine ev_putfield dX4_init_13 fl_RX4_14 (fit_4_0 _) (fun _ => ⟨rfl, rfl⟩) (by repeat (first | assumption | exact up_s | refine (up_n (by omega)).trans ?_)) (Nat.le_of_ble_eq_true rfl) ?_
    first | refine ev_aload_n dX4_init_16 rfl ?_ | refine ev_aload_nN dX4_init_16 rfl ?_
    refine ev_newS dX4_init_17 nw_RX4_9 (by decide) (by decide) ?_
    refine ev_dup dX4_init_20 rfl ?_
    refine ev_iconst dX4_init_21 ci1 ?_
    refine ev_I1vS dX4_init_22 st_RX4_11 na_X2_init (Nat.le_of_ble_eq_true rfl) (Nat.le_of_ble_eq_true rfl) (by decide) (by decide) (ev2) ?_
    refine ev_putfield dX4_init_25 fl_RX4_20 (fit_4_1 _) (fun _ => ⟨rfl, rfl⟩) (by repeat (first | assumption | exact up_s | refine (up_n (by omega)).trans ?_)) (Nat.le_of_ble_eq_true rfl) ?_
    first | refine ev_aload_n dX4_init_28 rfl ?_ | refine ev_aload_nN dX4_init_28 rfl ?_
    refine ev_newS dX4_init_29 nw_RX4_23 (by decide) (by decide) ?_
    refine ev_dup dX4_init_32 rfl ?_
    refine ev_N0vS dX4_init_33 st_RX4_25 na_X8_init (Nat.le_of_ble_eq_true rfl) (Nat.le_of_ble_eq_true rfl) (by decide) (by decide) (ev3) ?_
    refine ev_putfield dX4_init_36 fl_RX4_26 (fit_4_2 _) (fun _ => ⟨rfl, rfl⟩) (by repeat (first | assumption | exact up_s | refine (up_n (by omega)).trans ?_)) (Nat.le_of_ble_eq_true rfl) ?_
    exact ev_vreturnE dX4_init_39 rfl (by rfl)
  · exact (up_n (by omega)).trans ((o3 a (by omega)).trans ((up_n (by omega)).trans ((up_n (by omega)).trans ((o2 a (by omega)).trans ((up_n (by omega)).trans ((up_n (by omega)).trans ((o1 a (by omega)).trans (up_n (by omega)))))))))
theorem aI_fw : (.inl (0, 5, .inl am_fw) : va_E) = aI 5 fwN := by
  have e : am_fw = fun k => nI (fwN k) := funext fun k => by
    unfold am_fw fwN
    split
    · decide +kernel
    · split
      · decide +kernel
      · split
        · decide +kernel
        · decide +kernel
  rw [e]
theorem m9_init (g : h 2 = .inr (9, [.null, .null, .null, .null, .null, .null])) : ∃ h', Ev (d + 2) MX9_init 0 (lv_args 0 [.ref 2]) [] 3 h (.inl none, 31, h', 28, 1159) ∧ GS h' 0 (fun _ => 0) (fun _ _ => 0) (fun _ _ _ => 0) (fun _ _ => 0) fwN ∧ ∀ a, a < 2 ∨ 30 < a → h' a = h a := by
  obtain ⟨h1, ev1, f1, f2, o1⟩ := m1_init (d := d + 1) (h := va_up h 3 (.inr (1, [.null, .int 0, .int 0]))) (b := 3) up_s (by omega)
  have x1 : h1 2 = .inr (9, [.null, .null, .null, .null, .null, .null]) := (o1 2 (by omega)).trans ((up_n (by omega)).trans g)
  obtain ⟨h2, ev2, p1, p2, p3, p4, p5, o2⟩ := m4_init (d := d) (h := va_up (va_up h1 2 (.inr (9, [.ref 3, .null, .null, .null, .null, .null]))) 5 (.inr (4, [.null, .null, .null]))) up_s
  have x2 : h2 2 = .inr (9, [.ref 3, .null, .null, .null, .null, .null]) := (o2 2 (by omega)).trans ((up_n (by omega)).trans up_s)
  obtain ⟨h3, ev3, q1, q2, q3, q4, o3⟩ := m0_init (d := d + 1) (h := va_up (va_up h2 2 (.inr (9, [.ref 3, .ref 5, .null, .null, .null, .null]))) 18 (.inr (0, [.null, .null, .null, .int 0, .int 0]))) (b := 18) up_s (by omega)
  have x3 : h3 2 = .inr (9, [.ref 3, .ref 5, .null, .null, .null, .null]) := (o3 2 (by omega)).trans ((up_n (by omega)).trans up_s)
  obtain ⟨h4, ev4, r1, r2, o4⟩ := m5_init (d := d + 1) (h := va_up (va_up h3 2 (.inr (9, [.ref 3, .ref 5, .ref 18, .null, .null, .null]))) 22 (.inr (5, [.null, .int 0]))) (b := 22) up_s (by omega)
  have x4 : h4 2 = .inr (9, [.ref 3, .ref 5, .ref 18, .null, .null, .null]) := (o4 2 (by omega)).trans ((up_n (by omega)).trans up_s)
  obtain ⟨h5, ev5, s1, s2, o5⟩ := m3_init (d := d + 1) (h := va_up (va_up h4 2 (.inr (9, [.ref 3, .ref 5, .ref 18, .ref 22, .null, .null]))) 24 (.inr (3, [.null, .int 0, .int 0]))) (b := 24) up_s (by omega)
  have x5 : h5 2 = .inr (9, [.ref 3, .ref 5, .ref 18, .ref 22, .null, .null]) := (o5 2 (by omega)).trans ((up_n (by omega)).trans up_s)
  have ev6 := m7_init (d := d) (h := va_up (va_up h5 2 (.inr (9, [.ref 3, .ref 5, .ref 18, .ref 22, .ref 24, .null]))) 26 (.inr (7, [.null, .null, .int 0]))) (b := 26) up_s (by omega)
  have x6 : mkP (va_up (va_up h5 2 (.inr (9, [.ref 3, .ref 5, .ref 18, .ref 22, .ref 24, .null]))) 26 (.inr (7, [.null, .null, .int 0]))) 26 2 = .inr (9, [.ref 3, .ref 5, .ref 18, .ref 22, .ref 24, .null]) := (mkP_o (by omega)).trans ((up_n (by omega)).trans up_s)
  have e6 : ∀ a, a ≠ 2 → a < 26 ∨ 30 < a → va_up (mkP (va_up (va_up h5 2 (.inr (9, [.ref 3, .ref 5, .ref 18, .ref 22, .ref 24, .null]))) 26 (.inr (7, [.null, .null, .int 0]))) 26) 2 (.inr (9, [.ref 3, .ref 5, .ref 18, .ref 22, .ref 24, .ref 26])) a = h5 a := fun a z1 z2 => (up_n z1).trans ((mkP_o (by omega)).trans ((up_n (by omega)).trans (up_n z1)))
  have e5 : ∀ a, a ≠ 2 → a < 24 ∨ 25 < a → h5 a = h4 a := fun a z1 z2 => (o5 a (by omega)).trans ((up_n (by omega)).trans (up_n z1))
  have e4 : ∀ a, a ≠ 2 → a < 22 ∨ 23 < a → h4 a = h3 a := fun a z1 z2 => (o4 a (by omega)).trans ((up_n (by omega)).trans (up_n z1))
  have e3 : ∀ a, a ≠ 2 → a < 18 ∨ 21 < a → h3 a = h2 a := fun a z1 z2 => (o3 a (by omega)).trans ((up_n (by omega)).trans (up_n z1))
  have e2 : ∀ a, a ≠ 2 → a < 5 ∨ 17 < a → h2 a = h1 a := fun a z1 z2 => (o2 a (by omega)).trans ((up_n (by omega)).trans (up_n z1))
  have k2 : ∀ a, a ≠ 2 → a < 18 → _ = h2 a := fun a z1 z2 => (e6 a z1 (by omega)).trans ((e5 a z1 (by omega)).trans ((e4 a z1 (by omega)).trans (e3 a z1 (by omega))))
  have k3 : ∀ a, a ≠ 2 → a < 22 → _ = h3 a := fun a z1 z2 => (e6 a z1 (by omega)).trans ((e5 a z1 (by omega)).trans (e4 a z1 (by omega)))
  have k4 : ∀ a, a ≠ 2 → a < 24 → _ = h4 a := fun a z1 z2 => (e6 a z1 (by omega)).trans (e5 a z1 (by omega))
  have k1 : ∀ a, a ≠ 2 → a < 5 → _ = h1 a := fun a z1 z2 => (k2 a z1 (by omega)).trans (e2 a z1 (by omega))
  obtain ⟨u1, u2, u3, u4, u5⟩ := p2
  obtain ⟨v1, v2, v3, v4, v5⟩ := p3
  refine ⟨va_up (mkP (va_up (va_up h5 2 (.inr (9, [.ref 3, .ref 5, .ref 18, .ref 22, .ref 24, .null]))) 26 (.inr (7, [.null, .null, .int 0]))) 26) 2 (.inr (9, [.ref 3, .ref 5, .ref 18, .ref 22, .ref 24, .ref 26])), ?_, ⟨up_s, ⟨(k1 3 (by omega) (by omega)).trans f1, ((k1 4 (by omega) (by omega)).trans f2).trans ?_, by omega, Nat.le_refl _, fun _ => Or.inl rfl, fun i hi => absurd hi (Nat.not_lt_zero _)⟩,
    ⟨(k2 5 (by omega) (by omega)).trans p1, (k2 6 (by omega) (by omega)).trans u1, (k2 11 (by omega) (by omega)).trans v1, (k2 7 (by omega) (by omega)).trans u2, (k2 12 (by omega) (by omega)).trans v2, ⟨(k2 16 (by omega) (by omega)).trans p4, ((k2 17 (by omega) (by omega)).trans p5).trans aI_fw, fun k => ?_⟩, fun _ => Nat.zero_le _, fun _ => Nat.zero_le _⟩, (by rw [show pp 0 = 26 from rfl]; exact Pr_up mkP_Pr (by omega)),
    ⟨0, 0, _, _, _, (k3 18 (by omega) (by omega)).trans q1, (k3 19 (by omega) (by omega)).trans q2, (k3 20 (by omega) (by omega)).trans q3, (k3 21 (by omega) (by omega)).trans q4⟩, ⟨0, _, (k4 22 (by omega) (by omega)).trans r1, (k4 23 (by omega) (by omega)).trans r2⟩, ⟨0, 0, _, (e6 24 (by omega) (by omega)).trans s1, (e6 25 (by omega) (by omega)).trans s2⟩, ⟨_, _, _, (k2 8 (by omega) (by omega)).trans u3, (k2 9 (by omega) (by omega)).trans u4, (k2 10 (by omega) (by omega)).trans u5⟩, ⟨_, _, _, (k2 13 (by omega) (by omega)).trans v3, (k2 14 (by omega) (by omega)).trans v4, (k2 15 (by omega) (by omega)).trans v5⟩⟩, fun a z => ?_⟩
  · first | refine ev_aload_n dX9_init_0 rfl ?_ | refine ev_aload_nN dX9_init_0 rfl ?_
    refine ev_objInit dX9_init_1 (am_in 54 (by decide +kernel) rfl) (Nat.le_of_ble_eq_true rfl) ?_
    first | refine ev_aload_n dX9_init_4 rfl ?_ | refine ev_aload_nN dX9_init_4 rfl ?_
    refine ev_newS dX9_init_5 nw_RX9_9 (by decide) (by decide) ?_
    refine ev_dup dX9_init_8 rfl ?_
    refine ev_N0vS dX9_init_9 st_RX9_11 na_X1_init (Nat.le_of_ble_eq_true rfl) (Nat.le_of_ble_eq_true rfl) (by decide) (by decide) (ev1) ?_
    refine ev_putfield dX9_init_12 fl_RX9_12 (fit_9_0 _) (fun _ => ⟨rfl, rfl⟩) (by repeat (first | assumption | exact up_s | refine (up_n (by omega)).trans ?_)) (Nat.le_of_ble_eq_true rfl) ?_
    first | refine ev_aload_n dX9_init_15 rfl ?_ | refine ev_aload_nN dX9_init_15 rfl ?_
    refine ev_newS dX9_init_16 nw_RX9_16 (by decide) (by decide) ?_
    refine ev_dup dX9_init_19 rfl ?_
    refine ev_N0vS dX9_init_20 st_RX9_18 na_X4_init (Nat.le_of_ble_eq_true rfl) (Nat.le_of_ble_eq_true rfl) (by decide) (by decide) (ev2) ?_
    refine ev_putfield dX9_init_23 fl_RX9_19 (fit_9_1 _) (fun _ => ⟨rfl, rfl⟩) (by repeat (first | assumption | exact up_s | refine (up_n (by omega)).trans ?_)) (Nat.le_of_ble_eq_true rfl) ?_
    first | refine ev_aload_n dX9_init_26 rfl ?_ | refine ev_aload_nN dX9_init_26 rfl ?_
    refine ev_newS dX9_init_27 nw_RX9_23 (by decide) (by decide) ?_
    refine ev_dup dX9_init_30 rfl ?_
    refine ev_N0vS dX9_init_31 st_RX9_25 na_X0_init (Nat.le_of_ble_eq_true rfl) (Nat.le_of_ble_eq_true rfl) (by decide) (by decide) (ev3) ?_
    refine ev_putfield dX9_init_34 fl_RX9_26 (fit_9_2 _) (fun _ => ⟨rfl, rfl⟩) (by repeat (first | assumption | exact up_s | refine (up_n (by omega)).trans ?_)) (Nat.le_of_ble_eq_true rfl) ?_
    first | refine ev_aload_n dX9_init_37 rfl ?_ | refine ev_aload_nN dX9_init_37 rfl ?_
    refine ev_newS dX9_init_38 nw_RX9_30 (by decide) (by decide) ?_
    refine ev_dup dX9_init_41 rfl ?_
    refine ev_N0vS dX9_init_42 st_RX9_32 na_X5_init (Nat.le_of_ble_eq_true rfl) (Nat.le_of_ble_eq_true rfl) (by decide) (by decide) (ev4) ?_
    refine ev_putfield dX9_init_45 fl_RX9_33 (fit_9_3 _) (fun _ => ⟨rfl, rfl⟩) (by repeat (first | assumption | exact up_s | refine (up_n (by omega)).trans ?_)) (Nat.le_of_ble_eq_true rfl) ?_
    first | refine ev_aload_n dX9_init_48 rfl ?_ | refine ev_aload_nN dX9_init_48 rfl ?_
    refine ev_newS dX9_init_49 nw_RX9_37 (by decide) (by decide) ?_
    refine ev_dup dX9_init_52 rfl ?_
    refine ev_N0vS dX9_init_53 st_RX9_39 na_X3_init (Nat.le_of_ble_eq_true rfl) (Nat.le_of_ble_eq_true rfl) (by decide) (by decide) (ev5) ?_
    refine ev_putfield dX9_init_56 fl_RX9_40 (fit_9_4 _) (fun _ => ⟨rfl, rfl⟩) (by repeat (first | assumption | exact up_s | refine (up_n (by omega)).trans ?_)) (Nat.le_of_ble_eq_true rfl) ?_
    first | refine ev_aload_n dX9_init_59 rfl ?_ | refine ev_aload_nN dX9_init_59 rfl ?_
    refine ev_newS dX9_init_60 nw_RX9_44 (by decide) (by decide) ?_
    refine ev_dup dX9_init_63 rfl ?_
    refine ev_N0vS dX9_init_64 st_RX9_46 na_X7_init (Nat.le_of_ble_eq_true rfl) (Nat.le_of_ble_eq_true rfl) (by decide) (by decide) (ev6) ?_
    refine ev_putfield dX9_init_67 fl_RX9_47 (fit_9_5 _) (fun q => absurd q (by decide)) (by repeat (first | assumption | exact up_s | refine (up_n (by omega)).trans ?_)) (Nat.le_of_ble_eq_true rfl) ?_
    exact ev_vreturnE dX9_init_70 rfl (by rfl)
  · exact congrArg (aQ 20) (funext fun i => (if_neg (Nat.not_lt_zero _)).symm)
  · unfold fwN
    split
    · omega
    · split
      · omega
      · split <;> omega
  · exact (e6 a (by omega) (by omega)).trans ((e5 a (by omega) (by omega)).trans ((e4 a (by omega) (by omega)).trans ((e3 a (by omega) (by omega)).trans ((e2 a (by omega) (by omega)).trans ((o1 a (by omega)).trans (up_n (by omega)))))))
end MK3
