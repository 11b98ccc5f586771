/-! making the class -/
theorem aL_z {N : Nat} : (.inl (1, N, .inr (.inl (fun _ => 0))) : va_E) = aL N (fun _ => 0) := rfl
theorem aR_z {N : Nat} : (.inl (1, N, .inr (.inl (fun _ => 0))) : va_E) = aR N (fun _ => 0) := rfl
theorem aZ_z {N : Nat} : (.inl (2, N, .inl (fun _ => 0)) : va_E) = aZ N (fun _ => 0) := by rw [show (fun _ : Nat => (0 : Int32)) = fun _ => nI 0 from by rw [nI_z]]
def fwN (k : Nat) : Nat := if k = 0 then 4 else if k = 1 then 3 else if k = 2 then 2 else 1
theorem fw_eq : (.inl (0, 5, .inl am_fw) : va_E) = .inl (0, 5, .inl am_fw) := rfl
section MK2
variable {d n : Nat} {h : Hp}
theorem m1_init {b : Nat} (g : h b = .inr (1, [.null, .int 0, .int 0])) (hb : 2 ≤ b) : ∃ h', Ev d MX1_init 0 (lv_args 0 [.ref b]) [] (b + 1) h (.inl none, b + 2, h', 1, 20) ∧ h' b = .inr (1, [.ref (b + 1), .int (nI 0), .int (nI 0)]) ∧ h' (b + 1) = aQ 20 (fun _ => none) ∧ ∀ a, a < b ∨ b + 1 < a → h' a = h a := by
  refine ⟨va_up (va_up (h) (b + 1) (.inl (3, 20, .inr (.inr (.inr (.inr (fun _ => none))))))) b (.inr (1, [.ref (b + 1), .int 0, .int 0])), ?_, ?_⟩
  · first | refine ev_aload_n dX1_init_0 rfl ?_ | refine ev_aload_nN dX1_init_0 rfl ?_
    refine ev_objInit dX1_init_1 (am_in 62 (by decide +kernel) rfl) (Nat.le_of_ble_eq_true rfl) ?_
    first | refine ev_aload_n dX1_init_4 rfl ?_ | refine ev_aload_nN dX1_init_4 rfl ?_
    refine ev_bipush dX1_init_5 bp20 ?_
    refine ev_anewarrayS dX1_init_7 (am_in 63 (by decide +kernel) rfl) rfl (by decide) (by decide) (by decide) ?_
    refine ev_putfield dX1_init_10 fl_RX1_11 (fit_1_0 _) (fun _ => ⟨rfl, rfl⟩) (by repeat (first | assumption | exact up_s | refine (up_n (by omega)).trans ?_)) (Nat.le_of_ble_eq_true rfl) ?_
    exact ev_vreturnE dX1_init_13 rfl (by rfl)
  · refine ⟨up_s.trans (by rw [nI_z]), (up_n (by omega)).trans up_s, fun a q => (up_n (by omega)).trans (up_n (by omega))⟩
theorem m2_init {b D : Nat} (g : h b = .inr (2, [.int 0, .null, .null, .null, .null])) (hb : 2 ≤ b) : ∃ h', Ev d MX2_init 0 (lv_args 0 [.ref b, .int (nI D)]) [] (b + 1) h (.inl none, b + 5, h', 4, 510) ∧ Lh h' b D ∧ h' (b + 1) = aI 240 (fun _ => 0) ∧ h' (b + 2) = aL 240 (fun _ => 0) ∧ h' (b + 3) = aI 15 (fun _ => 0) ∧ h' (b + 4) = aR 15 (fun _ => 0) ∧ ∀ a, a < b ∨ b + 4 < a → h' a = h a := by
  refine ⟨va_up (va_up (va_up (va_up (va_up (va_up (va_up (va_up (va_up (h) (b + 1) (.inl (0, 240, .inl (fun _ => 0)))) b (.inr (2, [.int 0, .ref (b + 1), .null, .null, .null]))) (b + 2) (.inl (1, 240, .inr (.inl (fun _ => 0))))) b (.inr (2, [.int 0, .ref (b + 1), .ref (b + 2), .null, .null]))) (b + 3) (.inl (0, 15, .inl (fun _ => 0)))) b (.inr (2, [.int 0, .ref (b + 1), .ref (b + 2), .ref (b + 3), .null]))) (b + 4) (.inl (1, 15, .inr (.inl (fun _ => 0))))) b (.inr (2, [.int 0, .ref (b + 1), .ref (b + 2), .ref (b + 3), .ref (b + 4)]))) b (.inr (2, [.int (nI D), .ref (b + 1), .ref (b + 2), .ref (b + 3), .ref (b + 4)])), ?_, ?_⟩
  · first | refine ev_aload_n dX2_init_0 rfl ?_ | refine ev_aload_nN dX2_init_0 rfl ?_
    refine ev_objInit dX2_init_1 (am_in 86 (by decide +kernel) rfl) (Nat.le_of_ble_eq_true rfl) ?_
    first | refine ev_aload_n dX2_init_4 rfl ?_ | refine ev_aload_nN dX2_init_4 rfl ?_
    refine ev_sipush dX2_init_5 sp240 ?_
    refine ev_newarray0S dX2_init_8 rfl (by decide) (by decide) (by decide) ?_
    refine ev_putfield dX2_init_10 fl_RX2_9 (fit_2_1 _) (fun _ => ⟨rfl, rfl⟩) (by repeat (first | assumption | exact up_s | refine (up_n (by omega)).trans ?_)) (Nat.le_of_ble_eq_true rfl) ?_
    first | refine ev_aload_n dX2_init_13 rfl ?_ | refine ev_aload_nN dX2_init_13 rfl ?_
    refine ev_sipush dX2_init_14 sp240 ?_
    refine ev_newarray1S dX2_init_17 rfl (by decide) (by decide) (by decide) ?_
    refine ev_putfield dX2_init_19 fl_RX2_15 (fit_2_2 _) (fun _ => ⟨rfl, rfl⟩) (by repeat (first | assumption | exact up_s | refine (up_n (by omega)).trans ?_)) (Nat.le_of_ble_eq_true rfl) ?_
    first | refine ev_aload_n dX2_init_22 rfl ?_ | refine ev_aload_nN dX2_init_22 rfl ?_
    refine ev_bipush dX2_init_23 bp15 ?_
    refine ev_newarray0S dX2_init_25 rfl (by decide) (by decide) (by decide) ?_
    refine ev_putfield dX2_init_27 fl_RX2_19 (fit_2_3 _) (fun _ => ⟨rfl, rfl⟩) (by repeat (first | assumption | exact up_s | refine (up_n (by omega)).trans ?_)) (Nat.le_of_ble_eq_true rfl) ?_
    first | refine ev_aload_n dX2_init_30 rfl ?_ | refine ev_aload_nN dX2_init_30 rfl ?_
    refine ev_bipush dX2_init_31 bp15 ?_
    refine ev_newarray1S dX2_init_33 rfl (by decide) (by decide) (by decide) ?_
    refine ev_putfield dX2_init_35 fl_RX2_22 (fit_2_4 _) (fun _ => ⟨rfl, rfl⟩) (by repeat (first | assumption | exact up_s | refine (up_n (by omega)).trans ?_)) (Nat.le_of_ble_eq_true rfl) ?_
    first | refine ev_aload_n dX2_init_38 rfl ?_ | refine ev_aload_nN dX2_init_38 rfl ?_
    refine ev_iload_n dX2_init_39 rfl ?_
    refine ev_putfield dX2_init_40 fl_RX2_25 (fit_2_0 _) (fun _ => ⟨rfl, rfl⟩) (by repeat (first | assumption | exact up_s | refine (up_n (by omega)).trans ?_)) (Nat.le_of_ble_eq_true rfl) ?_
    exact ev_vreturnE dX2_init_43 rfl (by rfl)
  · refine ⟨up_s.trans rfl, ?_, ?_, ?_, ?_, fun a q => ?_⟩
    · refine Eq.trans ?_ aI_z
      repeat (first | exact up_s | refine (up_n (by omega)).trans ?_)
    · refine Eq.trans ?_ aL_z
      repeat (first | exact up_s | refine (up_n (by omega)).trans ?_)
    · refine Eq.trans ?_ aI_z
      repeat (first | exact up_s | refine (up_n (by omega)).trans ?_)
    · refine Eq.trans ?_ aR_z
      repeat (first | exact up_s | refine (up_n (by omega)).trans ?_)
    · repeat (first | rfl | refine (up_n (by omega)).trans ?_)
theorem m8_init {b : Nat} (g : h b = .inr (8, [.null])) (hb : 2 ≤ b) : ∃ h', Ev d MX8_init 0 (lv_args 0 [.ref b]) [] (b + 1) h (.inl none, b + 2, h', 1, 5) ∧ h' b = .inr (8, [.ref (b + 1)]) ∧ h' (b + 1) = .inl (0, 5, .inl am_fw) ∧ ∀ a, a < b ∨ b + 1 < a → h' a = h a := by
  refine ⟨va_up (va_up (h) (b + 1) (.inl (0, 5, .inl am_fw))) b (.inr (8, [.ref (b + 1)])), ?_, ?_⟩
  · first | refine ev_aload_n dX8_init_0 rfl ?_ | refine ev_aload_nN dX8_init_0 rfl ?_
    refine ev_objInit dX8_init_1 (am_in 110 (by decide +kernel) rfl) (Nat.le_of_ble_eq_true rfl) ?_
    first | refine ev_aload_n dX8_init_4 rfl ?_ | refine ev_aload_nN dX8_init_4 rfl ?_
    refine ev_getFW dX8_init_5 rfl rfl ?_
    refine ev_cloneFWS dX8_init_8 (am_in 113 (by decide +kernel) rfl) (Nat.le_of_ble_eq_true rfl) (by decide) (by decide) ?_
    refine ev_castI dX8_init_11 (am_in 119 (by decide +kernel) rfl) (by omega) (by repeat (first | assumption | exact up_s | refine (up_n (by omega)).trans ?_)) ?_
    refine ev_putfield dX8_init_14 fl_RX8_18 (fit_8_0 _) (fun _ => ⟨rfl, rfl⟩) (by repeat (first | assumption | exact up_s | refine (up_n (by omega)).trans ?_)) (Nat.le_of_ble_eq_true rfl) ?_
    exact ev_vreturnE dX8_init_17 rfl (by rfl)
  · exact ⟨up_s, (up_n (by omega)).trans up_s, fun a q => (up_n (by omega)).trans (up_n (by omega))⟩
theorem m0_init {b : Nat} (g : h b = .inr (0, [.null, .null, .null, .int 0, .int 0])) (hb : 2 ≤ b) : ∃ h', Ev d MX0_init 0 (lv_args 0 [.ref b]) [] (b + 1) h (.inl none, b + 4, h', 3, 24) ∧ h' b = .inr (0, [.ref (b + 1), .ref (b + 2), .ref (b + 3), .int (nI 0), .int (nI 0)]) ∧ h' (b + 1) = aI 8 (fun _ => 0) ∧ h' (b + 2) = aI 8 (fun _ => 0) ∧ h' (b + 3) = aI 8 (fun _ => 0) ∧ ∀ a, a < b ∨ b + 3 < a → h' a = h a := by
  refine ⟨va_up (va_up (va_up (va_up (va_up (va_up (h) (b + 1) (.inl (0, 8, .inl (fun _ => 0)))) b (.inr (0, [.ref (b + 1), .null, .null, .int 0, .int 0]))) (b + 2) (.inl (0, 8, .inl (fun _ => 0)))) b (.inr (0, [.ref (b + 1), .ref (b + 2), .null, .int 0, .int 0]))) (b + 3) (.inl (0, 8, .inl (fun _ => 0)))) b (.inr (0, [.ref (b + 1), .ref (b + 2), .ref (b + 3), .int 0, .int 0])), ?_, ?_⟩
  · first | refine ev_aload_n dX0_init_0 rfl ?_ | refine ev_aload_nN dX0_init_0 rfl ?_
    refine ev_objInit dX0_init_1 (am_in 139 (by decide +kernel) rfl) (Nat.le_of_ble_eq_true rfl) ?_
    first | refine ev_aload_n dX0_init_4 rfl ?_ | refine ev_aload_nN dX0_init_4 rfl ?_
    refine ev_bipush dX0_init_5 bp8 ?_
    refine ev_newarray0S dX0_init_7 rfl (by decide) (by decide) (by decide) ?_
    refine ev_putfield dX0_init_9 fl_RX0_9 (fit_0_0 _) (fun _ => ⟨rfl, rfl⟩) (by repeat (first | assumption | exact up_s | refine (up_n (by omega)).trans ?_)) (Nat.le_of_ble_eq_true rfl) ?_
    first | refine ev_aload_n dX0_init_12 rfl ?_ | refine ev_aload_nN dX0_init_12 rfl ?_
    refine ev_bipush dX0_init_13 bp8 ?_
    refine ev_newarray0S dX0_init_15 rfl (by decide) (by decide) (by decide) ?_
    refine ev_putfield dX0_init_17 fl_RX0_15 (fit_0_1 _) (fun _ => ⟨rfl, rfl⟩) (by repeat (first | assumption | exact up_s | refine (up_n (by omega)).trans ?_)) (Nat.le_of_ble_eq_true rfl) ?_
    first | refine ev_aload_n dX0_init_20 rfl ?_ | refine ev_aload_nN dX0_init_20 rfl ?_
    refine ev_bipush dX0_init_21 bp8 ?_
    refine ev_newarray0S dX0_init_23 rfl (by decide) (by decide) (by decide) ?_
    refine ev_putfield dX0_init_25 fl_RX0_18 (fit_0_2 _) (fun _ => ⟨rfl, rfl⟩) (by repeat (first | assumption | exact up_s | refine (up_n (by omega)).trans ?_)) (Nat.le_of_ble_eq_true rfl) ?_
    exact ev_vreturnE dX0_init_28 rfl (by rfl)
  · refine ⟨up_s.trans (by rw [nI_z]), ?_, ?_, ?_, fun a q => ?_⟩
    · refine Eq.trans ?_ aI_z
      repeat (first | exact up_s | refine (up_n (by omega)).trans ?_)
    · refine Eq.trans ?_ aI_z
      repeat (first | exact up_s | refine (up_n (by omega)).trans ?_)
    · refine Eq.trans ?_ aI_z
      repeat (first | exact up_s | refine (up_n (by omega)).trans ?_)
    · repeat (first | rfl | refine (up_n (by omega)).trans ?_)
theorem m5_init {b : Nat} (g : h b = .inr (5, [.null, .int 0])) (hb : 2 ≤ b) : ∃ h', Ev d MX5_init 0 (lv_args 0 [.ref b]) [] (b + 1) h (.inl none, b + 2, h', 1, 4) ∧ h' b = .inr (5, [.ref (b + 1), .int (nI 0)]) ∧ h' (b + 1) = aI 4 (fun _ => 0) ∧ ∀ a, a < b ∨ b + 1 < a → h' a = h a := by
  refine ⟨va_up (va_up (h) (b + 1) (.inl (0, 4, .inl (fun _ => 0)))) b (.inr (5, [.ref (b + 1), .int 0])), ?_, ?_⟩
  · first | refine ev_aload_n dX5_init_0 rfl ?_ | refine ev_aload_nN dX5_init_0 rfl ?_
    refine ev_objInit dX5_init_1 (am_in 161 (by decide +kernel) rfl) (Nat.le_of_ble_eq_true rfl) ?_
    first | refine ev_aload_n dX5_init_4 rfl ?_ | refine ev_aload_nN dX5_init_4 rfl ?_
    refine ev_iconst dX5_init_5 ci4 ?_
    refine ev_newarray0S dX5_init_6 rfl (by decide) (by decide) (by decide) ?_
    refine ev_putfield dX5_init_8 fl_RX5_9 (fit_5_0 _) (fun _ => ⟨rfl, rfl⟩) (by repeat (first | assumption | exact up_s | refine (up_n (by omega)).trans ?_)) (Nat.le_of_ble_eq_true rfl) ?_
    exact ev_vreturnE dX5_init_11 rfl (by rfl)
  · exact ⟨up_s.trans (by rw [nI_z]), ((up_n (by omega)).trans up_s).trans aI_z, fun a q => (up_n (by omega)).trans (up_n (by omega))⟩
theorem m3_init {b : Nat} (g : h b = .inr (3, [.null, .int 0, .int 0])) (hb : 2 ≤ b) : ∃ h', Ev d MX3_init 0 (lv_args 0 [.ref b]) [] (b + 1) h (.inl none, b + 2, h', 1, 36) ∧ h' b = .inr (3, [.ref (b + 1), .int (nI 0), .int (nI 0)]) ∧ h' (b + 1) = aL 36 (fun _ => 0) ∧ ∀ a, a < b ∨ b + 1 < a → h' a = h a := by
  refine ⟨va_up (va_up (h) (b + 1) (.inl (1, 36, .inr (.inl (fun _ => 0))))) b (.inr (3, [.ref (b + 1), .int 0, .int 0])), ?_, ?_⟩
  · first | refine ev_aload_n dX3_init_0 rfl ?_ | refine ev_aload_nN dX3_init_0 rfl ?_
    refine ev_objInit dX3_init_1 (am_in 174 (by decide +kernel) rfl) (Nat.le_of_ble_eq_true rfl) ?_
    first | refine ev_aload_n dX3_init_4 rfl ?_ | refine ev_aload_nN dX3_init_4 rfl ?_
    refine ev_bipush dX3_init_5 bp36 ?_
    refine ev_newarray1S dX3_init_7 rfl (by decide) (by decide) (by decide) ?_
    refine ev_putfield dX3_init_9 fl_RX3_9 (fit_3_0 _) (fun _ => ⟨rfl, rfl⟩) (by repeat (first | assumption | exact up_s | refine (up_n (by omega)).trans ?_)) (Nat.le_of_ble_eq_true rfl) ?_
    exact ev_vreturnE dX3_init_12 rfl (by rfl)
  · exact ⟨up_s.trans (by rw [nI_z]), ((up_n (by omega)).trans up_s).trans aL_z, fun a q => (up_n (by omega)).trans (up_n (by omega))⟩
end MK2
