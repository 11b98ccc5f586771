/-! the model made -/
theorem bp40 : (Int8.ofInt 40).toInt32 = nI 40 := by decide +kernel
section MN
variable {d n : Nat} {h : Hp}
theorem mm_init (g : h 31 = .inr (10, [.null, .null, .int 0, .null, .null, .null, .null, .null, .null, .null, .null, .null, .null, .int 0, .int 0, .int 0, .int 0, .int 0])) : ∃ h', Ev d MX10_init 0 (lv_args 0 [.ref 31]) [] 32 h (.inl none, 44, h', 12, 1521) ∧ MS h' 0 0 (fun _ => 0) (fun _ _ => 0) (fun _ _ _ => 0) (fun _ _ => 0) fwN ∧ Fm h h' := by
  have e37 : (va_up (va_up (va_up (va_up (va_up (va_up (va_up (va_up (va_up (va_up (va_up (va_up (va_up (va_up (va_up (va_up (va_up (va_up (va_up (va_up (va_up (va_up (va_up (va_up (h) 32 (.inl (0, 2, .inl (fun _ => 0)))) 31 (.inr (10, [.ref 32, .null, .int 0, .null, .null, .null, .null, .null, .null, .null, .null, .null, .null, .int 0, .int 0, .int 0, .int 0, .int 0]))) 33 (.inl (0, 16, .inl (fun _ => 0)))) 31 (.inr (10, [.ref 32, .ref 33, .int 0, .null, .null, .null, .null, .null, .null, .null, .null, .null, .null, .int 0, .int 0, .int 0, .int 0, .int 0]))) 34 (.inl (0, 40, .inl (fun _ => 0)))) 31 (.inr (10, [.ref 32, .ref 33, .int 0, .ref 34, .null, .null, .null, .null, .null, .null, .null, .null, .null, .int 0, .int 0, .int 0, .int 0, .int 0]))) 35 (.inl (0, 320, .inl (fun _ => 0)))) 31 (.inr (10, [.ref 32, .ref 33, .int 0, .ref 34, .ref 35, .null, .null, .null, .null, .null, .null, .null, .null, .int 0, .int 0, .int 0, .int 0, .int 0]))) 36 (.inl (2, 20, .inl (fun _ => 0)))) 31 (.inr (10, [.ref 32, .ref 33, .int 0, .ref 34, .ref 35, .ref 36, .null, .null, .null, .null, .null, .null, .null, .int 0, .int 0, .int 0, .int 0, .int 0]))) 37 (.inl (0, 5, .inl (fun _ => 0)))) 31 (.inr (10, [.ref 32, .ref 33, .int 0, .ref 34, .ref 35, .ref 36, .ref 37, .null, .null, .null, .null, .null, .null, .int 0, .int 0, .int 0, .int 0, .int 0]))) 38 (.inl (0, 480, .inl (fun _ => 0)))) 31 (.inr (10, [.ref 32, .ref 33, .int 0, .ref 34, .ref 35, .ref 36, .ref 37, .ref 38, .null, .null, .null, .null, .null, .int 0, .int 0, .int 0, .int 0, .int 0]))) 39 (.inl (1, 480, .inr (.inl (fun _ => 0))))) 31 (.inr (10, [.ref 32, .ref 33, .int 0, .ref 34, .ref 35, .ref 36, .ref 37, .ref 38, .ref 39, .null, .null, .null, .null, .int 0, .int 0, .int 0, .int 0, .int 0]))) 40 (.inl (1, 15, .inr (.inl (fun _ => 0))))) 31 (.inr (10, [.ref 32, .ref 33, .int 0, .ref 34, .ref 35, .ref 36, .ref 37, .ref 38, .ref 39, .ref 40, .null, .null, .null, .int 0, .int 0, .int 0, .int 0, .int 0]))) 41 (.inl (0, 15, .inl (fun _ => 0)))) 31 (.inr (10, [.ref 32, .ref 33, .int 0, .ref 34, .ref 35, .ref 36, .ref 37, .ref 38, .ref 39, .ref 40, .ref 41, .null, .null, .int 0, .int 0, .int 0, .int 0, .int 0]))) 42 (.inl (0, 64, .inl (fun _ => 0)))) 31 (.inr (10, [.ref 32, .ref 33, .int 0, .ref 34, .ref 35, .ref 36, .ref 37, .ref 38, .ref 39, .ref 40, .ref 41, .ref 42, .null, .int 0, .int 0, .int 0, .int 0, .int 0]))) 43 (.inl (2, 64, .inl (fun _ => 0)))) 31 (.inr (10, [.ref 32, .ref 33, .int 0, .ref 34, .ref 35, .ref 36, .ref 37, .ref 38, .ref 39, .ref 40, .ref 41, .ref 42, .ref 43, .int 0, .int 0, .int 0, .int 0, .int 0]))) 37 = aI 5 (fun _ => 0) := by
    refine Eq.trans ?_ aI_z
    repeat (first | assumption | exact up_s | refine (up_n (by omega)).trans ?_)
  refine ⟨va_up (va_up (va_up (va_up (va_up (va_up (va_up (va_up (va_up (va_up (va_up (va_up (va_up (va_up (va_up (va_up (va_up (va_up (va_up (va_up (va_up (va_up (va_up (va_up (va_up (h) 32 (.inl (0, 2, .inl (fun _ => 0)))) 31 (.inr (10, [.ref 32, .null, .int 0, .null, .null, .null, .null, .null, .null, .null, .null, .null, .null, .int 0, .int 0, .int 0, .int 0, .int 0]))) 33 (.inl (0, 16, .inl (fun _ => 0)))) 31 (.inr (10, [.ref 32, .ref 33, .int 0, .null, .null, .null, .null, .null, .null, .null, .null, .null, .null, .int 0, .int 0, .int 0, .int 0, .int 0]))) 34 (.inl (0, 40, .inl (fun _ => 0)))) 31 (.inr (10, [.ref 32, .ref 33, .int 0, .ref 34, .null, .null, .null, .null, .null, .null, .null, .null, .null, .int 0, .int 0, .int 0, .int 0, .int 0]))) 35 (.inl (0, 320, .inl (fun _ => 0)))) 31 (.inr (10, [.ref 32, .ref 33, .int 0, .ref 34, .ref 35, .null, .null, .null, .null, .null, .null, .null, .null, .int 0, .int 0, .int 0, .int 0, .int 0]))) 36 (.inl (2, 20, .inl (fun _ => 0)))) 31 (.inr (10, [.ref 32, .ref 33, .int 0, .ref 34, .ref 35, .ref 36, .null, .null, .null, .null, .null, .null, .null, .int 0, .int 0, .int 0, .int 0, .int 0]))) 37 (.inl (0, 5, .inl (fun _ => 0)))) 31 (.inr (10, [.ref 32, .ref 33, .int 0, .ref 34, .ref 35, .ref 36, .ref 37, .null, .null, .null, .null, .null, .null, .int 0, .int 0, .int 0, .int 0, .int 0]))) 38 (.inl (0, 480, .inl (fun _ => 0)))) 31 (.inr (10, [.ref 32, .ref 33, .int 0, .ref 34, .ref 35, .ref 36, .ref 37, .ref 38, .null, .null, .null, .null, .null, .int 0, .int 0, .int 0, .int 0, .int 0]))) 39 (.inl (1, 480, .inr (.inl (fun _ => 0))))) 31 (.inr (10, [.ref 32, .ref 33, .int 0, .ref 34, .ref 35, .ref 36, .ref 37, .ref 38, .ref 39, .null, .null, .null, .null, .int 0, .int 0, .int 0, .int 0, .int 0]))) 40 (.inl (1, 15, .inr (.inl (fun _ => 0))))) 31 (.inr (10, [.ref 32, .ref 33, .int 0, .ref 34, .ref 35, .ref 36, .ref 37, .ref 38, .ref 39, .ref 40, .null, .null, .null, .int 0, .int 0, .int 0, .int 0, .int 0]))) 41 (.inl (0, 15, .inl (fun _ => 0)))) 31 (.inr (10, [.ref 32, .ref 33, .int 0, .ref 34, .ref 35, .ref 36, .ref 37, .ref 38, .ref 39, .ref 40, .ref 41, .null, .null, .int 0, .int 0, .int 0, .int 0, .int 0]))) 42 (.inl (0, 64, .inl (fun _ => 0)))) 31 (.inr (10, [.ref 32, .ref 33, .int 0, .ref 34, .ref 35, .ref 36, .ref 37, .ref 38, .ref 39, .ref 40, .ref 41, .ref 42, .null, .int 0, .int 0, .int 0, .int 0, .int 0]))) 43 (.inl (2, 64, .inl (fun _ => 0)))) 31 (.inr (10, [.ref 32, .ref 33, .int 0, .ref 34, .ref 35, .ref 36, .ref 37, .ref 38, .ref 39, .ref 40, .ref 41, .ref 42, .ref 43, .int 0, .int 0, .int 0, .int 0, .int 0]))) 37 (aI 5 (va_up (va_up (va_up (va_up (va_up (fun _ => 0) 0 4) 1 3) 2 2) 3 1) 4 1)), ?_, ⟨⟨fun _ => 0, ?_⟩, ⟨fun _ => 0, ?_, fun D hD => rfl⟩, ⟨fun _ => 0, ?_, fun D j hD hj => rfl⟩, ⟨fun _ => 0, ?_, fun D i hD hi => absurd hi (Nat.not_lt_zero _)⟩, ⟨fun _ => 0, ?_, fun D i j hD hi => absurd hi (Nat.not_lt_zero _)⟩, ⟨fun _ => 0, ?_, fun i hi => (if_neg (by omega)).symm⟩, ⟨_, up_s, fun k hk => ?_⟩, ⟨fun _ => 0, ?_, fun D c hD hc => rfl⟩, ⟨fun _ => 0, ?_⟩, ⟨fun _ => 0, ?_⟩, ⟨fun _ => 0, ?_⟩, ⟨fun _ => 0, ?_⟩, ⟨fun _ => 0, ?_⟩⟩, ?_⟩
  · first | refine ev_aload_n dX10_init_0 rfl ?_ | refine ev_aload_nN dX10_init_0 rfl ?_
    refine ev_objInit dX10_init_1 (am_in 816 (by decide +kernel) rfl) (Nat.le_of_ble_eq_true rfl) ?_
    first | refine ev_aload_n dX10_init_4 rfl ?_ | refine ev_aload_nN dX10_init_4 rfl ?_
    refine ev_iconst dX10_init_5 ci2 ?_
    refine ev_newarray0S dX10_init_6 rfl (by decide) (by decide) (by decide) ?_
    refine ev_putfield dX10_init_8 fl_RX10_7 (fit_10_0 _) (fun _ => ⟨rfl, rfl⟩) (by repeat (first | assumption | exact up_s | refine (up_n (by omega)).trans ?_)) (Nat.le_of_ble_eq_true rfl) ?_
    first | refine ev_aload_n dX10_init_11 rfl ?_ | refine ev_aload_nN dX10_init_11 rfl ?_
    refine ev_bipush dX10_init_12 bp16 ?_
    refine ev_newarray0S dX10_init_14 rfl (by decide) (by decide) (by decide) ?_
    refine ev_putfield dX10_init_16 fl_RX10_13 (fit_10_1 _) (fun _ => ⟨rfl, rfl⟩) (by repeat (first | assumption | exact up_s | refine (up_n (by omega)).trans ?_)) (Nat.le_of_ble_eq_true rfl) ?_
    first | refine ev_aload_n dX10_init_19 rfl ?_ | refine ev_aload_nN dX10_init_19 rfl ?_
    refine ev_bipush dX10_init_20 bp40 ?_
    refine ev_newarray0S dX10_init_22 rfl (by decide) (by decide) (by decide) ?_
    refine ev_putfield dX10_init_24 fl_RX10_16 (fit_10_3 _) (fun _ => ⟨rfl, rfl⟩) (by repeat (first | assumption | exact up_s | refine (up_n (by omega)).trans ?_)) (Nat.le_of_ble_eq_true rfl) ?_
    first | refine ev_aload_n dX10_init_27 rfl ?_ | refine ev_aload_nN dX10_init_27 rfl ?_
    refine ev_sipush dX10_init_28 sp320 ?_
    refine ev_newarray0S dX10_init_31 rfl (by decide) (by decide) (by decide) ?_
    refine ev_putfield dX10_init_33 fl_RX10_19 (fit_10_4 _) (fun _ => ⟨rfl, rfl⟩) (by repeat (first | assumption | exact up_s | refine (up_n (by omega)).trans ?_)) (Nat.le_of_ble_eq_true rfl) ?_
    first | refine ev_aload_n dX10_init_36 rfl ?_ | refine ev_aload_nN dX10_init_36 rfl ?_
    refine ev_bipush dX10_init_37 bp20 ?_
    refine ev_newarray2S dX10_init_39 rfl (by decide) (by decide) (by decide) ?_
    refine ev_putfield dX10_init_41 fl_RX10_22 (fit_10_5 _) (fun _ => ⟨rfl, rfl⟩) (by repeat (first | assumption | exact up_s | refine (up_n (by omega)).trans ?_)) (Nat.le_of_ble_eq_true rfl) ?_
    first | refine ev_aload_n dX10_init_44 rfl ?_ | refine ev_aload_nN dX10_init_44 rfl ?_
    refine ev_iconst dX10_init_45 ci5 ?_
    refine ev_newarray0S dX10_init_46 rfl (by decide) (by decide) (by decide) ?_
    refine ev_putfield dX10_init_48 fl_RX10_26 (fit_10_6 _) (fun _ => ⟨rfl, rfl⟩) (by repeat (first | assumption | exact up_s | refine (up_n (by omega)).trans ?_)) (Nat.le_of_ble_eq_true rfl) ?_
    first | refine ev_aload_n dX10_init_51 rfl ?_ | refine ev_aload_nN dX10_init_51 rfl ?_
    refine ev_sipush dX10_init_52 sp480 ?_
    refine ev_newarray0S dX10_init_55 rfl (by decide) (by decide) (by decide) ?_
    refine ev_putfield dX10_init_57 fl_RX10_29 (fit_10_7 _) (fun _ => ⟨rfl, rfl⟩) (by repeat (first | assumption | exact up_s | refine (up_n (by omega)).trans ?_)) (Nat.le_of_ble_eq_true rfl) ?_
    first | refine ev_aload_n dX10_init_60 rfl ?_ | refine ev_aload_nN dX10_init_60 rfl ?_
    refine ev_sipush dX10_init_61 sp480 ?_
    refine ev_newarray1S dX10_init_64 rfl (by decide) (by decide) (by decide) ?_
    refine ev_putfield dX10_init_66 fl_RX10_32 (fit_10_8 _) (fun _ => ⟨rfl, rfl⟩) (by repeat (first | assumption | exact up_s | refine (up_n (by omega)).trans ?_)) (Nat.le_of_ble_eq_true rfl) ?_
    first | refine ev_aload_n dX10_init_69 rfl ?_ | refine ev_aload_nN dX10_init_69 rfl ?_
    refine ev_bipush dX10_init_70 bp15 ?_
    refine ev_newarray1S dX10_init_72 rfl (by decide) (by decide) (by decide) ?_
    refine ev_putfield dX10_init_74 fl_RX10_36 (fit_10_9 _) (fun _ => ⟨rfl, rfl⟩) (by repeat (first | assumption | exact up_s | refine (up_n (by omega)).trans ?_)) (Nat.le_of_ble_eq_true rfl) ?_
    first | refine ev_aload_n dX10_init_77 rfl ?_ | refine ev_aload_nN dX10_init_77 rfl ?_
    refine ev_bipush dX10_init_78 bp15 ?_
    refine ev_newarray0S dX10_init_80 rfl (by decide) (by decide) (by decide) ?_
    refine ev_putfield dX10_init_82 fl_RX10_39 (fit_10_10 _) (fun _ => ⟨rfl, rfl⟩) (by repeat (first | assumption | exact up_s | refine (up_n (by omega)).trans ?_)) (Nat.le_of_ble_eq_true rfl) ?_
    first | refine ev_aload_n dX10_init_85 rfl ?_ | refine ev_aload_nN dX10_init_85 rfl ?_
    refine ev_bipush dX10_init_86 bp64 ?_
    refine ev_newarray0S dX10_init_88 rfl (by decide) (by decide) (by decide) ?_
    refine ev_putfield dX10_init_90 fl_RX10_42 (fit_10_11 _) (fun _ => ⟨rfl, rfl⟩) (by repeat (first | assumption | exact up_s | refine (up_n (by omega)).trans ?_)) (Nat.le_of_ble_eq_true rfl) ?_
    first | refine ev_aload_n dX10_init_93 rfl ?_ | refine ev_aload_nN dX10_init_93 rfl ?_
    refine ev_bipush dX10_init_94 bp64 ?_
    refine ev_newarray2S dX10_init_96 rfl (by decide) (by decide) (by decide) ?_
    refine ev_putfield dX10_init_98 fl_RX10_45 (fit_10_12 _) (fun _ => ⟨rfl, rfl⟩) (by repeat (first | assumption | exact up_s | refine (up_n (by omega)).trans ?_)) (Nat.le_of_ble_eq_true rfl) ?_
    first | refine ev_aload_n dX10_init_101 rfl ?_ | refine ev_aload_nN dX10_init_101 rfl ?_
    refine ev_getfield dX10_init_102 fl_RX10_26 (by repeat (first | assumption | exact up_s | refine (up_n (by omega)).trans ?_)) rfl ?_
    refine ev_iconst dX10_init_105 ci0 ?_
    refine ev_iconst dX10_init_106 ci4 ?_
    refine ev_iast dX10_init_107 (by omega) (by repeat (first | assumption | exact up_s | refine (up_n (by omega)).trans ?_)) _ _ rfl rfl (by omega) (by omega) ?_
    first | refine ev_aload_n dX10_init_108 rfl ?_ | refine ev_aload_nN dX10_init_108 rfl ?_
    refine ev_getfield dX10_init_109 fl_RX10_26 (by repeat (first | assumption | exact up_s | refine (up_n (by omega)).trans ?_)) rfl ?_
    refine ev_iconst dX10_init_112 ci1 ?_
    refine ev_iconst dX10_init_113 ci3 ?_
    refine ev_iast dX10_init_114 (by omega) (by repeat (first | assumption | exact up_s | refine (up_n (by omega)).trans ?_)) _ _ rfl rfl (by omega) (by omega) ?_
    first | refine ev_aload_n dX10_init_115 rfl ?_ | refine ev_aload_nN dX10_init_115 rfl ?_
    refine ev_getfield dX10_init_116 fl_RX10_26 (by repeat (first | assumption | exact up_s | refine (up_n (by omega)).trans ?_)) rfl ?_
    refine ev_iconst dX10_init_119 ci2 ?_
    refine ev_iconst dX10_init_120 ci2 ?_
    refine ev_iast dX10_init_121 (by omega) (by repeat (first | assumption | exact up_s | refine (up_n (by omega)).trans ?_)) _ _ rfl rfl (by omega) (by omega) ?_
    first | refine ev_aload_n dX10_init_122 rfl ?_ | refine ev_aload_nN dX10_init_122 rfl ?_
    refine ev_getfield dX10_init_123 fl_RX10_26 (by repeat (first | assumption | exact up_s | refine (up_n (by omega)).trans ?_)) rfl ?_
    refine ev_iconst dX10_init_126 ci3 ?_
    refine ev_iconst dX10_init_127 ci1 ?_
    refine ev_iast dX10_init_128 (by omega) (by repeat (first | assumption | exact up_s | refine (up_n (by omega)).trans ?_)) _ _ rfl rfl (by omega) (by omega) ?_
    first | refine ev_aload_n dX10_init_129 rfl ?_ | refine ev_aload_nN dX10_init_129 rfl ?_
    refine ev_getfield dX10_init_130 fl_RX10_26 (by repeat (first | assumption | exact up_s | refine (up_n (by omega)).trans ?_)) rfl ?_
    refine ev_iconst dX10_init_133 ci4 ?_
    refine ev_iconst dX10_init_134 ci1 ?_
    refine ev_iast dX10_init_135 (by omega) (by repeat (first | assumption | exact up_s | refine (up_n (by omega)).trans ?_)) _ _ rfl rfl (by omega) (by omega) ?_
    refine ev_heap (up_u.trans (up_u.trans (up_u.trans up_u))) ?_
    exact ev_vreturnE dX10_init_136 rfl (by rfl)
  · refine Eq.trans (b := .inr (10, [.ref 32, .ref 33, .int 0, .ref 34, .ref 35, .ref 36, .ref 37, .ref 38, .ref 39, .ref 40, .ref 41, .ref 42, .ref 43, .int 0, .int 0, .int 0, .int 0, .int 0])) ?_ (by rw [nI_z])
    repeat (first | assumption | exact up_s | refine (up_n (by omega)).trans ?_)
  · refine Eq.trans ?_ aI_z
    repeat (first | assumption | exact up_s | refine (up_n (by omega)).trans ?_)
  · refine Eq.trans ?_ aI_z
    repeat (first | assumption | exact up_s | refine (up_n (by omega)).trans ?_)
  · refine Eq.trans ?_ aI_z
    repeat (first | assumption | exact up_s | refine (up_n (by omega)).trans ?_)
  · refine Eq.trans ?_ aI_z
    repeat (first | assumption | exact up_s | refine (up_n (by omega)).trans ?_)
  · refine Eq.trans ?_ aZ_z
    repeat (first | assumption | exact up_s | refine (up_n (by omega)).trans ?_)
  · rcases (show k = 0 ∨ k = 1 ∨ k = 2 ∨ k = 3 ∨ k = 4 by omega) with rfl | rfl | rfl | rfl | rfl <;> rfl
  · refine Eq.trans ?_ aI_z
    repeat (first | assumption | exact up_s | refine (up_n (by omega)).trans ?_)
  · refine Eq.trans ?_ aL_z
    repeat (first | assumption | exact up_s | refine (up_n (by omega)).trans ?_)
  · refine Eq.trans ?_ aR_z
    repeat (first | assumption | exact up_s | refine (up_n (by omega)).trans ?_)
  · refine Eq.trans ?_ aI_z
    repeat (first | assumption | exact up_s | refine (up_n (by omega)).trans ?_)
  · refine Eq.trans ?_ aI_z
    repeat (first | assumption | exact up_s | refine (up_n (by omega)).trans ?_)
  · refine Eq.trans ?_ aZ_z
    repeat (first | assumption | exact up_s | refine (up_n (by omega)).trans ?_)
  · intro a q
    repeat (first | rfl | refine (up_n (by omega)).trans ?_)
end MN
