/-! the law's helpers: what they return, out of what the class returns or throws -/
abbrev ISE : String := "java/lang/IllegalStateException"
abbrev IAE : String := "java/lang/IllegalArgumentException"
theorem ev_lastG {d : Nat} {M : MI} {pc : Nat} {ls : List (Nat × Value)} {st : List Value} {n : Nat} {h : Hp} {o : Out} {a len : Nat} {x : Int32} {y : Int64} {f : Nat → Int64} (g0 : decode (mB M) pc = .ok (.lastore, 1)) (g9 : 2 ≤ a) (g1 : h a = .inl (1, len, .inr (.inl f))) (j : Nat) (g2 : x = nI j) (g3 : j < len) (g4 : len < 2 ^ 31) (k : Ev d M (pc + 1) ls st n (va_up h a (.inl (1, len, .inr (.inl (vp_updL f j y))))) o) : Ev d M pc ls (.long y :: .int x :: .ref a :: st) n h o := by
  subst g2
  refine ev_lastore g0 g9 g1 (vp_in_nI g3 g4) ?_
  rw [nI_clamp (by omega)]
  exact k
theorem hd_put_1 : am_HD (mC ML_put) (mH ML_put) 5 IOE 13 := ⟨[], (0, 10, 13, 13), [(0, 10, 17, 15)], rfl, rfl, by decide, by decide, am_in 397 (by decide +kernel) rfl, by decide +kernel, nofun⟩
theorem hd_put_2 : am_HD (mC ML_put) (mH ML_put) 5 ISE 17 := ⟨[(0, 10, 13, 13)], (0, 10, 17, 15), [], rfl, rfl, by decide, by decide, am_in 398 (by decide +kernel) rfl, by decide +kernel, fun z hz => by
  cases List.mem_singleton.mp hz
  exact ⟨by decide, "java/lang/IndexOutOfBoundsException", am_in 397 (by decide +kernel) rfl, by decide +kernel⟩⟩
theorem hd_pair_1 : am_HD (mC ML_pair) (mH ML_pair) 3 ISE 11 := ⟨[], (0, 8, 11, 15), [], rfl, rfl, by decide, by decide, am_in 398 (by decide +kernel) rfl, by decide +kernel, nofun⟩
theorem hd_takeBack_1 : am_HD (mC ML_takeBack) (mH ML_takeBack) 4 IOE 12 := ⟨[], (0, 9, 12, 13), [], rfl, rfl, by decide, by decide, am_in 397 (by decide +kernel) rfl, by decide +kernel, nofun⟩
theorem hd_weight_1 : am_HD (mC ML_weight) (mH ML_weight) 5 IOE 13 := ⟨[], (0, 10, 13, 13), [(0, 10, 17, 28)], rfl, rfl, by decide, by decide, am_in 397 (by decide +kernel) rfl, by decide +kernel, nofun⟩
theorem hd_weight_2 : am_HD (mC ML_weight) (mH ML_weight) 5 IAE 17 := ⟨[(0, 10, 13, 13)], (0, 10, 17, 28), [], rfl, rfl, by decide, by decide, am_in 542 (by decide +kernel) rfl, by decide +kernel, fun z hz => by
  cases List.mem_singleton.mp hz
  exact ⟨by decide, "java/lang/IndexOutOfBoundsException", am_in 397 (by decide +kernel) rfl, by decide +kernel⟩⟩
theorem hd_word_1 : am_HD (mC ML_word) (mH ML_word) 7 IOE 15 := ⟨[], (0, 12, 15, 13), [], rfl, rfl, by decide, by decide, am_in 397 (by decide +kernel) rfl, by decide +kernel, nofun⟩
theorem hd_share_1 : am_HD (mC ML_share) (mH ML_share) 7 IOE 15 := ⟨[], (0, 12, 15, 13), [], rfl, rfl, by decide, by decide, am_in 397 (by decide +kernel) rfl, by decide +kernel, nofun⟩
theorem hd_link_1 : am_HD (mC ML_link) (mH ML_link) 7 IOE 15 := ⟨[], (0, 12, 15, 13), [], rfl, rfl, by decide, by decide, am_in 397 (by decide +kernel) rfl, by decide +kernel, nofun⟩
theorem hd_isJoined_1 : am_HD (mC ML_isJoined) (mH ML_isJoined) 7 IOE 22 := ⟨[], (0, 19, 22, 13), [], rfl, rfl, by decide, by decide, am_in 397 (by decide +kernel) rfl, by decide +kernel, nofun⟩
theorem hd_phrases_1 : am_HD (mC ML_phrases) (mH ML_phrases) 4 IOE 12 := ⟨[], (0, 9, 12, 13), [], rfl, rfl, by decide, by decide, am_in 397 (by decide +kernel) rfl, by decide +kernel, nofun⟩
theorem hd_phrase_1 : am_HD (mC ML_phrase) (mH ML_phrase) 7 IOE 15 := ⟨[], (0, 12, 15, 13), [(0, 12, 19, 28)], rfl, rfl, by decide, by decide, am_in 397 (by decide +kernel) rfl, by decide +kernel, nofun⟩
theorem hd_phrase_2 : am_HD (mC ML_phrase) (mH ML_phrase) 7 IAE 19 := ⟨[(0, 12, 15, 13)], (0, 12, 19, 28), [], rfl, rfl, by decide, by decide, am_in 542 (by decide +kernel) rfl, by decide +kernel, fun z hz => by
  cases List.mem_singleton.mp hz
  exact ⟨by decide, "java/lang/IndexOutOfBoundsException", am_in 397 (by decide +kernel) rfl, by decide +kernel⟩⟩
theorem hd_fertility_1 : am_HD (mC ML_fertility) (mH ML_fertility) 5 IOE 13 := ⟨[], (0, 10, 13, 13), [(0, 10, 17, 28)], rfl, rfl, by decide, by decide, am_in 397 (by decide +kernel) rfl, by decide +kernel, nofun⟩
theorem hd_fertility_2 : am_HD (mC ML_fertility) (mH ML_fertility) 5 IAE 17 := ⟨[(0, 10, 13, 13)], (0, 10, 17, 28), [], rfl, rfl, by decide, by decide, am_in 542 (by decide +kernel) rfl, by decide +kernel, fun z hz => by
  cases List.mem_singleton.mp hz
  exact ⟨by decide, "java/lang/IndexOutOfBoundsException", am_in 397 (by decide +kernel) rfl, by decide +kernel⟩⟩
theorem hd_total_1 : am_HD (mC ML_total) (mH ML_total) 4 IOE 11 := ⟨[], (0, 8, 11, 13), [(0, 8, 14, 15)], rfl, rfl, by decide, by decide, am_in 397 (by decide +kernel) rfl, by decide +kernel, nofun⟩
theorem hd_total_2 : am_HD (mC ML_total) (mH ML_total) 4 ISE 14 := ⟨[(0, 8, 11, 13)], (0, 8, 14, 15), [], rfl, rfl, by decide, by decide, am_in 398 (by decide +kernel) rfl, by decide +kernel, fun z hz => by
  cases List.mem_singleton.mp hz
  exact ⟨by decide, "java/lang/IndexOutOfBoundsException", am_in 397 (by decide +kernel) rfl, by decide +kernel⟩⟩
theorem hd_totalAnew_1 : am_HD (mC ML_totalAnew) (mH ML_totalAnew) 4 IOE 11 := ⟨[], (0, 8, 11, 13), [(0, 8, 14, 15)], rfl, rfl, by decide, by decide, am_in 397 (by decide +kernel) rfl, by decide +kernel, nofun⟩
theorem hd_totalAnew_2 : am_HD (mC ML_totalAnew) (mH ML_totalAnew) 4 ISE 14 := ⟨[(0, 8, 11, 13)], (0, 8, 14, 15), [], rfl, rfl, by decide, by decide, am_in 398 (by decide +kernel) rfl, by decide +kernel, fun z hz => by
  cases List.mem_singleton.mp hz
  exact ⟨by decide, "java/lang/IndexOutOfBoundsException", am_in 397 (by decide +kernel) rfl, by decide +kernel⟩⟩
section LH
variable {d n n1 c e : Nat} {h h1 : Hp} {fs : List Value}
theorem hl_putR {x0 x1 : Int32} {b : Int32} {f : Nat → Int64} (g2 : h 2 = .inr (9, fs)) (ev : Ev d MX9_put 0 (lv_args 0 [.ref 2, .int x0, .int x1]) [] n h (.inl (some (.int b)), n1, h1, c, e)) (e44 : h1 44 = .inl (1, 1, .inr (.inl f))) : Ev (d + 1) ML_put 0 (lv_args 0 [.ref 2, .int x0, .int x1, .ref 44]) [] n h (.inl (some (.int (nI 0))), n1, va_up h1 44 (.inl (1, 1, .inr (.inl (vp_updL f 0 b.toInt64)))), c, e) := by
  first | refine ev_aload_n dL_put_0 rfl ?_ | refine ev_aload_nN dL_put_0 rfl ?_
  refine ev_iconst dL_put_1 ci0 ?_
  first | refine ev_aload_n dL_put_2 rfl ?_ | refine ev_aload_nN dL_put_2 rfl ?_
  refine ev_iload_n dL_put_3 rfl ?_
  refine ev_iload_n dL_put_4 rfl ?_
  refine ev_V2K dL_put_5 st_RL_7 na_X9_put (Nat.le_of_ble_eq_true rfl) (Nat.le_of_ble_eq_true rfl) (by repeat (first | assumption | exact up_s | refine (up_n (by omega)).trans ?_)) rfl (Nat.add_zero _) (Nat.add_zero _) (ev) ?_
  refine ev_i2l dL_put_8 rfl ?_
  refine ev_lastG dL_put_9 (by omega) (by repeat (first | assumption | exact up_s | refine (up_n (by omega)).trans ?_)) _ rfl (by omega) (by omega) ?_
  refine ev_goto (tgt := 21) dL_put_10 (by decide) ?_
  refine ev_iconst dL_put_21 ci0 ?_
  exact ev_ireturnE dL_put_22 rfl (by rfl)
theorem hl_putE1 {x0 x1 : Int32} (g2 : h 2 = .inr (9, fs)) (ev : Ev d MX9_put 0 (lv_args 0 [.ref 2, .int x0, .int x1]) [] n h (.inr IOE, n1, h1, c, e)) : Ev (d + 1) ML_put 0 (lv_args 0 [.ref 2, .int x0, .int x1, .ref 44]) [] n h (.inl (some (.int (nI 1))), n1, h1, c, e) := by
  first | refine ev_aload_n dL_put_0 rfl ?_ | refine ev_aload_nN dL_put_0 rfl ?_
  refine ev_iconst dL_put_1 ci0 ?_
  first | refine ev_aload_n dL_put_2 rfl ?_ | refine ev_aload_nN dL_put_2 rfl ?_
  refine ev_iload_n dL_put_3 rfl ?_
  refine ev_iload_n dL_put_4 rfl ?_
  refine ev_callVc (as := [_, _]) dL_put_5 st_RL_7 na_X9_put (Nat.le_of_ble_eq_true rfl) (Nat.le_of_ble_eq_true rfl) (by repeat (first | assumption | exact up_s | refine (up_n (by omega)).trans ?_)) rfl hd_put_1 (Or.inl ⟨dL_put_13, rfl⟩) (Nat.le_of_ble_eq_true rfl) (Nat.add_zero _) (Nat.add_zero _) (ev) ?_
  refine ev_iconst dL_put_15 ci1 ?_
  exact ev_ireturnE dL_put_16 rfl (by rfl)
theorem hl_putE2 {x0 x1 : Int32} (g2 : h 2 = .inr (9, fs)) (ev : Ev d MX9_put 0 (lv_args 0 [.ref 2, .int x0, .int x1]) [] n h (.inr ISE, n1, h1, c, e)) : Ev (d + 1) ML_put 0 (lv_args 0 [.ref 2, .int x0, .int x1, .ref 44]) [] n h (.inl (some (.int (nI 2))), n1, h1, c, e) := by
  first | refine ev_aload_n dL_put_0 rfl ?_ | refine ev_aload_nN dL_put_0 rfl ?_
  refine ev_iconst dL_put_1 ci0 ?_
  first | refine ev_aload_n dL_put_2 rfl ?_ | refine ev_aload_nN dL_put_2 rfl ?_
  refine ev_iload_n dL_put_3 rfl ?_
  refine ev_iload_n dL_put_4 rfl ?_
  refine ev_callVc (as := [_, _]) dL_put_5 st_RL_7 na_X9_put (Nat.le_of_ble_eq_true rfl) (Nat.le_of_ble_eq_true rfl) (by repeat (first | assumption | exact up_s | refine (up_n (by omega)).trans ?_)) rfl hd_put_2 (Or.inl ⟨dL_put_17, rfl⟩) (Nat.le_of_ble_eq_true rfl) (Nat.add_zero _) (Nat.add_zero _) (ev) ?_
  refine ev_iconst dL_put_19 ci2 ?_
  exact ev_ireturnE dL_put_20 rfl (by rfl)
theorem hl_pairR {b : Int32} {f : Nat → Int64} (g2 : h 2 = .inr (9, fs)) (ev : Ev d MX9_pair 0 (lv_args 0 [.ref 2]) [] n h (.inl (some (.int b)), n1, h1, c, e)) (e44 : h1 44 = .inl (1, 1, .inr (.inl f))) : Ev (d + 1) ML_pair 0 (lv_args 0 [.ref 2, .ref 44]) [] n h (.inl (some (.int (nI 0))), n1, va_up h1 44 (.inl (1, 1, .inr (.inl (vp_updL f 0 b.toInt64)))), c, e) := by
  first | refine ev_aload_n dL_pair_0 rfl ?_ | refine ev_aload_nN dL_pair_0 rfl ?_
  refine ev_iconst dL_pair_1 ci0 ?_
  first | refine ev_aload_n dL_pair_2 rfl ?_ | refine ev_aload_nN dL_pair_2 rfl ?_
  refine ev_V0K dL_pair_3 st_RL_17 na_X9_pair (Nat.le_of_ble_eq_true rfl) (Nat.le_of_ble_eq_true rfl) (by repeat (first | assumption | exact up_s | refine (up_n (by omega)).trans ?_)) rfl (Nat.add_zero _) (Nat.add_zero _) (ev) ?_
  refine ev_i2l dL_pair_6 rfl ?_
  refine ev_lastG dL_pair_7 (by omega) (by repeat (first | assumption | exact up_s | refine (up_n (by omega)).trans ?_)) _ rfl (by omega) (by omega) ?_
  refine ev_goto (tgt := 14) dL_pair_8 (by decide) ?_
  refine ev_iconst dL_pair_14 ci0 ?_
  exact ev_ireturnE dL_pair_15 rfl (by rfl)
theorem hl_pairE1 (g2 : h 2 = .inr (9, fs)) (ev : Ev d MX9_pair 0 (lv_args 0 [.ref 2]) [] n h (.inr ISE, n1, h1, c, e)) : Ev (d + 1) ML_pair 0 (lv_args 0 [.ref 2, .ref 44]) [] n h (.inl (some (.int (nI 1))), n1, h1, c, e) := by
  first | refine ev_aload_n dL_pair_0 rfl ?_ | refine ev_aload_nN dL_pair_0 rfl ?_
  refine ev_iconst dL_pair_1 ci0 ?_
  first | refine ev_aload_n dL_pair_2 rfl ?_ | refine ev_aload_nN dL_pair_2 rfl ?_
  refine ev_callVc (as := []) dL_pair_3 st_RL_17 na_X9_pair (Nat.le_of_ble_eq_true rfl) (Nat.le_of_ble_eq_true rfl) (by repeat (first | assumption | exact up_s | refine (up_n (by omega)).trans ?_)) rfl hd_pair_1 (Or.inr ⟨2, rfl, dL_pair_11, rfl⟩) (Nat.le_of_ble_eq_true rfl) (Nat.add_zero _) (Nat.add_zero _) (ev) ?_
  refine ev_iconst dL_pair_12 ci1 ?_
  exact ev_ireturnE dL_pair_13 rfl (by rfl)
theorem hl_takeBackR {x0 : Int32} {b : Int32} {f : Nat → Int64} (g2 : h 2 = .inr (9, fs)) (ev : Ev d MX9_takeBack 0 (lv_args 0 [.ref 2, .int x0]) [] n h (.inl (some (.int b)), n1, h1, c, e)) (e44 : h1 44 = .inl (1, 1, .inr (.inl f))) : Ev (d + 1) ML_takeBack 0 (lv_args 0 [.ref 2, .int x0, .ref 44]) [] n h (.inl (some (.int (nI 0))), n1, va_up h1 44 (.inl (1, 1, .inr (.inl (vp_updL f 0 b.toInt64)))), c, e) := by
  first | refine ev_aload_n dL_takeBack_0 rfl ?_ | refine ev_aload_nN dL_takeBack_0 rfl ?_
  refine ev_iconst dL_takeBack_1 ci0 ?_
  first | refine ev_aload_n dL_takeBack_2 rfl ?_ | refine ev_aload_nN dL_takeBack_2 rfl ?_
  refine ev_iload_n dL_takeBack_3 rfl ?_
  refine ev_V1K dL_takeBack_4 st_RL_21 na_X9_takeBack (Nat.le_of_ble_eq_true rfl) (Nat.le_of_ble_eq_true rfl) (by repeat (first | assumption | exact up_s | refine (up_n (by omega)).trans ?_)) rfl (Nat.add_zero _) (Nat.add_zero _) (ev) ?_
  refine ev_i2l dL_takeBack_7 rfl ?_
  refine ev_lastG dL_takeBack_8 (by omega) (by repeat (first | assumption | exact up_s | refine (up_n (by omega)).trans ?_)) _ rfl (by omega) (by omega) ?_
  refine ev_goto (tgt := 15) dL_takeBack_9 (by decide) ?_
  refine ev_iconst dL_takeBack_15 ci0 ?_
  exact ev_ireturnE dL_takeBack_16 rfl (by rfl)
theorem hl_takeBackE1 {x0 : Int32} (g2 : h 2 = .inr (9, fs)) (ev : Ev d MX9_takeBack 0 (lv_args 0 [.ref 2, .int x0]) [] n h (.inr IOE, n1, h1, c, e)) : Ev (d + 1) ML_takeBack 0 (lv_args 0 [.ref 2, .int x0, .ref 44]) [] n h (.inl (some (.int (nI 1))), n1, h1, c, e) := by
  first | refine ev_aload_n dL_takeBack_0 rfl ?_ | refine ev_aload_nN dL_takeBack_0 rfl ?_
  refine ev_iconst dL_takeBack_1 ci0 ?_
  first | refine ev_aload_n dL_takeBack_2 rfl ?_ | refine ev_aload_nN dL_takeBack_2 rfl ?_
  refine ev_iload_n dL_takeBack_3 rfl ?_
  refine ev_callVc (as := [_]) dL_takeBack_4 st_RL_21 na_X9_takeBack (Nat.le_of_ble_eq_true rfl) (Nat.le_of_ble_eq_true rfl) (by repeat (first | assumption | exact up_s | refine (up_n (by omega)).trans ?_)) rfl hd_takeBack_1 (Or.inr ⟨3, rfl, dL_takeBack_12, rfl⟩) (Nat.le_of_ble_eq_true rfl) (Nat.add_zero _) (Nat.add_zero _) (ev) ?_
  refine ev_iconst dL_takeBack_13 ci1 ?_
  exact ev_ireturnE dL_takeBack_14 rfl (by rfl)
theorem hl_weightR {x0 x1 : Int32} {b : Int32} {f : Nat → Int64} (g2 : h 2 = .inr (9, fs)) (ev : Ev d MX9_weight 0 (lv_args 0 [.ref 2, .int x0, .int x1]) [] n h (.inl (some (.int b)), n1, h1, c, e)) (e44 : h1 44 = .inl (1, 1, .inr (.inl f))) : Ev (d + 1) ML_weight 0 (lv_args 0 [.ref 2, .int x0, .int x1, .ref 44]) [] n h (.inl (some (.int (nI 0))), n1, va_up h1 44 (.inl (1, 1, .inr (.inl (vp_updL f 0 b.toInt64)))), c, e) := by
  first | refine ev_aload_n dL_weight_0 rfl ?_ | refine ev_aload_nN dL_weight_0 rfl ?_
  refine ev_iconst dL_weight_1 ci0 ?_
  first | refine ev_aload_n dL_weight_2 rfl ?_ | refine ev_aload_nN dL_weight_2 rfl ?_
  refine ev_iload_n dL_weight_3 rfl ?_
  refine ev_iload_n dL_weight_4 rfl ?_
  refine ev_V2K dL_weight_5 st_RL_25 na_X9_weight (Nat.le_of_ble_eq_true rfl) (Nat.le_of_ble_eq_true rfl) (by repeat (first | assumption | exact up_s | refine (up_n (by omega)).trans ?_)) rfl (Nat.add_zero _) (Nat.add_zero _) (ev) ?_
  refine ev_i2l dL_weight_8 rfl ?_
  refine ev_lastG dL_weight_9 (by omega) (by repeat (first | assumption | exact up_s | refine (up_n (by omega)).trans ?_)) _ rfl (by omega) (by omega) ?_
  refine ev_goto (tgt := 21) dL_weight_10 (by decide) ?_
  refine ev_iconst dL_weight_21 ci0 ?_
  exact ev_ireturnE dL_weight_22 rfl (by rfl)
theorem hl_weightE1 {x0 x1 : Int32} (g2 : h 2 = .inr (9, fs)) (ev : Ev d MX9_weight 0 (lv_args 0 [.ref 2, .int x0, .int x1]) [] n h (.inr IOE, n1, h1, c, e)) : Ev (d + 1) ML_weight 0 (lv_args 0 [.ref 2, .int x0, .int x1, .ref 44]) [] n h (.inl (some (.int (nI 1))), n1, h1, c, e) := by
  first | refine ev_aload_n dL_weight_0 rfl ?_ | refine ev_aload_nN dL_weight_0 rfl ?_
  refine ev_iconst dL_weight_1 ci0 ?_
  first | refine ev_aload_n dL_weight_2 rfl ?_ | refine ev_aload_nN dL_weight_2 rfl ?_
  refine ev_iload_n dL_weight_3 rfl ?_
  refine ev_iload_n dL_weight_4 rfl ?_
  refine ev_callVc (as := [_, _]) dL_weight_5 st_RL_25 na_X9_weight (Nat.le_of_ble_eq_true rfl) (Nat.le_of_ble_eq_true rfl) (by repeat (first | assumption | exact up_s | refine (up_n (by omega)).trans ?_)) rfl hd_weight_1 (Or.inl ⟨dL_weight_13, rfl⟩) (Nat.le_of_ble_eq_true rfl) (Nat.add_zero _) (Nat.add_zero _) (ev) ?_
  refine ev_iconst dL_weight_15 ci1 ?_
  exact ev_ireturnE dL_weight_16 rfl (by rfl)
theorem hl_weightE2 {x0 x1 : Int32} (g2 : h 2 = .inr (9, fs)) (ev : Ev d MX9_weight 0 (lv_args 0 [.ref 2, .int x0, .int x1]) [] n h (.inr IAE, n1, h1, c, e)) : Ev (d + 1) ML_weight 0 (lv_args 0 [.ref 2, .int x0, .int x1, .ref 44]) [] n h (.inl (some (.int (nI 2))), n1, h1, c, e) := by
  first | refine ev_aload_n dL_weight_0 rfl ?_ | refine ev_aload_nN dL_weight_0 rfl ?_
  refine ev_iconst dL_weight_1 ci0 ?_
  first | refine ev_aload_n dL_weight_2 rfl ?_ | refine ev_aload_nN dL_weight_2 rfl ?_
  refine ev_iload_n dL_weight_3 rfl ?_
  refine ev_iload_n dL_weight_4 rfl ?_
  refine ev_callVc (as := [_, _]) dL_weight_5 st_RL_25 na_X9_weight (Nat.le_of_ble_eq_true rfl) (Nat.le_of_ble_eq_true rfl) (by repeat (first | assumption | exact up_s | refine (up_n (by omega)).trans ?_)) rfl hd_weight_2 (Or.inl ⟨dL_weight_17, rfl⟩) (Nat.le_of_ble_eq_true rfl) (Nat.add_zero _) (Nat.add_zero _) (ev) ?_
  refine ev_iconst dL_weight_19 ci2 ?_
  exact ev_ireturnE dL_weight_20 rfl (by rfl)
theorem hl_wordR {x0 x1 x2 : Int32} {b : Int32} {f : Nat → Int64} (g2 : h 2 = .inr (9, fs)) (ev : Ev d MX9_word 0 (lv_args 0 [.ref 2, .int x0, .int x1, .int x2]) [] n h (.inl (some (.int b)), n1, h1, c, e)) (e44 : h1 44 = .inl (1, 1, .inr (.inl f))) : Ev (d + 1) ML_word 0 (lv_args 0 [.ref 2, .int x0, .int x1, .int x2, .ref 44]) [] n h (.inl (some (.int (nI 0))), n1, va_up h1 44 (.inl (1, 1, .inr (.inl (vp_updL f 0 b.toInt64)))), c, e) := by
  first | refine ev_aload dL_word_0 rfl ?_ | refine ev_aloadN dL_word_0 rfl ?_
  refine ev_iconst dL_word_2 ci0 ?_
  first | refine ev_aload_n dL_word_3 rfl ?_ | refine ev_aload_nN dL_word_3 rfl ?_
  refine ev_iload_n dL_word_4 rfl ?_
  refine ev_iload_n dL_word_5 rfl ?_
  refine ev_iload_n dL_word_6 rfl ?_
  refine ev_V3K dL_word_7 st_RL_30 na_X9_word (Nat.le_of_ble_eq_true rfl) (Nat.le_of_ble_eq_true rfl) (by repeat (first | assumption | exact up_s | refine (up_n (by omega)).trans ?_)) rfl (Nat.add_zero _) (Nat.add_zero _) (ev) ?_
  refine ev_i2l dL_word_10 rfl ?_
  refine ev_lastG dL_word_11 (by omega) (by repeat (first | assumption | exact up_s | refine (up_n (by omega)).trans ?_)) _ rfl (by omega) (by omega) ?_
  refine ev_goto (tgt := 19) dL_word_12 (by decide) ?_
  refine ev_iconst dL_word_19 ci0 ?_
  exact ev_ireturnE dL_word_20 rfl (by rfl)
theorem hl_wordE1 {x0 x1 x2 : Int32} (g2 : h 2 = .inr (9, fs)) (ev : Ev d MX9_word 0 (lv_args 0 [.ref 2, .int x0, .int x1, .int x2]) [] n h (.inr IOE, n1, h1, c, e)) : Ev (d + 1) ML_word 0 (lv_args 0 [.ref 2, .int x0, .int x1, .int x2, .ref 44]) [] n h (.inl (some (.int (nI 1))), n1, h1, c, e) := by
  first | refine ev_aload dL_word_0 rfl ?_ | refine ev_aloadN dL_word_0 rfl ?_
  refine ev_iconst dL_word_2 ci0 ?_
  first | refine ev_aload_n dL_word_3 rfl ?_ | refine ev_aload_nN dL_word_3 rfl ?_
  refine ev_iload_n dL_word_4 rfl ?_
  refine ev_iload_n dL_word_5 rfl ?_
  refine ev_iload_n dL_word_6 rfl ?_
  refine ev_callVc (as := [_, _, _]) dL_word_7 st_RL_30 na_X9_word (Nat.le_of_ble_eq_true rfl) (Nat.le_of_ble_eq_true rfl) (by repeat (first | assumption | exact up_s | refine (up_n (by omega)).trans ?_)) rfl hd_word_1 (Or.inl ⟨dL_word_15, rfl⟩) (Nat.le_of_ble_eq_true rfl) (Nat.add_zero _) (Nat.add_zero _) (ev) ?_
  refine ev_iconst dL_word_17 ci1 ?_
  exact ev_ireturnE dL_word_18 rfl (by rfl)
theorem hl_shareR {x0 x1 x2 : Int32} {b : Int32} {f : Nat → Int64} (g2 : h 2 = .inr (9, fs)) (ev : Ev d MX9_share 0 (lv_args 0 [.ref 2, .int x0, .int x1, .int x2]) [] n h (.inl (some (.int b)), n1, h1, c, e)) (e44 : h1 44 = .inl (1, 1, .inr (.inl f))) : Ev (d + 1) ML_share 0 (lv_args 0 [.ref 2, .int x0, .int x1, .int x2, .ref 44]) [] n h (.inl (some (.int (nI 0))), n1, va_up h1 44 (.inl (1, 1, .inr (.inl (vp_updL f 0 b.toInt64)))), c, e) := by
  first | refine ev_aload dL_share_0 rfl ?_ | refine ev_aloadN dL_share_0 rfl ?_
  refine ev_iconst dL_share_2 ci0 ?_
  first | refine ev_aload_n dL_share_3 rfl ?_ | refine ev_aload_nN dL_share_3 rfl ?_
  refine ev_iload_n dL_share_4 rfl ?_
  refine ev_iload_n dL_share_5 rfl ?_
  refine ev_iload_n dL_share_6 rfl ?_
  refine ev_V3K dL_share_7 st_RL_34 na_X9_share (Nat.le_of_ble_eq_true rfl) (Nat.le_of_ble_eq_true rfl) (by repeat (first | assumption | exact up_s | refine (up_n (by omega)).trans ?_)) rfl (Nat.add_zero _) (Nat.add_zero _) (ev) ?_
  refine ev_i2l dL_share_10 rfl ?_
  refine ev_lastG dL_share_11 (by omega) (by repeat (first | assumption | exact up_s | refine (up_n (by omega)).trans ?_)) _ rfl (by omega) (by omega) ?_
  refine ev_goto (tgt := 19) dL_share_12 (by decide) ?_
  refine ev_iconst dL_share_19 ci0 ?_
  exact ev_ireturnE dL_share_20 rfl (by rfl)
theorem hl_shareE1 {x0 x1 x2 : Int32} (g2 : h 2 = .inr (9, fs)) (ev : Ev d MX9_share 0 (lv_args 0 [.ref 2, .int x0, .int x1, .int x2]) [] n h (.inr IOE, n1, h1, c, e)) : Ev (d + 1) ML_share 0 (lv_args 0 [.ref 2, .int x0, .int x1, .int x2, .ref 44]) [] n h (.inl (some (.int (nI 1))), n1, h1, c, e) := by
  first | refine ev_aload dL_share_0 rfl ?_ | refine ev_aloadN dL_share_0 rfl ?_
  refine ev_iconst dL_share_2 ci0 ?_
  first | refine ev_aload_n dL_share_3 rfl ?_ | refine ev_aload_nN dL_share_3 rfl ?_
  refine ev_iload_n dL_share_4 rfl ?_
  refine ev_iload_n dL_share_5 rfl ?_
  refine ev_iload_n dL_share_6 rfl ?_
  refine ev_callVc (as := [_, _, _]) dL_share_7 st_RL_34 na_X9_share (Nat.le_of_ble_eq_true rfl) (Nat.le_of_ble_eq_true rfl) (by repeat (first | assumption | exact up_s | refine (up_n (by omega)).trans ?_)) rfl hd_share_1 (Or.inl ⟨dL_share_15, rfl⟩) (Nat.le_of_ble_eq_true rfl) (Nat.add_zero _) (Nat.add_zero _) (ev) ?_
  refine ev_iconst dL_share_17 ci1 ?_
  exact ev_ireturnE dL_share_18 rfl (by rfl)
theorem hl_linkR {x0 x1 x2 : Int32} {b : Int32} {f : Nat → Int64} (g2 : h 2 = .inr (9, fs)) (ev : Ev d MX9_link 0 (lv_args 0 [.ref 2, .int x0, .int x1, .int x2]) [] n h (.inl (some (.int b)), n1, h1, c, e)) (e44 : h1 44 = .inl (1, 1, .inr (.inl f))) : Ev (d + 1) ML_link 0 (lv_args 0 [.ref 2, .int x0, .int x1, .int x2, .ref 44]) [] n h (.inl (some (.int (nI 0))), n1, va_up h1 44 (.inl (1, 1, .inr (.inl (vp_updL f 0 b.toInt64)))), c, e) := by
  first | refine ev_aload dL_link_0 rfl ?_ | refine ev_aloadN dL_link_0 rfl ?_
  refine ev_iconst dL_link_2 ci0 ?_
  first | refine ev_aload_n dL_link_3 rfl ?_ | refine ev_aload_nN dL_link_3 rfl ?_
  refine ev_iload_n dL_link_4 rfl ?_
  refine ev_iload_n dL_link_5 rfl ?_
  refine ev_iload_n dL_link_6 rfl ?_
  refine ev_V3K dL_link_7 st_RL_37 na_X9_link (Nat.le_of_ble_eq_true rfl) (Nat.le_of_ble_eq_true rfl) (by repeat (first | assumption | exact up_s | refine (up_n (by omega)).trans ?_)) rfl (Nat.add_zero _) (Nat.add_zero _) (ev) ?_
  refine ev_i2l dL_link_10 rfl ?_
  refine ev_lastG dL_link_11 (by omega) (by repeat (first | assumption | exact up_s | refine (up_n (by omega)).trans ?_)) _ rfl (by omega) (by omega) ?_
  refine ev_goto (tgt := 19) dL_link_12 (by decide) ?_
  refine ev_iconst dL_link_19 ci0 ?_
  exact ev_ireturnE dL_link_20 rfl (by rfl)
theorem hl_linkE1 {x0 x1 x2 : Int32} (g2 : h 2 = .inr (9, fs)) (ev : Ev d MX9_link 0 (lv_args 0 [.ref 2, .int x0, .int x1, .int x2]) [] n h (.inr IOE, n1, h1, c, e)) : Ev (d + 1) ML_link 0 (lv_args 0 [.ref 2, .int x0, .int x1, .int x2, .ref 44]) [] n h (.inl (some (.int (nI 1))), n1, h1, c, e) := by
  first | refine ev_aload dL_link_0 rfl ?_ | refine ev_aloadN dL_link_0 rfl ?_
  refine ev_iconst dL_link_2 ci0 ?_
  first | refine ev_aload_n dL_link_3 rfl ?_ | refine ev_aload_nN dL_link_3 rfl ?_
  refine ev_iload_n dL_link_4 rfl ?_
  refine ev_iload_n dL_link_5 rfl ?_
  refine ev_iload_n dL_link_6 rfl ?_
  refine ev_callVc (as := [_, _, _]) dL_link_7 st_RL_37 na_X9_link (Nat.le_of_ble_eq_true rfl) (Nat.le_of_ble_eq_true rfl) (by repeat (first | assumption | exact up_s | refine (up_n (by omega)).trans ?_)) rfl hd_link_1 (Or.inl ⟨dL_link_15, rfl⟩) (Nat.le_of_ble_eq_true rfl) (Nat.add_zero _) (Nat.add_zero _) (ev) ?_
  refine ev_iconst dL_link_17 ci1 ?_
  exact ev_ireturnE dL_link_18 rfl (by rfl)
theorem hl_isJoinedR {x0 x1 x2 : Int32} {b : Nat} {f : Nat → Int64} (hb : b = 0 ∨ b = 1) (g2 : h 2 = .inr (9, fs)) (ev : Ev d MX9_isJoined 0 (lv_args 0 [.ref 2, .int x0, .int x1, .int x2]) [] n h (.inl (some (.int (nI b))), n1, h1, c, e)) (e44 : h1 44 = .inl (1, 1, .inr (.inl f))) : Ev (d + 1) ML_isJoined 0 (lv_args 0 [.ref 2, .int x0, .int x1, .int x2, .ref 44]) [] n h (.inl (some (.int (nI 0))), n1, va_up h1 44 (.inl (1, 1, .inr (.inl (vp_updL f 0 (lN b))))), c, e) := by
  rcases hb with rfl | rfl
  · first | refine ev_aload dL_isJoined_0 rfl ?_ | refine ev_aloadN dL_isJoined_0 rfl ?_
    refine ev_iconst dL_isJoined_2 ci0 ?_
    first | refine ev_aload_n dL_isJoined_3 rfl ?_ | refine ev_aload_nN dL_isJoined_3 rfl ?_
    refine ev_iload_n dL_isJoined_4 rfl ?_
    refine ev_iload_n dL_isJoined_5 rfl ?_
    refine ev_iload_n dL_isJoined_6 rfl ?_
    refine ev_V3K dL_isJoined_7 st_RL_40 na_X9_isJoined (Nat.le_of_ble_eq_true rfl) (Nat.le_of_ble_eq_true rfl) (by repeat (first | assumption | exact up_s | refine (up_n (by omega)).trans ?_)) rfl (Nat.add_zero _) (Nat.add_zero _) (ev) ?_
    refine ev_if_eqT (tgt := 17) dL_isJoined_10 (by decide) (by first | assumption | exact z_eq (by omega) | decide) ?_
    refine ev_lconst dL_isJoined_17 lc0 ?_
    refine ev_lastG dL_isJoined_18 (by omega) (by repeat (first | assumption | exact up_s | refine (up_n (by omega)).trans ?_)) _ rfl (by omega) (by omega) ?_
    refine ev_goto (tgt := 26) dL_isJoined_19 (by decide) ?_
    refine ev_iconst dL_isJoined_26 ci0 ?_
    exact ev_ireturnE dL_isJoined_27 rfl (by rfl)
  · first | refine ev_aload dL_isJoined_0 rfl ?_ | refine ev_aloadN dL_isJoined_0 rfl ?_
    refine ev_iconst dL_isJoined_2 ci0 ?_
    first | refine ev_aload_n dL_isJoined_3 rfl ?_ | refine ev_aload_nN dL_isJoined_3 rfl ?_
    refine ev_iload_n dL_isJoined_4 rfl ?_
    refine ev_iload_n dL_isJoined_5 rfl ?_
    refine ev_iload_n dL_isJoined_6 rfl ?_
    refine ev_V3K dL_isJoined_7 st_RL_40 na_X9_isJoined (Nat.le_of_ble_eq_true rfl) (Nat.le_of_ble_eq_true rfl) (by repeat (first | assumption | exact up_s | refine (up_n (by omega)).trans ?_)) rfl (Nat.add_zero _) (Nat.add_zero _) (ev) ?_
    refine ev_if_eqF dL_isJoined_10 17 (by decide) (by first | assumption | exact nI_ne0 (by omega) (by omega) | decide) ?_
    refine ev_lconst dL_isJoined_13 lc1 ?_
    refine ev_goto (tgt := 18) dL_isJoined_14 (by decide) ?_
    refine ev_lastG dL_isJoined_18 (by omega) (by repeat (first | assumption | exact up_s | refine (up_n (by omega)).trans ?_)) _ rfl (by omega) (by omega) ?_
    refine ev_goto (tgt := 26) dL_isJoined_19 (by decide) ?_
    refine ev_iconst dL_isJoined_26 ci0 ?_
    exact ev_ireturnE dL_isJoined_27 rfl (by rfl)
theorem hl_isJoinedE1 {x0 x1 x2 : Int32} (g2 : h 2 = .inr (9, fs)) (ev : Ev d MX9_isJoined 0 (lv_args 0 [.ref 2, .int x0, .int x1, .int x2]) [] n h (.inr IOE, n1, h1, c, e)) : Ev (d + 1) ML_isJoined 0 (lv_args 0 [.ref 2, .int x0, .int x1, .int x2, .ref 44]) [] n h (.inl (some (.int (nI 1))), n1, h1, c, e) := by
  first | refine ev_aload dL_isJoined_0 rfl ?_ | refine ev_aloadN dL_isJoined_0 rfl ?_
  refine ev_iconst dL_isJoined_2 ci0 ?_
  first | refine ev_aload_n dL_isJoined_3 rfl ?_ | refine ev_aload_nN dL_isJoined_3 rfl ?_
  refine ev_iload_n dL_isJoined_4 rfl ?_
  refine ev_iload_n dL_isJoined_5 rfl ?_
  refine ev_iload_n dL_isJoined_6 rfl ?_
  refine ev_callVc (as := [_, _, _]) dL_isJoined_7 st_RL_40 na_X9_isJoined (Nat.le_of_ble_eq_true rfl) (Nat.le_of_ble_eq_true rfl) (by repeat (first | assumption | exact up_s | refine (up_n (by omega)).trans ?_)) rfl hd_isJoined_1 (Or.inl ⟨dL_isJoined_22, rfl⟩) (Nat.le_of_ble_eq_true rfl) (Nat.add_zero _) (Nat.add_zero _) (ev) ?_
  refine ev_iconst dL_isJoined_24 ci1 ?_
  exact ev_ireturnE dL_isJoined_25 rfl (by rfl)
theorem hl_phrasesR {x0 : Int32} {b : Int32} {f : Nat → Int64} (g2 : h 2 = .inr (9, fs)) (ev : Ev d MX9_phrases 0 (lv_args 0 [.ref 2, .int x0]) [] n h (.inl (some (.int b)), n1, h1, c, e)) (e44 : h1 44 = .inl (1, 1, .inr (.inl f))) : Ev (d + 1) ML_phrases 0 (lv_args 0 [.ref 2, .int x0, .ref 44]) [] n h (.inl (some (.int (nI 0))), n1, va_up h1 44 (.inl (1, 1, .inr (.inl (vp_updL f 0 b.toInt64)))), c, e) := by
  first | refine ev_aload_n dL_phrases_0 rfl ?_ | refine ev_aload_nN dL_phrases_0 rfl ?_
  refine ev_iconst dL_phrases_1 ci0 ?_
  first | refine ev_aload_n dL_phrases_2 rfl ?_ | refine ev_aload_nN dL_phrases_2 rfl ?_
  refine ev_iload_n dL_phrases_3 rfl ?_
  refine ev_V1K dL_phrases_4 st_RL_44 na_X9_phrases (Nat.le_of_ble_eq_true rfl) (Nat.le_of_ble_eq_true rfl) (by repeat (first | assumption | exact up_s | refine (up_n (by omega)).trans ?_)) rfl (Nat.add_zero _) (Nat.add_zero _) (ev) ?_
  refine ev_i2l dL_phrases_7 rfl ?_
  refine ev_lastG dL_phrases_8 (by omega) (by repeat (first | assumption | exact up_s | refine (up_n (by omega)).trans ?_)) _ rfl (by omega) (by omega) ?_
  refine ev_goto (tgt := 15) dL_phrases_9 (by decide) ?_
  refine ev_iconst dL_phrases_15 ci0 ?_
  exact ev_ireturnE dL_phrases_16 rfl (by rfl)
theorem hl_phrasesE1 {x0 : Int32} (g2 : h 2 = .inr (9, fs)) (ev : Ev d MX9_phrases 0 (lv_args 0 [.ref 2, .int x0]) [] n h (.inr IOE, n1, h1, c, e)) : Ev (d + 1) ML_phrases 0 (lv_args 0 [.ref 2, .int x0, .ref 44]) [] n h (.inl (some (.int (nI 1))), n1, h1, c, e) := by
  first | refine ev_aload_n dL_phrases_0 rfl ?_ | refine ev_aload_nN dL_phrases_0 rfl ?_
  refine ev_iconst dL_phrases_1 ci0 ?_
  first | refine ev_aload_n dL_phrases_2 rfl ?_ | refine ev_aload_nN dL_phrases_2 rfl ?_
  refine ev_iload_n dL_phrases_3 rfl ?_
  refine ev_callVc (as := [_]) dL_phrases_4 st_RL_44 na_X9_phrases (Nat.le_of_ble_eq_true rfl) (Nat.le_of_ble_eq_true rfl) (by repeat (first | assumption | exact up_s | refine (up_n (by omega)).trans ?_)) rfl hd_phrases_1 (Or.inr ⟨3, rfl, dL_phrases_12, rfl⟩) (Nat.le_of_ble_eq_true rfl) (Nat.add_zero _) (Nat.add_zero _) (ev) ?_
  refine ev_iconst dL_phrases_13 ci1 ?_
  exact ev_ireturnE dL_phrases_14 rfl (by rfl)
theorem hl_phraseR {x0 x1 x2 : Int32} {b : Int32} {f : Nat → Int64} (g2 : h 2 = .inr (9, fs)) (ev : Ev d MX9_phrase 0 (lv_args 0 [.ref 2, .int x0, .int x1, .int x2]) [] n h (.inl (some (.int b)), n1, h1, c, e)) (e44 : h1 44 = .inl (1, 1, .inr (.inl f))) : Ev (d + 1) ML_phrase 0 (lv_args 0 [.ref 2, .int x0, .int x1, .int x2, .ref 44]) [] n h (.inl (some (.int (nI 0))), n1, va_up h1 44 (.inl (1, 1, .inr (.inl (vp_updL f 0 b.toInt64)))), c, e) := by
  first | refine ev_aload dL_phrase_0 rfl ?_ | refine ev_aloadN dL_phrase_0 rfl ?_
  refine ev_iconst dL_phrase_2 ci0 ?_
  first | refine ev_aload_n dL_phrase_3 rfl ?_ | refine ev_aload_nN dL_phrase_3 rfl ?_
  refine ev_iload_n dL_phrase_4 rfl ?_
  refine ev_iload_n dL_phrase_5 rfl ?_
  refine ev_iload_n dL_phrase_6 rfl ?_
  refine ev_V3K dL_phrase_7 st_RL_47 na_X9_phrase (Nat.le_of_ble_eq_true rfl) (Nat.le_of_ble_eq_true rfl) (by repeat (first | assumption | exact up_s | refine (up_n (by omega)).trans ?_)) rfl (Nat.add_zero _) (Nat.add_zero _) (ev) ?_
  refine ev_i2l dL_phrase_10 rfl ?_
  refine ev_lastG dL_phrase_11 (by omega) (by repeat (first | assumption | exact up_s | refine (up_n (by omega)).trans ?_)) _ rfl (by omega) (by omega) ?_
  refine ev_goto (tgt := 23) dL_phrase_12 (by decide) ?_
  refine ev_iconst dL_phrase_23 ci0 ?_
  exact ev_ireturnE dL_phrase_24 rfl (by rfl)
theorem hl_phraseE1 {x0 x1 x2 : Int32} (g2 : h 2 = .inr (9, fs)) (ev : Ev d MX9_phrase 0 (lv_args 0 [.ref 2, .int x0, .int x1, .int x2]) [] n h (.inr IOE, n1, h1, c, e)) : Ev (d + 1) ML_phrase 0 (lv_args 0 [.ref 2, .int x0, .int x1, .int x2, .ref 44]) [] n h (.inl (some (.int (nI 1))), n1, h1, c, e) := by
  first | refine ev_aload dL_phrase_0 rfl ?_ | refine ev_aloadN dL_phrase_0 rfl ?_
  refine ev_iconst dL_phrase_2 ci0 ?_
  first | refine ev_aload_n dL_phrase_3 rfl ?_ | refine ev_aload_nN dL_phrase_3 rfl ?_
  refine ev_iload_n dL_phrase_4 rfl ?_
  refine ev_iload_n dL_phrase_5 rfl ?_
  refine ev_iload_n dL_phrase_6 rfl ?_
  refine ev_callVc (as := [_, _, _]) dL_phrase_7 st_RL_47 na_X9_phrase (Nat.le_of_ble_eq_true rfl) (Nat.le_of_ble_eq_true rfl) (by repeat (first | assumption | exact up_s | refine (up_n (by omega)).trans ?_)) rfl hd_phrase_1 (Or.inl ⟨dL_phrase_15, rfl⟩) (Nat.le_of_ble_eq_true rfl) (Nat.add_zero _) (Nat.add_zero _) (ev) ?_
  refine ev_iconst dL_phrase_17 ci1 ?_
  exact ev_ireturnE dL_phrase_18 rfl (by rfl)
theorem hl_phraseE2 {x0 x1 x2 : Int32} (g2 : h 2 = .inr (9, fs)) (ev : Ev d MX9_phrase 0 (lv_args 0 [.ref 2, .int x0, .int x1, .int x2]) [] n h (.inr IAE, n1, h1, c, e)) : Ev (d + 1) ML_phrase 0 (lv_args 0 [.ref 2, .int x0, .int x1, .int x2, .ref 44]) [] n h (.inl (some (.int (nI 2))), n1, h1, c, e) := by
  first | refine ev_aload dL_phrase_0 rfl ?_ | refine ev_aloadN dL_phrase_0 rfl ?_
  refine ev_iconst dL_phrase_2 ci0 ?_
  first | refine ev_aload_n dL_phrase_3 rfl ?_ | refine ev_aload_nN dL_phrase_3 rfl ?_
  refine ev_iload_n dL_phrase_4 rfl ?_
  refine ev_iload_n dL_phrase_5 rfl ?_
  refine ev_iload_n dL_phrase_6 rfl ?_
  refine ev_callVc (as := [_, _, _]) dL_phrase_7 st_RL_47 na_X9_phrase (Nat.le_of_ble_eq_true rfl) (Nat.le_of_ble_eq_true rfl) (by repeat (first | assumption | exact up_s | refine (up_n (by omega)).trans ?_)) rfl hd_phrase_2 (Or.inl ⟨dL_phrase_19, rfl⟩) (Nat.le_of_ble_eq_true rfl) (Nat.add_zero _) (Nat.add_zero _) (ev) ?_
  refine ev_iconst dL_phrase_21 ci2 ?_
  exact ev_ireturnE dL_phrase_22 rfl (by rfl)
theorem hl_fertilityR {x0 x1 : Int32} {b : Int32} {f : Nat → Int64} (g2 : h 2 = .inr (9, fs)) (ev : Ev d MX9_fertility 0 (lv_args 0 [.ref 2, .int x0, .int x1]) [] n h (.inl (some (.int b)), n1, h1, c, e)) (e44 : h1 44 = .inl (1, 1, .inr (.inl f))) : Ev (d + 1) ML_fertility 0 (lv_args 0 [.ref 2, .int x0, .int x1, .ref 44]) [] n h (.inl (some (.int (nI 0))), n1, va_up h1 44 (.inl (1, 1, .inr (.inl (vp_updL f 0 b.toInt64)))), c, e) := by
  first | refine ev_aload_n dL_fertility_0 rfl ?_ | refine ev_aload_nN dL_fertility_0 rfl ?_
  refine ev_iconst dL_fertility_1 ci0 ?_
  first | refine ev_aload_n dL_fertility_2 rfl ?_ | refine ev_aload_nN dL_fertility_2 rfl ?_
  refine ev_iload_n dL_fertility_3 rfl ?_
  refine ev_iload_n dL_fertility_4 rfl ?_
  refine ev_V2K dL_fertility_5 st_RL_50 na_X9_fertility (Nat.le_of_ble_eq_true rfl) (Nat.le_of_ble_eq_true rfl) (by repeat (first | assumption | exact up_s | refine (up_n (by omega)).trans ?_)) rfl (Nat.add_zero _) (Nat.add_zero _) (ev) ?_
  refine ev_i2l dL_fertility_8 rfl ?_
  refine ev_lastG dL_fertility_9 (by omega) (by repeat (first | assumption | exact up_s | refine (up_n (by omega)).trans ?_)) _ rfl (by omega) (by omega) ?_
  refine ev_goto (tgt := 21) dL_fertility_10 (by decide) ?_
  refine ev_iconst dL_fertility_21 ci0 ?_
  exact ev_ireturnE dL_fertility_22 rfl (by rfl)
theorem hl_fertilityE1 {x0 x1 : Int32} (g2 : h 2 = .inr (9, fs)) (ev : Ev d MX9_fertility 0 (lv_args 0 [.ref 2, .int x0, .int x1]) [] n h (.inr IOE, n1, h1, c, e)) : Ev (d + 1) ML_fertility 0 (lv_args 0 [.ref 2, .int x0, .int x1, .ref 44]) [] n h (.inl (some (.int (nI 1))), n1, h1, c, e) := by
  first | refine ev_aload_n dL_fertility_0 rfl ?_ | refine ev_aload_nN dL_fertility_0 rfl ?_
  refine ev_iconst dL_fertility_1 ci0 ?_
  first | refine ev_aload_n dL_fertility_2 rfl ?_ | refine ev_aload_nN dL_fertility_2 rfl ?_
  refine ev_iload_n dL_fertility_3 rfl ?_
  refine ev_iload_n dL_fertility_4 rfl ?_
  refine ev_callVc (as := [_, _]) dL_fertility_5 st_RL_50 na_X9_fertility (Nat.le_of_ble_eq_true rfl) (Nat.le_of_ble_eq_true rfl) (by repeat (first | assumption | exact up_s | refine (up_n (by omega)).trans ?_)) rfl hd_fertility_1 (Or.inl ⟨dL_fertility_13, rfl⟩) (Nat.le_of_ble_eq_true rfl) (Nat.add_zero _) (Nat.add_zero _) (ev) ?_
  refine ev_iconst dL_fertility_15 ci1 ?_
  exact ev_ireturnE dL_fertility_16 rfl (by rfl)
theorem hl_fertilityE2 {x0 x1 : Int32} (g2 : h 2 = .inr (9, fs)) (ev : Ev d MX9_fertility 0 (lv_args 0 [.ref 2, .int x0, .int x1]) [] n h (.inr IAE, n1, h1, c, e)) : Ev (d + 1) ML_fertility 0 (lv_args 0 [.ref 2, .int x0, .int x1, .ref 44]) [] n h (.inl (some (.int (nI 2))), n1, h1, c, e) := by
  first | refine ev_aload_n dL_fertility_0 rfl ?_ | refine ev_aload_nN dL_fertility_0 rfl ?_
  refine ev_iconst dL_fertility_1 ci0 ?_
  first | refine ev_aload_n dL_fertility_2 rfl ?_ | refine ev_aload_nN dL_fertility_2 rfl ?_
  refine ev_iload_n dL_fertility_3 rfl ?_
  refine ev_iload_n dL_fertility_4 rfl ?_
  refine ev_callVc (as := [_, _]) dL_fertility_5 st_RL_50 na_X9_fertility (Nat.le_of_ble_eq_true rfl) (Nat.le_of_ble_eq_true rfl) (by repeat (first | assumption | exact up_s | refine (up_n (by omega)).trans ?_)) rfl hd_fertility_2 (Or.inl ⟨dL_fertility_17, rfl⟩) (Nat.le_of_ble_eq_true rfl) (Nat.add_zero _) (Nat.add_zero _) (ev) ?_
  refine ev_iconst dL_fertility_19 ci2 ?_
  exact ev_ireturnE dL_fertility_20 rfl (by rfl)
theorem hl_totalR {x0 : Int32} {b : Int64} {f : Nat → Int64} (g2 : h 2 = .inr (9, fs)) (ev : Ev d MX9_total 0 (lv_args 0 [.ref 2, .int x0]) [] n h (.inl (some (.long b)), n1, h1, c, e)) (e44 : h1 44 = .inl (1, 1, .inr (.inl f))) : Ev (d + 1) ML_total 0 (lv_args 0 [.ref 2, .int x0, .ref 44]) [] n h (.inl (some (.int (nI 0))), n1, va_up h1 44 (.inl (1, 1, .inr (.inl (vp_updL f 0 b)))), c, e) := by
  first | refine ev_aload_n dL_total_0 rfl ?_ | refine ev_aload_nN dL_total_0 rfl ?_
  refine ev_iconst dL_total_1 ci0 ?_
  first | refine ev_aload_n dL_total_2 rfl ?_ | refine ev_aload_nN dL_total_2 rfl ?_
  refine ev_iload_n dL_total_3 rfl ?_
  refine ev_V1K dL_total_4 st_RL_53 na_X9_total (Nat.le_of_ble_eq_true rfl) (Nat.le_of_ble_eq_true rfl) (by repeat (first | assumption | exact up_s | refine (up_n (by omega)).trans ?_)) rfl (Nat.add_zero _) (Nat.add_zero _) (ev) ?_
  refine ev_lastG dL_total_7 (by omega) (by repeat (first | assumption | exact up_s | refine (up_n (by omega)).trans ?_)) _ rfl (by omega) (by omega) ?_
  refine ev_goto (tgt := 17) dL_total_8 (by decide) ?_
  refine ev_iconst dL_total_17 ci0 ?_
  exact ev_ireturnE dL_total_18 rfl (by rfl)
theorem hl_totalE1 {x0 : Int32} (g2 : h 2 = .inr (9, fs)) (ev : Ev d MX9_total 0 (lv_args 0 [.ref 2, .int x0]) [] n h (.inr IOE, n1, h1, c, e)) : Ev (d + 1) ML_total 0 (lv_args 0 [.ref 2, .int x0, .ref 44]) [] n h (.inl (some (.int (nI 1))), n1, h1, c, e) := by
  first | refine ev_aload_n dL_total_0 rfl ?_ | refine ev_aload_nN dL_total_0 rfl ?_
  refine ev_iconst dL_total_1 ci0 ?_
  first | refine ev_aload_n dL_total_2 rfl ?_ | refine ev_aload_nN dL_total_2 rfl ?_
  refine ev_iload_n dL_total_3 rfl ?_
  refine ev_callVc (as := [_]) dL_total_4 st_RL_53 na_X9_total (Nat.le_of_ble_eq_true rfl) (Nat.le_of_ble_eq_true rfl) (by repeat (first | assumption | exact up_s | refine (up_n (by omega)).trans ?_)) rfl hd_total_1 (Or.inr ⟨3, rfl, dL_total_11, rfl⟩) (Nat.le_of_ble_eq_true rfl) (Nat.add_zero _) (Nat.add_zero _) (ev) ?_
  refine ev_iconst dL_total_12 ci1 ?_
  exact ev_ireturnE dL_total_13 rfl (by rfl)
theorem hl_totalE2 {x0 : Int32} (g2 : h 2 = .inr (9, fs)) (ev : Ev d MX9_total 0 (lv_args 0 [.ref 2, .int x0]) [] n h (.inr ISE, n1, h1, c, e)) : Ev (d + 1) ML_total 0 (lv_args 0 [.ref 2, .int x0, .ref 44]) [] n h (.inl (some (.int (nI 2))), n1, h1, c, e) := by
  first | refine ev_aload_n dL_total_0 rfl ?_ | refine ev_aload_nN dL_total_0 rfl ?_
  refine ev_iconst dL_total_1 ci0 ?_
  first | refine ev_aload_n dL_total_2 rfl ?_ | refine ev_aload_nN dL_total_2 rfl ?_
  refine ev_iload_n dL_total_3 rfl ?_
  refine ev_callVc (as := [_]) dL_total_4 st_RL_53 na_X9_total (Nat.le_of_ble_eq_true rfl) (Nat.le_of_ble_eq_true rfl) (by repeat (first | assumption | exact up_s | refine (up_n (by omega)).trans ?_)) rfl hd_total_2 (Or.inr ⟨3, rfl, dL_total_14, rfl⟩) (Nat.le_of_ble_eq_true rfl) (Nat.add_zero _) (Nat.add_zero _) (ev) ?_
  refine ev_iconst dL_total_15 ci2 ?_
  exact ev_ireturnE dL_total_16 rfl (by rfl)
theorem hl_totalAnewR {x0 : Int32} {b : Int64} {f : Nat → Int64} (g2 : h 2 = .inr (9, fs)) (ev : Ev d MX9_totalAnew 0 (lv_args 0 [.ref 2, .int x0]) [] n h (.inl (some (.long b)), n1, h1, c, e)) (e44 : h1 44 = .inl (1, 1, .inr (.inl f))) : Ev (d + 1) ML_totalAnew 0 (lv_args 0 [.ref 2, .int x0, .ref 44]) [] n h (.inl (some (.int (nI 0))), n1, va_up h1 44 (.inl (1, 1, .inr (.inl (vp_updL f 0 b)))), c, e) := by
  first | refine ev_aload_n dL_totalAnew_0 rfl ?_ | refine ev_aload_nN dL_totalAnew_0 rfl ?_
  refine ev_iconst dL_totalAnew_1 ci0 ?_
  first | refine ev_aload_n dL_totalAnew_2 rfl ?_ | refine ev_aload_nN dL_totalAnew_2 rfl ?_
  refine ev_iload_n dL_totalAnew_3 rfl ?_
  refine ev_V1K dL_totalAnew_4 st_RL_57 na_X9_totalAnew (Nat.le_of_ble_eq_true rfl) (Nat.le_of_ble_eq_true rfl) (by repeat (first | assumption | exact up_s | refine (up_n (by omega)).trans ?_)) rfl (Nat.add_zero _) (Nat.add_zero _) (ev) ?_
  refine ev_lastG dL_totalAnew_7 (by omega) (by repeat (first | assumption | exact up_s | refine (up_n (by omega)).trans ?_)) _ rfl (by omega) (by omega) ?_
  refine ev_goto (tgt := 17) dL_totalAnew_8 (by decide) ?_
  refine ev_iconst dL_totalAnew_17 ci0 ?_
  exact ev_ireturnE dL_totalAnew_18 rfl (by rfl)
theorem hl_totalAnewE1 {x0 : Int32} (g2 : h 2 = .inr (9, fs)) (ev : Ev d MX9_totalAnew 0 (lv_args 0 [.ref 2, .int x0]) [] n h (.inr IOE, n1, h1, c, e)) : Ev (d + 1) ML_totalAnew 0 (lv_args 0 [.ref 2, .int x0, .ref 44]) [] n h (.inl (some (.int (nI 1))), n1, h1, c, e) := by
  first | refine ev_aload_n dL_totalAnew_0 rfl ?_ | refine ev_aload_nN dL_totalAnew_0 rfl ?_
  refine ev_iconst dL_totalAnew_1 ci0 ?_
  first | refine ev_aload_n dL_totalAnew_2 rfl ?_ | refine ev_aload_nN dL_totalAnew_2 rfl ?_
  refine ev_iload_n dL_totalAnew_3 rfl ?_
  refine ev_callVc (as := [_]) dL_totalAnew_4 st_RL_57 na_X9_totalAnew (Nat.le_of_ble_eq_true rfl) (Nat.le_of_ble_eq_true rfl) (by repeat (first | assumption | exact up_s | refine (up_n (by omega)).trans ?_)) rfl hd_totalAnew_1 (Or.inr ⟨3, rfl, dL_totalAnew_11, rfl⟩) (Nat.le_of_ble_eq_true rfl) (Nat.add_zero _) (Nat.add_zero _) (ev) ?_
  refine ev_iconst dL_totalAnew_12 ci1 ?_
  exact ev_ireturnE dL_totalAnew_13 rfl (by rfl)
theorem hl_totalAnewE2 {x0 : Int32} (g2 : h 2 = .inr (9, fs)) (ev : Ev d MX9_totalAnew 0 (lv_args 0 [.ref 2, .int x0]) [] n h (.inr ISE, n1, h1, c, e)) : Ev (d + 1) ML_totalAnew 0 (lv_args 0 [.ref 2, .int x0, .ref 44]) [] n h (.inl (some (.int (nI 2))), n1, h1, c, e) := by
  first | refine ev_aload_n dL_totalAnew_0 rfl ?_ | refine ev_aload_nN dL_totalAnew_0 rfl ?_
  refine ev_iconst dL_totalAnew_1 ci0 ?_
  first | refine ev_aload_n dL_totalAnew_2 rfl ?_ | refine ev_aload_nN dL_totalAnew_2 rfl ?_
  refine ev_iload_n dL_totalAnew_3 rfl ?_
  refine ev_callVc (as := [_]) dL_totalAnew_4 st_RL_57 na_X9_totalAnew (Nat.le_of_ble_eq_true rfl) (Nat.le_of_ble_eq_true rfl) (by repeat (first | assumption | exact up_s | refine (up_n (by omega)).trans ?_)) rfl hd_totalAnew_2 (Or.inr ⟨3, rfl, dL_totalAnew_14, rfl⟩) (Nat.le_of_ble_eq_true rfl) (Nat.add_zero _) (Nat.add_zero _) (ev) ?_
  refine ev_iconst dL_totalAnew_15 ci2 ?_
  exact ev_ireturnE dL_totalAnew_16 rfl (by rfl)
end LH
