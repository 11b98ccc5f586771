/-! the law's helpers: what they return, out of what the class returns or throws -/
abbrev ISE : String := "java/lang/IllegalStateException"
abbrev IAE : String := "java/lang/IllegalArgumentException"
theorem bp10 : (Int8.ofInt 10).toInt32 = nI 10 := by decide +kernel
theorem bp32 : (Int8.ofInt 32).toInt32 = nI 32 := by decide +kernel
theorem bp40 : (Int8.ofInt 40).toInt32 = nI 40 := by decide +kernel
theorem bp50 : (Int8.ofInt 50).toInt32 = nI 50 := by decide +kernel
theorem bp99 : (Int8.ofInt 99).toInt32 = nI 99 := by decide +kernel
theorem hd_put_1 : am_HD (mC ML_put) (mH ML_put) 3 IOE 7 := ⟨[], (0, 6, 7, 16), [(0, 6, 11, 19)], rfl, rfl, by decide, by decide, am_in 252 (by decide +kernel) rfl, by decide +kernel, nofun⟩
theorem hd_put_2 : am_HD (mC ML_put) (mH ML_put) 3 ISE 11 := ⟨[(0, 6, 7, 16)], (0, 6, 11, 19), [], rfl, rfl, by decide, by decide, am_in 484 (by decide +kernel) rfl, by decide +kernel, fun z hz => by
  cases List.mem_singleton.mp hz
  exact ⟨by decide, "java/lang/IndexOutOfBoundsException", am_in 252 (by decide +kernel) rfl, by decide +kernel⟩⟩
theorem hd_pair_1 : am_HD (mC ML_pair) (mH ML_pair) 1 ISE 5 := ⟨[], (0, 4, 5, 19), [], rfl, rfl, by decide, by decide, am_in 484 (by decide +kernel) rfl, by decide +kernel, nofun⟩
theorem hd_takeBack_1 : am_HD (mC ML_takeBack) (mH ML_takeBack) 2 IOE 6 := ⟨[], (0, 5, 6, 16), [], rfl, rfl, by decide, by decide, am_in 252 (by decide +kernel) rfl, by decide +kernel, nofun⟩
theorem hd_weight_1 : am_HD (mC ML_weight) (mH ML_weight) 3 IOE 7 := ⟨[], (0, 6, 7, 16), [(0, 6, 11, 33)], rfl, rfl, by decide, by decide, am_in 252 (by decide +kernel) rfl, by decide +kernel, nofun⟩
theorem hd_weight_2 : am_HD (mC ML_weight) (mH ML_weight) 3 IAE 11 := ⟨[(0, 6, 7, 16)], (0, 6, 11, 33), [], rfl, rfl, by decide, by decide, am_in 655 (by decide +kernel) rfl, by decide +kernel, fun z hz => by
  cases List.mem_singleton.mp hz
  exact ⟨by decide, "java/lang/IndexOutOfBoundsException", am_in 252 (by decide +kernel) rfl, by decide +kernel⟩⟩
theorem hd_word_1 : am_HD (mC ML_word) (mH ML_word) 4 IOE 8 := ⟨[], (0, 7, 8, 16), [], rfl, rfl, by decide, by decide, am_in 252 (by decide +kernel) rfl, by decide +kernel, nofun⟩
theorem hd_share_1 : am_HD (mC ML_share) (mH ML_share) 4 IOE 8 := ⟨[], (0, 7, 8, 16), [], rfl, rfl, by decide, by decide, am_in 252 (by decide +kernel) rfl, by decide +kernel, nofun⟩
theorem hd_link_1 : am_HD (mC ML_link) (mH ML_link) 4 IOE 8 := ⟨[], (0, 7, 8, 16), [], rfl, rfl, by decide, by decide, am_in 252 (by decide +kernel) rfl, by decide +kernel, nofun⟩
theorem hd_isJoined_1 : am_HD (mC ML_isJoined) (mH ML_isJoined) 4 IOE 16 := ⟨[], (0, 15, 16, 16), [], rfl, rfl, by decide, by decide, am_in 252 (by decide +kernel) rfl, by decide +kernel, nofun⟩
theorem hd_phrases_1 : am_HD (mC ML_phrases) (mH ML_phrases) 2 IOE 6 := ⟨[], (0, 5, 6, 16), [], rfl, rfl, by decide, by decide, am_in 252 (by decide +kernel) rfl, by decide +kernel, nofun⟩
theorem hd_phrase_1 : am_HD (mC ML_phrase) (mH ML_phrase) 4 IOE 8 := ⟨[], (0, 7, 8, 16), [(0, 7, 13, 33)], rfl, rfl, by decide, by decide, am_in 252 (by decide +kernel) rfl, by decide +kernel, nofun⟩
theorem hd_phrase_2 : am_HD (mC ML_phrase) (mH ML_phrase) 4 IAE 13 := ⟨[(0, 7, 8, 16)], (0, 7, 13, 33), [], rfl, rfl, by decide, by decide, am_in 655 (by decide +kernel) rfl, by decide +kernel, fun z hz => by
  cases List.mem_singleton.mp hz
  exact ⟨by decide, "java/lang/IndexOutOfBoundsException", am_in 252 (by decide +kernel) rfl, by decide +kernel⟩⟩
theorem hd_fertility_1 : am_HD (mC ML_fertility) (mH ML_fertility) 3 IOE 7 := ⟨[], (0, 6, 7, 16), [(0, 6, 11, 33)], rfl, rfl, by decide, by decide, am_in 252 (by decide +kernel) rfl, by decide +kernel, nofun⟩
theorem hd_fertility_2 : am_HD (mC ML_fertility) (mH ML_fertility) 3 IAE 11 := ⟨[(0, 6, 7, 16)], (0, 6, 11, 33), [], rfl, rfl, by decide, by decide, am_in 655 (by decide +kernel) rfl, by decide +kernel, fun z hz => by
  cases List.mem_singleton.mp hz
  exact ⟨by decide, "java/lang/IndexOutOfBoundsException", am_in 252 (by decide +kernel) rfl, by decide +kernel⟩⟩
theorem hd_total_1 : am_HD (mC ML_total) (mH ML_total) 2 IOE 6 := ⟨[], (0, 5, 6, 16), [(0, 5, 11, 19)], rfl, rfl, by decide, by decide, am_in 252 (by decide +kernel) rfl, by decide +kernel, nofun⟩
theorem hd_total_2 : am_HD (mC ML_total) (mH ML_total) 2 ISE 11 := ⟨[(0, 5, 6, 16)], (0, 5, 11, 19), [], rfl, rfl, by decide, by decide, am_in 484 (by decide +kernel) rfl, by decide +kernel, fun z hz => by
  cases List.mem_singleton.mp hz
  exact ⟨by decide, "java/lang/IndexOutOfBoundsException", am_in 252 (by decide +kernel) rfl, by decide +kernel⟩⟩
theorem hd_totalAnew_1 : am_HD (mC ML_totalAnew) (mH ML_totalAnew) 2 IOE 6 := ⟨[], (0, 5, 6, 16), [(0, 5, 11, 19)], rfl, rfl, by decide, by decide, am_in 252 (by decide +kernel) rfl, by decide +kernel, nofun⟩
theorem hd_totalAnew_2 : am_HD (mC ML_totalAnew) (mH ML_totalAnew) 2 ISE 11 := ⟨[(0, 5, 6, 16)], (0, 5, 11, 19), [], rfl, rfl, by decide, by decide, am_in 484 (by decide +kernel) rfl, by decide +kernel, fun z hz => by
  cases List.mem_singleton.mp hz
  exact ⟨by decide, "java/lang/IndexOutOfBoundsException", am_in 252 (by decide +kernel) rfl, by decide +kernel⟩⟩
section LH
variable {d n n1 c e : Nat} {h h1 : Hp} {fs : List Value}
theorem hl_putR {x0 x1 : Int32} {b : Int32} (g2 : h 2 = .inr (9, fs)) (ev : Ev d MX9_put 0 (lv_args 0 [.ref 2, .int x0, .int x1]) [] n h (.inl (some (.int b)), n1, h1, c, e)) : Ev (d + 1) ML_put 0 (lv_args 0 [.ref 2, .int x0, .int x1]) [] n h (.inl (some (.int b)), n1, h1, c, e) := by
  first | refine ev_aload_n dL_put_0 rfl ?_ | refine ev_aload_nN dL_put_0 rfl ?_
  refine ev_iload_n dL_put_1 rfl ?_
  refine ev_iload_n dL_put_2 rfl ?_
  refine ev_V2K dL_put_3 st_RL_10 na_X9_put (Nat.le_of_ble_eq_true rfl) (Nat.le_of_ble_eq_true rfl) (by repeat (first | assumption | exact up_s | refine (up_n (by omega)).trans ?_)) rfl (Nat.add_zero _) (Nat.add_zero _) (ev) ?_
  exact ev_ireturnE dL_put_6 rfl (by rfl)
theorem hl_putE1 {x0 x1 : Int32} (g2 : h 2 = .inr (9, fs)) (ev : Ev d MX9_put 0 (lv_args 0 [.ref 2, .int x0, .int x1]) [] n h (.inr IOE, n1, h1, c, e)) : Ev (d + 1) ML_put 0 (lv_args 0 [.ref 2, .int x0, .int x1]) [] n h (.inl (some (.int (-1000001))), n1, h1, c, e) := by
  first | refine ev_aload_n dL_put_0 rfl ?_ | refine ev_aload_nN dL_put_0 rfl ?_
  refine ev_iload_n dL_put_1 rfl ?_
  refine ev_iload_n dL_put_2 rfl ?_
  refine ev_callVc (as := [_, _]) dL_put_3 st_RL_10 na_X9_put (Nat.le_of_ble_eq_true rfl) (Nat.le_of_ble_eq_true rfl) (by repeat (first | assumption | exact up_s | refine (up_n (by omega)).trans ?_)) rfl hd_put_1 (Or.inr ⟨3, rfl, dL_put_7, rfl⟩) (Nat.le_of_ble_eq_true rfl) (Nat.add_zero _) (Nat.add_zero _) (ev) ?_
  refine ev_ldc (v := -1000001) dL_put_8 (am_in 342 (by decide +kernel) rfl) ?_
  exact ev_ireturnE dL_put_10 rfl (by rfl)
theorem hl_putE2 {x0 x1 : Int32} (g2 : h 2 = .inr (9, fs)) (ev : Ev d MX9_put 0 (lv_args 0 [.ref 2, .int x0, .int x1]) [] n h (.inr ISE, n1, h1, c, e)) : Ev (d + 1) ML_put 0 (lv_args 0 [.ref 2, .int x0, .int x1]) [] n h (.inl (some (.int (-1000003))), n1, h1, c, e) := by
  first | refine ev_aload_n dL_put_0 rfl ?_ | refine ev_aload_nN dL_put_0 rfl ?_
  refine ev_iload_n dL_put_1 rfl ?_
  refine ev_iload_n dL_put_2 rfl ?_
  refine ev_callVc (as := [_, _]) dL_put_3 st_RL_10 na_X9_put (Nat.le_of_ble_eq_true rfl) (Nat.le_of_ble_eq_true rfl) (by repeat (first | assumption | exact up_s | refine (up_n (by omega)).trans ?_)) rfl hd_put_2 (Or.inr ⟨3, rfl, dL_put_11, rfl⟩) (Nat.le_of_ble_eq_true rfl) (Nat.add_zero _) (Nat.add_zero _) (ev) ?_
  refine ev_ldc (v := -1000003) dL_put_12 (am_in 515 (by decide +kernel) rfl) ?_
  exact ev_ireturnE dL_put_14 rfl (by rfl)
theorem hl_pairR {b : Int32} (g2 : h 2 = .inr (9, fs)) (ev : Ev d MX9_pair 0 (lv_args 0 [.ref 2]) [] n h (.inl (some (.int b)), n1, h1, c, e)) : Ev (d + 1) ML_pair 0 (lv_args 0 [.ref 2]) [] n h (.inl (some (.int b)), n1, h1, c, e) := by
  first | refine ev_aload_n dL_pair_0 rfl ?_ | refine ev_aload_nN dL_pair_0 rfl ?_
  refine ev_V0K dL_pair_1 st_RL_22 na_X9_pair (Nat.le_of_ble_eq_true rfl) (Nat.le_of_ble_eq_true rfl) (by repeat (first | assumption | exact up_s | refine (up_n (by omega)).trans ?_)) rfl (Nat.add_zero _) (Nat.add_zero _) (ev) ?_
  exact ev_ireturnE dL_pair_4 rfl (by rfl)
theorem hl_pairE1 (g2 : h 2 = .inr (9, fs)) (ev : Ev d MX9_pair 0 (lv_args 0 [.ref 2]) [] n h (.inr ISE, n1, h1, c, e)) : Ev (d + 1) ML_pair 0 (lv_args 0 [.ref 2]) [] n h (.inl (some (.int (-1000003))), n1, h1, c, e) := by
  first | refine ev_aload_n dL_pair_0 rfl ?_ | refine ev_aload_nN dL_pair_0 rfl ?_
  refine ev_callVc (as := []) dL_pair_1 st_RL_22 na_X9_pair (Nat.le_of_ble_eq_true rfl) (Nat.le_of_ble_eq_true rfl) (by repeat (first | assumption | exact up_s | refine (up_n (by omega)).trans ?_)) rfl hd_pair_1 (Or.inr ⟨1, rfl, dL_pair_5, rfl⟩) (Nat.le_of_ble_eq_true rfl) (Nat.add_zero _) (Nat.add_zero _) (ev) ?_
  refine ev_ldc (v := -1000003) dL_pair_6 (am_in 515 (by decide +kernel) rfl) ?_
  exact ev_ireturnE dL_pair_8 rfl (by rfl)
theorem hl_takeBackR {x0 : Int32} {b : Int32} (g2 : h 2 = .inr (9, fs)) (ev : Ev d MX9_takeBack 0 (lv_args 0 [.ref 2, .int x0]) [] n h (.inl (some (.int b)), n1, h1, c, e)) : Ev (d + 1) ML_takeBack 0 (lv_args 0 [.ref 2, .int x0]) [] n h (.inl (some (.int b)), n1, h1, c, e) := by
  first | refine ev_aload_n dL_takeBack_0 rfl ?_ | refine ev_aload_nN dL_takeBack_0 rfl ?_
  refine ev_iload_n dL_takeBack_1 rfl ?_
  refine ev_V1K dL_takeBack_2 st_RL_26 na_X9_takeBack (Nat.le_of_ble_eq_true rfl) (Nat.le_of_ble_eq_true rfl) (by repeat (first | assumption | exact up_s | refine (up_n (by omega)).trans ?_)) rfl (Nat.add_zero _) (Nat.add_zero _) (ev) ?_
  exact ev_ireturnE dL_takeBack_5 rfl (by rfl)
theorem hl_takeBackE1 {x0 : Int32} (g2 : h 2 = .inr (9, fs)) (ev : Ev d MX9_takeBack 0 (lv_args 0 [.ref 2, .int x0]) [] n h (.inr IOE, n1, h1, c, e)) : Ev (d + 1) ML_takeBack 0 (lv_args 0 [.ref 2, .int x0]) [] n h (.inl (some (.int (-1000001))), n1, h1, c, e) := by
  first | refine ev_aload_n dL_takeBack_0 rfl ?_ | refine ev_aload_nN dL_takeBack_0 rfl ?_
  refine ev_iload_n dL_takeBack_1 rfl ?_
  refine ev_callVc (as := [_]) dL_takeBack_2 st_RL_26 na_X9_takeBack (Nat.le_of_ble_eq_true rfl) (Nat.le_of_ble_eq_true rfl) (by repeat (first | assumption | exact up_s | refine (up_n (by omega)).trans ?_)) rfl hd_takeBack_1 (Or.inr ⟨2, rfl, dL_takeBack_6, rfl⟩) (Nat.le_of_ble_eq_true rfl) (Nat.add_zero _) (Nat.add_zero _) (ev) ?_
  refine ev_ldc (v := -1000001) dL_takeBack_7 (am_in 342 (by decide +kernel) rfl) ?_
  exact ev_ireturnE dL_takeBack_9 rfl (by rfl)
theorem hl_weightR {x0 x1 : Int32} {b : Int32} (g2 : h 2 = .inr (9, fs)) (ev : Ev d MX9_weight 0 (lv_args 0 [.ref 2, .int x0, .int x1]) [] n h (.inl (some (.int b)), n1, h1, c, e)) : Ev (d + 1) ML_weight 0 (lv_args 0 [.ref 2, .int x0, .int x1]) [] n h (.inl (some (.int b)), n1, h1, c, e) := by
  first | refine ev_aload_n dL_weight_0 rfl ?_ | refine ev_aload_nN dL_weight_0 rfl ?_
  refine ev_iload_n dL_weight_1 rfl ?_
  refine ev_iload_n dL_weight_2 rfl ?_
  refine ev_V2K dL_weight_3 st_RL_30 na_X9_weight (Nat.le_of_ble_eq_true rfl) (Nat.le_of_ble_eq_true rfl) (by repeat (first | assumption | exact up_s | refine (up_n (by omega)).trans ?_)) rfl (Nat.add_zero _) (Nat.add_zero _) (ev) ?_
  exact ev_ireturnE dL_weight_6 rfl (by rfl)
theorem hl_weightE1 {x0 x1 : Int32} (g2 : h 2 = .inr (9, fs)) (ev : Ev d MX9_weight 0 (lv_args 0 [.ref 2, .int x0, .int x1]) [] n h (.inr IOE, n1, h1, c, e)) : Ev (d + 1) ML_weight 0 (lv_args 0 [.ref 2, .int x0, .int x1]) [] n h (.inl (some (.int (-1000001))), n1, h1, c, e) := by
  first | refine ev_aload_n dL_weight_0 rfl ?_ | refine ev_aload_nN dL_weight_0 rfl ?_
  refine ev_iload_n dL_weight_1 rfl ?_
  refine ev_iload_n dL_weight_2 rfl ?_
  refine ev_callVc (as := [_, _]) dL_weight_3 st_RL_30 na_X9_weight (Nat.le_of_ble_eq_true rfl) (Nat.le_of_ble_eq_true rfl) (by repeat (first | assumption | exact up_s | refine (up_n (by omega)).trans ?_)) rfl hd_weight_1 (Or.inr ⟨3, rfl, dL_weight_7, rfl⟩) (Nat.le_of_ble_eq_true rfl) (Nat.add_zero _) (Nat.add_zero _) (ev) ?_
  refine ev_ldc (v := -1000001) dL_weight_8 (am_in 342 (by decide +kernel) rfl) ?_
  exact ev_ireturnE dL_weight_10 rfl (by rfl)
theorem hl_weightE2 {x0 x1 : Int32} (g2 : h 2 = .inr (9, fs)) (ev : Ev d MX9_weight 0 (lv_args 0 [.ref 2, .int x0, .int x1]) [] n h (.inr IAE, n1, h1, c, e)) : Ev (d + 1) ML_weight 0 (lv_args 0 [.ref 2, .int x0, .int x1]) [] n h (.inl (some (.int (-1000002))), n1, h1, c, e) := by
  first | refine ev_aload_n dL_weight_0 rfl ?_ | refine ev_aload_nN dL_weight_0 rfl ?_
  refine ev_iload_n dL_weight_1 rfl ?_
  refine ev_iload_n dL_weight_2 rfl ?_
  refine ev_callVc (as := [_, _]) dL_weight_3 st_RL_30 na_X9_weight (Nat.le_of_ble_eq_true rfl) (Nat.le_of_ble_eq_true rfl) (by repeat (first | assumption | exact up_s | refine (up_n (by omega)).trans ?_)) rfl hd_weight_2 (Or.inr ⟨3, rfl, dL_weight_11, rfl⟩) (Nat.le_of_ble_eq_true rfl) (Nat.add_zero _) (Nat.add_zero _) (ev) ?_
  refine ev_ldc (v := -1000002) dL_weight_12 (am_in 685 (by decide +kernel) rfl) ?_
  exact ev_ireturnE dL_weight_14 rfl (by rfl)
theorem hl_wordR {x0 x1 x2 : Int32} {b : Int32} (g2 : h 2 = .inr (9, fs)) (ev : Ev d MX9_word 0 (lv_args 0 [.ref 2, .int x0, .int x1, .int x2]) [] n h (.inl (some (.int b)), n1, h1, c, e)) : Ev (d + 1) ML_word 0 (lv_args 0 [.ref 2, .int x0, .int x1, .int x2]) [] n h (.inl (some (.int b)), n1, h1, c, e) := by
  first | refine ev_aload_n dL_word_0 rfl ?_ | refine ev_aload_nN dL_word_0 rfl ?_
  refine ev_iload_n dL_word_1 rfl ?_
  refine ev_iload_n dL_word_2 rfl ?_
  refine ev_iload_n dL_word_3 rfl ?_
  refine ev_V3K dL_word_4 st_RL_36 na_X9_word (Nat.le_of_ble_eq_true rfl) (Nat.le_of_ble_eq_true rfl) (by repeat (first | assumption | exact up_s | refine (up_n (by omega)).trans ?_)) rfl (Nat.add_zero _) (Nat.add_zero _) (ev) ?_
  exact ev_ireturnE dL_word_7 rfl (by rfl)
theorem hl_wordE1 {x0 x1 x2 : Int32} (g2 : h 2 = .inr (9, fs)) (ev : Ev d MX9_word 0 (lv_args 0 [.ref 2, .int x0, .int x1, .int x2]) [] n h (.inr IOE, n1, h1, c, e)) : Ev (d + 1) ML_word 0 (lv_args 0 [.ref 2, .int x0, .int x1, .int x2]) [] n h (.inl (some (.int (-1000001))), n1, h1, c, e) := by
  first | refine ev_aload_n dL_word_0 rfl ?_ | refine ev_aload_nN dL_word_0 rfl ?_
  refine ev_iload_n dL_word_1 rfl ?_
  refine ev_iload_n dL_word_2 rfl ?_
  refine ev_iload_n dL_word_3 rfl ?_
  refine ev_callVc (as := [_, _, _]) dL_word_4 st_RL_36 na_X9_word (Nat.le_of_ble_eq_true rfl) (Nat.le_of_ble_eq_true rfl) (by repeat (first | assumption | exact up_s | refine (up_n (by omega)).trans ?_)) rfl hd_word_1 (Or.inl ⟨dL_word_8, rfl⟩) (Nat.le_of_ble_eq_true rfl) (Nat.add_zero _) (Nat.add_zero _) (ev) ?_
  refine ev_ldc (v := -1000001) dL_word_10 (am_in 342 (by decide +kernel) rfl) ?_
  exact ev_ireturnE dL_word_12 rfl (by rfl)
theorem hl_shareR {x0 x1 x2 : Int32} {b : Int32} (g2 : h 2 = .inr (9, fs)) (ev : Ev d MX9_share 0 (lv_args 0 [.ref 2, .int x0, .int x1, .int x2]) [] n h (.inl (some (.int b)), n1, h1, c, e)) : Ev (d + 1) ML_share 0 (lv_args 0 [.ref 2, .int x0, .int x1, .int x2]) [] n h (.inl (some (.int b)), n1, h1, c, e) := by
  first | refine ev_aload_n dL_share_0 rfl ?_ | refine ev_aload_nN dL_share_0 rfl ?_
  refine ev_iload_n dL_share_1 rfl ?_
  refine ev_iload_n dL_share_2 rfl ?_
  refine ev_iload_n dL_share_3 rfl ?_
  refine ev_V3K dL_share_4 st_RL_40 na_X9_share (Nat.le_of_ble_eq_true rfl) (Nat.le_of_ble_eq_true rfl) (by repeat (first | assumption | exact up_s | refine (up_n (by omega)).trans ?_)) rfl (Nat.add_zero _) (Nat.add_zero _) (ev) ?_
  exact ev_ireturnE dL_share_7 rfl (by rfl)
theorem hl_shareE1 {x0 x1 x2 : Int32} (g2 : h 2 = .inr (9, fs)) (ev : Ev d MX9_share 0 (lv_args 0 [.ref 2, .int x0, .int x1, .int x2]) [] n h (.inr IOE, n1, h1, c, e)) : Ev (d + 1) ML_share 0 (lv_args 0 [.ref 2, .int x0, .int x1, .int x2]) [] n h (.inl (some (.int (-1000001))), n1, h1, c, e) := by
  first | refine ev_aload_n dL_share_0 rfl ?_ | refine ev_aload_nN dL_share_0 rfl ?_
  refine ev_iload_n dL_share_1 rfl ?_
  refine ev_iload_n dL_share_2 rfl ?_
  refine ev_iload_n dL_share_3 rfl ?_
  refine ev_callVc (as := [_, _, _]) dL_share_4 st_RL_40 na_X9_share (Nat.le_of_ble_eq_true rfl) (Nat.le_of_ble_eq_true rfl) (by repeat (first | assumption | exact up_s | refine (up_n (by omega)).trans ?_)) rfl hd_share_1 (Or.inl ⟨dL_share_8, rfl⟩) (Nat.le_of_ble_eq_true rfl) (Nat.add_zero _) (Nat.add_zero _) (ev) ?_
  refine ev_ldc (v := -1000001) dL_share_10 (am_in 342 (by decide +kernel) rfl) ?_
  exact ev_ireturnE dL_share_12 rfl (by rfl)
theorem hl_linkR {x0 x1 x2 : Int32} {b : Int32} (g2 : h 2 = .inr (9, fs)) (ev : Ev d MX9_link 0 (lv_args 0 [.ref 2, .int x0, .int x1, .int x2]) [] n h (.inl (some (.int b)), n1, h1, c, e)) : Ev (d + 1) ML_link 0 (lv_args 0 [.ref 2, .int x0, .int x1, .int x2]) [] n h (.inl (some (.int b)), n1, h1, c, e) := by
  first | refine ev_aload_n dL_link_0 rfl ?_ | refine ev_aload_nN dL_link_0 rfl ?_
  refine ev_iload_n dL_link_1 rfl ?_
  refine ev_iload_n dL_link_2 rfl ?_
  refine ev_iload_n dL_link_3 rfl ?_
  refine ev_V3K dL_link_4 st_RL_43 na_X9_link (Nat.le_of_ble_eq_true rfl) (Nat.le_of_ble_eq_true rfl) (by repeat (first | assumption | exact up_s | refine (up_n (by omega)).trans ?_)) rfl (Nat.add_zero _) (Nat.add_zero _) (ev) ?_
  exact ev_ireturnE dL_link_7 rfl (by rfl)
theorem hl_linkE1 {x0 x1 x2 : Int32} (g2 : h 2 = .inr (9, fs)) (ev : Ev d MX9_link 0 (lv_args 0 [.ref 2, .int x0, .int x1, .int x2]) [] n h (.inr IOE, n1, h1, c, e)) : Ev (d + 1) ML_link 0 (lv_args 0 [.ref 2, .int x0, .int x1, .int x2]) [] n h (.inl (some (.int (-1000001))), n1, h1, c, e) := by
  first | refine ev_aload_n dL_link_0 rfl ?_ | refine ev_aload_nN dL_link_0 rfl ?_
  refine ev_iload_n dL_link_1 rfl ?_
  refine ev_iload_n dL_link_2 rfl ?_
  refine ev_iload_n dL_link_3 rfl ?_
  refine ev_callVc (as := [_, _, _]) dL_link_4 st_RL_43 na_X9_link (Nat.le_of_ble_eq_true rfl) (Nat.le_of_ble_eq_true rfl) (by repeat (first | assumption | exact up_s | refine (up_n (by omega)).trans ?_)) rfl hd_link_1 (Or.inl ⟨dL_link_8, rfl⟩) (Nat.le_of_ble_eq_true rfl) (Nat.add_zero _) (Nat.add_zero _) (ev) ?_
  refine ev_ldc (v := -1000001) dL_link_10 (am_in 342 (by decide +kernel) rfl) ?_
  exact ev_ireturnE dL_link_12 rfl (by rfl)
theorem hl_isJoinedR {x0 x1 x2 : Int32} {b : Nat} (hb : b = 0 ∨ b = 1) (g2 : h 2 = .inr (9, fs)) (ev : Ev d MX9_isJoined 0 (lv_args 0 [.ref 2, .int x0, .int x1, .int x2]) [] n h (.inl (some (.int (nI b))), n1, h1, c, e)) : Ev (d + 1) ML_isJoined 0 (lv_args 0 [.ref 2, .int x0, .int x1, .int x2]) [] n h (.inl (some (.int (nI b))), n1, h1, c, e) := by
  rcases hb with rfl | rfl
  · first | refine ev_aload_n dL_isJoined_0 rfl ?_ | refine ev_aload_nN dL_isJoined_0 rfl ?_
    refine ev_iload_n dL_isJoined_1 rfl ?_
    refine ev_iload_n dL_isJoined_2 rfl ?_
    refine ev_iload_n dL_isJoined_3 rfl ?_
    refine ev_V3K dL_isJoined_4 st_RL_46 na_X9_isJoined (Nat.le_of_ble_eq_true rfl) (Nat.le_of_ble_eq_true rfl) (by repeat (first | assumption | exact up_s | refine (up_n (by omega)).trans ?_)) rfl (Nat.add_zero _) (Nat.add_zero _) (ev) ?_
    refine ev_if_eqT (tgt := 14) dL_isJoined_7 (by decide) (by first | assumption | exact z_eq (by omega) | decide) ?_
    refine ev_iconst dL_isJoined_14 ci0 ?_
    exact ev_ireturnE dL_isJoined_15 rfl (by rfl)
  · first | refine ev_aload_n dL_isJoined_0 rfl ?_ | refine ev_aload_nN dL_isJoined_0 rfl ?_
    refine ev_iload_n dL_isJoined_1 rfl ?_
    refine ev_iload_n dL_isJoined_2 rfl ?_
    refine ev_iload_n dL_isJoined_3 rfl ?_
    refine ev_V3K dL_isJoined_4 st_RL_46 na_X9_isJoined (Nat.le_of_ble_eq_true rfl) (Nat.le_of_ble_eq_true rfl) (by repeat (first | assumption | exact up_s | refine (up_n (by omega)).trans ?_)) rfl (Nat.add_zero _) (Nat.add_zero _) (ev) ?_
    refine ev_if_eqF dL_isJoined_7 14 (by decide) (by first | assumption | exact nI_ne0 (by omega) (by omega) | decide) ?_
    refine ev_iconst dL_isJoined_10 ci1 ?_
    refine ev_goto (tgt := 15) dL_isJoined_11 (by decide) ?_
    exact ev_ireturnE dL_isJoined_15 rfl (by rfl)
theorem hl_isJoinedE1 {x0 x1 x2 : Int32} (g2 : h 2 = .inr (9, fs)) (ev : Ev d MX9_isJoined 0 (lv_args 0 [.ref 2, .int x0, .int x1, .int x2]) [] n h (.inr IOE, n1, h1, c, e)) : Ev (d + 1) ML_isJoined 0 (lv_args 0 [.ref 2, .int x0, .int x1, .int x2]) [] n h (.inl (some (.int (-1000001))), n1, h1, c, e) := by
  first | refine ev_aload_n dL_isJoined_0 rfl ?_ | refine ev_aload_nN dL_isJoined_0 rfl ?_
  refine ev_iload_n dL_isJoined_1 rfl ?_
  refine ev_iload_n dL_isJoined_2 rfl ?_
  refine ev_iload_n dL_isJoined_3 rfl ?_
  refine ev_callVc (as := [_, _, _]) dL_isJoined_4 st_RL_46 na_X9_isJoined (Nat.le_of_ble_eq_true rfl) (Nat.le_of_ble_eq_true rfl) (by repeat (first | assumption | exact up_s | refine (up_n (by omega)).trans ?_)) rfl hd_isJoined_1 (Or.inl ⟨dL_isJoined_16, rfl⟩) (Nat.le_of_ble_eq_true rfl) (Nat.add_zero _) (Nat.add_zero _) (ev) ?_
  refine ev_ldc (v := -1000001) dL_isJoined_18 (am_in 342 (by decide +kernel) rfl) ?_
  exact ev_ireturnE dL_isJoined_20 rfl (by rfl)
theorem hl_phrasesR {x0 : Int32} {b : Int32} (g2 : h 2 = .inr (9, fs)) (ev : Ev d MX9_phrases 0 (lv_args 0 [.ref 2, .int x0]) [] n h (.inl (some (.int b)), n1, h1, c, e)) : Ev (d + 1) ML_phrases 0 (lv_args 0 [.ref 2, .int x0]) [] n h (.inl (some (.int b)), n1, h1, c, e) := by
  first | refine ev_aload_n dL_phrases_0 rfl ?_ | refine ev_aload_nN dL_phrases_0 rfl ?_
  refine ev_iload_n dL_phrases_1 rfl ?_
  refine ev_V1K dL_phrases_2 st_RL_50 na_X9_phrases (Nat.le_of_ble_eq_true rfl) (Nat.le_of_ble_eq_true rfl) (by repeat (first | assumption | exact up_s | refine (up_n (by omega)).trans ?_)) rfl (Nat.add_zero _) (Nat.add_zero _) (ev) ?_
  exact ev_ireturnE dL_phrases_5 rfl (by rfl)
theorem hl_phrasesE1 {x0 : Int32} (g2 : h 2 = .inr (9, fs)) (ev : Ev d MX9_phrases 0 (lv_args 0 [.ref 2, .int x0]) [] n h (.inr IOE, n1, h1, c, e)) : Ev (d + 1) ML_phrases 0 (lv_args 0 [.ref 2, .int x0]) [] n h (.inl (some (.int (-1000001))), n1, h1, c, e) := by
  first | refine ev_aload_n dL_phrases_0 rfl ?_ | refine ev_aload_nN dL_phrases_0 rfl ?_
  refine ev_iload_n dL_phrases_1 rfl ?_
  refine ev_callVc (as := [_]) dL_phrases_2 st_RL_50 na_X9_phrases (Nat.le_of_ble_eq_true rfl) (Nat.le_of_ble_eq_true rfl) (by repeat (first | assumption | exact up_s | refine (up_n (by omega)).trans ?_)) rfl hd_phrases_1 (Or.inr ⟨2, rfl, dL_phrases_6, rfl⟩) (Nat.le_of_ble_eq_true rfl) (Nat.add_zero _) (Nat.add_zero _) (ev) ?_
  refine ev_ldc (v := -1000001) dL_phrases_7 (am_in 342 (by decide +kernel) rfl) ?_
  exact ev_ireturnE dL_phrases_9 rfl (by rfl)
theorem hl_phraseR {x0 x1 x2 : Int32} {b : Int32} (g2 : h 2 = .inr (9, fs)) (ev : Ev d MX9_phrase 0 (lv_args 0 [.ref 2, .int x0, .int x1, .int x2]) [] n h (.inl (some (.int b)), n1, h1, c, e)) : Ev (d + 1) ML_phrase 0 (lv_args 0 [.ref 2, .int x0, .int x1, .int x2]) [] n h (.inl (some (.int b)), n1, h1, c, e) := by
  first | refine ev_aload_n dL_phrase_0 rfl ?_ | refine ev_aload_nN dL_phrase_0 rfl ?_
  refine ev_iload_n dL_phrase_1 rfl ?_
  refine ev_iload_n dL_phrase_2 rfl ?_
  refine ev_iload_n dL_phrase_3 rfl ?_
  refine ev_V3K dL_phrase_4 st_RL_53 na_X9_phrase (Nat.le_of_ble_eq_true rfl) (Nat.le_of_ble_eq_true rfl) (by repeat (first | assumption | exact up_s | refine (up_n (by omega)).trans ?_)) rfl (Nat.add_zero _) (Nat.add_zero _) (ev) ?_
  exact ev_ireturnE dL_phrase_7 rfl (by rfl)
theorem hl_phraseE1 {x0 x1 x2 : Int32} (g2 : h 2 = .inr (9, fs)) (ev : Ev d MX9_phrase 0 (lv_args 0 [.ref 2, .int x0, .int x1, .int x2]) [] n h (.inr IOE, n1, h1, c, e)) : Ev (d + 1) ML_phrase 0 (lv_args 0 [.ref 2, .int x0, .int x1, .int x2]) [] n h (.inl (some (.int (-1000001))), n1, h1, c, e) := by
  first | refine ev_aload_n dL_phrase_0 rfl ?_ | refine ev_aload_nN dL_phrase_0 rfl ?_
  refine ev_iload_n dL_phrase_1 rfl ?_
  refine ev_iload_n dL_phrase_2 rfl ?_
  refine ev_iload_n dL_phrase_3 rfl ?_
  refine ev_callVc (as := [_, _, _]) dL_phrase_4 st_RL_53 na_X9_phrase (Nat.le_of_ble_eq_true rfl) (Nat.le_of_ble_eq_true rfl) (by repeat (first | assumption | exact up_s | refine (up_n (by omega)).trans ?_)) rfl hd_phrase_1 (Or.inl ⟨dL_phrase_8, rfl⟩) (Nat.le_of_ble_eq_true rfl) (Nat.add_zero _) (Nat.add_zero _) (ev) ?_
  refine ev_ldc (v := -1000001) dL_phrase_10 (am_in 342 (by decide +kernel) rfl) ?_
  exact ev_ireturnE dL_phrase_12 rfl (by rfl)
theorem hl_phraseE2 {x0 x1 x2 : Int32} (g2 : h 2 = .inr (9, fs)) (ev : Ev d MX9_phrase 0 (lv_args 0 [.ref 2, .int x0, .int x1, .int x2]) [] n h (.inr IAE, n1, h1, c, e)) : Ev (d + 1) ML_phrase 0 (lv_args 0 [.ref 2, .int x0, .int x1, .int x2]) [] n h (.inl (some (.int (-1000002))), n1, h1, c, e) := by
  first | refine ev_aload_n dL_phrase_0 rfl ?_ | refine ev_aload_nN dL_phrase_0 rfl ?_
  refine ev_iload_n dL_phrase_1 rfl ?_
  refine ev_iload_n dL_phrase_2 rfl ?_
  refine ev_iload_n dL_phrase_3 rfl ?_
  refine ev_callVc (as := [_, _, _]) dL_phrase_4 st_RL_53 na_X9_phrase (Nat.le_of_ble_eq_true rfl) (Nat.le_of_ble_eq_true rfl) (by repeat (first | assumption | exact up_s | refine (up_n (by omega)).trans ?_)) rfl hd_phrase_2 (Or.inl ⟨dL_phrase_13, rfl⟩) (Nat.le_of_ble_eq_true rfl) (Nat.add_zero _) (Nat.add_zero _) (ev) ?_
  refine ev_ldc (v := -1000002) dL_phrase_15 (am_in 685 (by decide +kernel) rfl) ?_
  exact ev_ireturnE dL_phrase_17 rfl (by rfl)
theorem hl_fertilityR {x0 x1 : Int32} {b : Int32} (g2 : h 2 = .inr (9, fs)) (ev : Ev d MX9_fertility 0 (lv_args 0 [.ref 2, .int x0, .int x1]) [] n h (.inl (some (.int b)), n1, h1, c, e)) : Ev (d + 1) ML_fertility 0 (lv_args 0 [.ref 2, .int x0, .int x1]) [] n h (.inl (some (.int b)), n1, h1, c, e) := by
  first | refine ev_aload_n dL_fertility_0 rfl ?_ | refine ev_aload_nN dL_fertility_0 rfl ?_
  refine ev_iload_n dL_fertility_1 rfl ?_
  refine ev_iload_n dL_fertility_2 rfl ?_
  refine ev_V2K dL_fertility_3 st_RL_56 na_X9_fertility (Nat.le_of_ble_eq_true rfl) (Nat.le_of_ble_eq_true rfl) (by repeat (first | assumption | exact up_s | refine (up_n (by omega)).trans ?_)) rfl (Nat.add_zero _) (Nat.add_zero _) (ev) ?_
  exact ev_ireturnE dL_fertility_6 rfl (by rfl)
theorem hl_fertilityE1 {x0 x1 : Int32} (g2 : h 2 = .inr (9, fs)) (ev : Ev d MX9_fertility 0 (lv_args 0 [.ref 2, .int x0, .int x1]) [] n h (.inr IOE, n1, h1, c, e)) : Ev (d + 1) ML_fertility 0 (lv_args 0 [.ref 2, .int x0, .int x1]) [] n h (.inl (some (.int (-1000001))), n1, h1, c, e) := by
  first | refine ev_aload_n dL_fertility_0 rfl ?_ | refine ev_aload_nN dL_fertility_0 rfl ?_
  refine ev_iload_n dL_fertility_1 rfl ?_
  refine ev_iload_n dL_fertility_2 rfl ?_
  refine ev_callVc (as := [_, _]) dL_fertility_3 st_RL_56 na_X9_fertility (Nat.le_of_ble_eq_true rfl) (Nat.le_of_ble_eq_true rfl) (by repeat (first | assumption | exact up_s | refine (up_n (by omega)).trans ?_)) rfl hd_fertility_1 (Or.inr ⟨3, rfl, dL_fertility_7, rfl⟩) (Nat.le_of_ble_eq_true rfl) (Nat.add_zero _) (Nat.add_zero _) (ev) ?_
  refine ev_ldc (v := -1000001) dL_fertility_8 (am_in 342 (by decide +kernel) rfl) ?_
  exact ev_ireturnE dL_fertility_10 rfl (by rfl)
theorem hl_fertilityE2 {x0 x1 : Int32} (g2 : h 2 = .inr (9, fs)) (ev : Ev d MX9_fertility 0 (lv_args 0 [.ref 2, .int x0, .int x1]) [] n h (.inr IAE, n1, h1, c, e)) : Ev (d + 1) ML_fertility 0 (lv_args 0 [.ref 2, .int x0, .int x1]) [] n h (.inl (some (.int (-1000002))), n1, h1, c, e) := by
  first | refine ev_aload_n dL_fertility_0 rfl ?_ | refine ev_aload_nN dL_fertility_0 rfl ?_
  refine ev_iload_n dL_fertility_1 rfl ?_
  refine ev_iload_n dL_fertility_2 rfl ?_
  refine ev_callVc (as := [_, _]) dL_fertility_3 st_RL_56 na_X9_fertility (Nat.le_of_ble_eq_true rfl) (Nat.le_of_ble_eq_true rfl) (by repeat (first | assumption | exact up_s | refine (up_n (by omega)).trans ?_)) rfl hd_fertility_2 (Or.inr ⟨3, rfl, dL_fertility_11, rfl⟩) (Nat.le_of_ble_eq_true rfl) (Nat.add_zero _) (Nat.add_zero _) (ev) ?_
  refine ev_ldc (v := -1000002) dL_fertility_12 (am_in 685 (by decide +kernel) rfl) ?_
  exact ev_ireturnE dL_fertility_14 rfl (by rfl)
theorem hl_totalR {x0 : Int32} {b : Int64} (g2 : h 2 = .inr (9, fs)) (ev : Ev d MX9_total 0 (lv_args 0 [.ref 2, .int x0]) [] n h (.inl (some (.long b)), n1, h1, c, e)) : Ev (d + 1) ML_total 0 (lv_args 0 [.ref 2, .int x0]) [] n h (.inl (some (.long b)), n1, h1, c, e) := by
  first | refine ev_aload_n dL_total_0 rfl ?_ | refine ev_aload_nN dL_total_0 rfl ?_
  refine ev_iload_n dL_total_1 rfl ?_
  refine ev_V1K dL_total_2 st_RL_59 na_X9_total (Nat.le_of_ble_eq_true rfl) (Nat.le_of_ble_eq_true rfl) (by repeat (first | assumption | exact up_s | refine (up_n (by omega)).trans ?_)) rfl (Nat.add_zero _) (Nat.add_zero _) (ev) ?_
  exact ev_lreturnE dL_total_5 rfl (by rfl)
theorem hl_totalE1 {x0 : Int32} (g2 : h 2 = .inr (9, fs)) (ev : Ev d MX9_total 0 (lv_args 0 [.ref 2, .int x0]) [] n h (.inr IOE, n1, h1, c, e)) : Ev (d + 1) ML_total 0 (lv_args 0 [.ref 2, .int x0]) [] n h (.inl (some (.long (lZ (-1000001)))), n1, h1, c, e) := by
  first | refine ev_aload_n dL_total_0 rfl ?_ | refine ev_aload_nN dL_total_0 rfl ?_
  refine ev_iload_n dL_total_1 rfl ?_
  refine ev_callVc (as := [_]) dL_total_2 st_RL_59 na_X9_total (Nat.le_of_ble_eq_true rfl) (Nat.le_of_ble_eq_true rfl) (by repeat (first | assumption | exact up_s | refine (up_n (by omega)).trans ?_)) rfl hd_total_1 (Or.inr ⟨2, rfl, dL_total_6, rfl⟩) (Nat.le_of_ble_eq_true rfl) (Nat.add_zero _) (Nat.add_zero _) (ev) ?_
  refine ev_ldc2 (v := lZ (-1000001)) dL_total_7 (am_in 772 (by decide +kernel) rfl) ?_
  exact ev_lreturnE dL_total_10 rfl (by rfl)
theorem hl_totalE2 {x0 : Int32} (g2 : h 2 = .inr (9, fs)) (ev : Ev d MX9_total 0 (lv_args 0 [.ref 2, .int x0]) [] n h (.inr ISE, n1, h1, c, e)) : Ev (d + 1) ML_total 0 (lv_args 0 [.ref 2, .int x0]) [] n h (.inl (some (.long (lZ (-1000003)))), n1, h1, c, e) := by
  first | refine ev_aload_n dL_total_0 rfl ?_ | refine ev_aload_nN dL_total_0 rfl ?_
  refine ev_iload_n dL_total_1 rfl ?_
  refine ev_callVc (as := [_]) dL_total_2 st_RL_59 na_X9_total (Nat.le_of_ble_eq_true rfl) (Nat.le_of_ble_eq_true rfl) (by repeat (first | assumption | exact up_s | refine (up_n (by omega)).trans ?_)) rfl hd_total_2 (Or.inr ⟨2, rfl, dL_total_11, rfl⟩) (Nat.le_of_ble_eq_true rfl) (Nat.add_zero _) (Nat.add_zero _) (ev) ?_
  refine ev_ldc2 (v := lZ (-1000003)) dL_total_12 (am_in 773 (by decide +kernel) rfl) ?_
  exact ev_lreturnE dL_total_15 rfl (by rfl)
theorem hl_totalAnewR {x0 : Int32} {b : Int64} (g2 : h 2 = .inr (9, fs)) (ev : Ev d MX9_totalAnew 0 (lv_args 0 [.ref 2, .int x0]) [] n h (.inl (some (.long b)), n1, h1, c, e)) : Ev (d + 1) ML_totalAnew 0 (lv_args 0 [.ref 2, .int x0]) [] n h (.inl (some (.long b)), n1, h1, c, e) := by
  first | refine ev_aload_n dL_totalAnew_0 rfl ?_ | refine ev_aload_nN dL_totalAnew_0 rfl ?_
  refine ev_iload_n dL_totalAnew_1 rfl ?_
  refine ev_V1K dL_totalAnew_2 st_RL_67 na_X9_totalAnew (Nat.le_of_ble_eq_true rfl) (Nat.le_of_ble_eq_true rfl) (by repeat (first | assumption | exact up_s | refine (up_n (by omega)).trans ?_)) rfl (Nat.add_zero _) (Nat.add_zero _) (ev) ?_
  exact ev_lreturnE dL_totalAnew_5 rfl (by rfl)
theorem hl_totalAnewE1 {x0 : Int32} (g2 : h 2 = .inr (9, fs)) (ev : Ev d MX9_totalAnew 0 (lv_args 0 [.ref 2, .int x0]) [] n h (.inr IOE, n1, h1, c, e)) : Ev (d + 1) ML_totalAnew 0 (lv_args 0 [.ref 2, .int x0]) [] n h (.inl (some (.long (lZ (-1000001)))), n1, h1, c, e) := by
  first | refine ev_aload_n dL_totalAnew_0 rfl ?_ | refine ev_aload_nN dL_totalAnew_0 rfl ?_
  refine ev_iload_n dL_totalAnew_1 rfl ?_
  refine ev_callVc (as := [_]) dL_totalAnew_2 st_RL_67 na_X9_totalAnew (Nat.le_of_ble_eq_true rfl) (Nat.le_of_ble_eq_true rfl) (by repeat (first | assumption | exact up_s | refine (up_n (by omega)).trans ?_)) rfl hd_totalAnew_1 (Or.inr ⟨2, rfl, dL_totalAnew_6, rfl⟩) (Nat.le_of_ble_eq_true rfl) (Nat.add_zero _) (Nat.add_zero _) (ev) ?_
  refine ev_ldc2 (v := lZ (-1000001)) dL_totalAnew_7 (am_in 772 (by decide +kernel) rfl) ?_
  exact ev_lreturnE dL_totalAnew_10 rfl (by rfl)
theorem hl_totalAnewE2 {x0 : Int32} (g2 : h 2 = .inr (9, fs)) (ev : Ev d MX9_totalAnew 0 (lv_args 0 [.ref 2, .int x0]) [] n h (.inr ISE, n1, h1, c, e)) : Ev (d + 1) ML_totalAnew 0 (lv_args 0 [.ref 2, .int x0]) [] n h (.inl (some (.long (lZ (-1000003)))), n1, h1, c, e) := by
  first | refine ev_aload_n dL_totalAnew_0 rfl ?_ | refine ev_aload_nN dL_totalAnew_0 rfl ?_
  refine ev_iload_n dL_totalAnew_1 rfl ?_
  refine ev_callVc (as := [_]) dL_totalAnew_2 st_RL_67 na_X9_totalAnew (Nat.le_of_ble_eq_true rfl) (Nat.le_of_ble_eq_true rfl) (by repeat (first | assumption | exact up_s | refine (up_n (by omega)).trans ?_)) rfl hd_totalAnew_2 (Or.inr ⟨2, rfl, dL_totalAnew_11, rfl⟩) (Nat.le_of_ble_eq_true rfl) (Nat.add_zero _) (Nat.add_zero _) (ev) ?_
  refine ev_ldc2 (v := lZ (-1000003)) dL_totalAnew_12 (am_in 773 (by decide +kernel) rfl) ?_
  exact ev_lreturnE dL_totalAnew_15 rfl (by rfl)
end LH
