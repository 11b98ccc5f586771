/-! the law: a call's case -/
section LC1
variable {L n th i K1 Q1 : Nat} {xs : Nat → Int32} {h : Hp}
theorem lw_weight (hL : L ≤ 2048) (hi : i + 4 ≤ L) (g : LI L xs n h th) (K : CO L xs i K1 Q1) : ∃ n' h' k q, Ev 60 ML_law 327 [(0, .ref 0), (1, .ref 2), (2, .ref 31), (3, .ref 44), (4, .int (nI i))] [] n h (.inl (some (.int 1)), n', h', k, q) ∧ k ≤ K1 + 5 ∧ q ≤ Q1 + 23 := by
  have h0 := LI_0 g
  obtain ⟨kk, n1, h1, c, e, f, v, z, h2, hk, ev1, hc, he, x0, ⟨F, x31⟩, ev2, li, x44, hV, hv⟩ := js_weight g (xs (i + 1)) (xs (i + 2))
  obtain ⟨n', h', k, q, ev3, hk3, hq3⟩ := K n1 h2 kk li
  obtain ⟨made, t, l, w, S, W, f9, hn, gs, ⟨⟨F9, y31⟩, ma⟩, y0, -⟩ := li
  refine ⟨n', h', c + k, e + q, ?_, by omega, by omega⟩
  obtain ⟨b, rfl, hz⟩ := hV
  by_cases zk : kk = 0
  · subst zk
    have hv := hv rfl
    rw [hz] at hv
    first | refine ev_aload_n dL_law_327 rfl ?_ | refine ev_aload_nN dL_law_327 rfl ?_
    first | refine ev_aload_n dL_law_328 rfl ?_ | refine ev_aload_nN dL_law_328 rfl ?_
    refine ev_iload dL_law_329 rfl ?_
    refine ev_iconst dL_law_331 ci1 ?_
    first | refine ev_iaddN dL_law_332 ?_ | refine ev_iadd dL_law_332 ?_
    refine ev_iald dL_law_333 (by repeat (first | assumption | exact up_s | refine (up_n (by omega)).trans ?_)) _ rfl (by omega) (by omega) ?_
    first | refine ev_aload_n dL_law_334 rfl ?_ | refine ev_aload_nN dL_law_334 rfl ?_
    refine ev_iload dL_law_335 rfl ?_
    refine ev_iconst dL_law_337 ci2 ?_
    first | refine ev_iaddN dL_law_338 ?_ | refine ev_iadd dL_law_338 ?_
    refine ev_iald dL_law_339 (by repeat (first | assumption | exact up_s | refine (up_n (by omega)).trans ?_)) _ rfl (by omega) (by omega) ?_
    first | refine ev_aload_n dL_law_340 rfl ?_ | refine ev_aload_nN dL_law_340 rfl ?_
    refine ev_callT (as := [_, _, _, _]) dL_law_341 st_RL_93 na_L_weight (Nat.le_of_ble_eq_true rfl) (Nat.le_of_ble_eq_true rfl) rfl rfl (ev1) ?_
    refine ev_istore dL_law_344 (Nat.le_of_ble_eq_true rfl) ?_
    first | refine ev_aload_n dL_law_346 rfl ?_ | refine ev_aload_nN dL_law_346 rfl ?_
    first | refine ev_aload_n dL_law_347 rfl ?_ | refine ev_aload_nN dL_law_347 rfl ?_
    refine ev_iload dL_law_348 rfl ?_
    refine ev_iconst dL_law_350 ci1 ?_
    first | refine ev_iaddN dL_law_351 ?_ | refine ev_iadd dL_law_351 ?_
    refine ev_iald dL_law_352 (by repeat (first | assumption | exact up_s | refine (up_n (by omega)).trans ?_)) _ rfl (by omega) (by omega) ?_
    first | refine ev_aload_n dL_law_353 rfl ?_ | refine ev_aload_nN dL_law_353 rfl ?_
    refine ev_iload dL_law_354 rfl ?_
    refine ev_iconst dL_law_356 ci2 ?_
    first | refine ev_iaddN dL_law_357 ?_ | refine ev_iadd dL_law_357 ?_
    refine ev_iald dL_law_358 (by repeat (first | assumption | exact up_s | refine (up_n (by omega)).trans ?_)) _ rfl (by omega) (by omega) ?_
    refine ev_V2 dL_law_359 st_RL_95 na_X10_weight (Nat.le_of_ble_eq_true rfl) (Nat.le_of_ble_eq_true rfl) (by repeat (first | assumption | exact up_s | refine (up_n (by omega)).trans ?_)) rfl (ev2) ?_
    refine ev_istore dL_law_362 (Nat.le_of_ble_eq_true rfl) ?_
    first | refine ev_aload_n dL_law_364 rfl ?_ | refine ev_aload_nN dL_law_364 rfl ?_
    refine ev_V0 dL_law_365 st_RL_70 na_X10_thrown (Nat.le_of_ble_eq_true rfl) (Nat.le_of_ble_eq_true rfl) (by repeat (first | assumption | exact up_s | refine (up_n (by omega)).trans ?_)) rfl (mm_thrown y31) ?_
    refine ev_iload dL_law_368 rfl ?_
    refine ev_icmp_eqT (tgt := 375) dL_law_370 (by decide) (by first | assumption | exact n_eq (by omega) | decide) ?_
    refine ev_iload dL_law_375 rfl ?_
    refine ev_if_neF dL_law_377 392 (by decide) (by first | assumption | exact z_eq (by omega) | decide) ?_
    first | refine ev_aload_n dL_law_380 rfl ?_ | refine ev_aload_nN dL_law_380 rfl ?_
    refine ev_iconst dL_law_381 ci0 ?_
    refine ev_lald dL_law_382 (by repeat (first | assumption | exact up_s | refine (up_n (by omega)).trans ?_)) _ rfl (by omega) (by omega) ?_
    refine ev_iload dL_law_383 rfl ?_
    refine ev_i2l dL_law_385 rfl ?_
    refine ev_lcmp dL_law_386 ?_
    refine ev_if_eqT (tgt := 392) dL_law_387 (by decide) (by rw [hv]; exact lg_cmp_s _) ?_
    refine ev_goto (tgt := 1049) dL_law_392 (by decide) ?_
    refine ev_sub ?_ (ev3)
    repeat (first | exact trivial | refine ⟨rfl, ?_⟩)
  · first | refine ev_aload_n dL_law_327 rfl ?_ | refine ev_aload_nN dL_law_327 rfl ?_
    first | refine ev_aload_n dL_law_328 rfl ?_ | refine ev_aload_nN dL_law_328 rfl ?_
    refine ev_iload dL_law_329 rfl ?_
    refine ev_iconst dL_law_331 ci1 ?_
    first | refine ev_iaddN dL_law_332 ?_ | refine ev_iadd dL_law_332 ?_
    refine ev_iald dL_law_333 (by repeat (first | assumption | exact up_s | refine (up_n (by omega)).trans ?_)) _ rfl (by omega) (by omega) ?_
    first | refine ev_aload_n dL_law_334 rfl ?_ | refine ev_aload_nN dL_law_334 rfl ?_
    refine ev_iload dL_law_335 rfl ?_
    refine ev_iconst dL_law_337 ci2 ?_
    first | refine ev_iaddN dL_law_338 ?_ | refine ev_iadd dL_law_338 ?_
    refine ev_iald dL_law_339 (by repeat (first | assumption | exact up_s | refine (up_n (by omega)).trans ?_)) _ rfl (by omega) (by omega) ?_
    first | refine ev_aload_n dL_law_340 rfl ?_ | refine ev_aload_nN dL_law_340 rfl ?_
    refine ev_callT (as := [_, _, _, _]) dL_law_341 st_RL_93 na_L_weight (Nat.le_of_ble_eq_true rfl) (Nat.le_of_ble_eq_true rfl) rfl rfl (ev1) ?_
    refine ev_istore dL_law_344 (Nat.le_of_ble_eq_true rfl) ?_
    first | refine ev_aload_n dL_law_346 rfl ?_ | refine ev_aload_nN dL_law_346 rfl ?_
    first | refine ev_aload_n dL_law_347 rfl ?_ | refine ev_aload_nN dL_law_347 rfl ?_
    refine ev_iload dL_law_348 rfl ?_
    refine ev_iconst dL_law_350 ci1 ?_
    first | refine ev_iaddN dL_law_351 ?_ | refine ev_iadd dL_law_351 ?_
    refine ev_iald dL_law_352 (by repeat (first | assumption | exact up_s | refine (up_n (by omega)).trans ?_)) _ rfl (by omega) (by omega) ?_
    first | refine ev_aload_n dL_law_353 rfl ?_ | refine ev_aload_nN dL_law_353 rfl ?_
    refine ev_iload dL_law_354 rfl ?_
    refine ev_iconst dL_law_356 ci2 ?_
    first | refine ev_iaddN dL_law_357 ?_ | refine ev_iadd dL_law_357 ?_
    refine ev_iald dL_law_358 (by repeat (first | assumption | exact up_s | refine (up_n (by omega)).trans ?_)) _ rfl (by omega) (by omega) ?_
    refine ev_V2 dL_law_359 st_RL_95 na_X10_weight (Nat.le_of_ble_eq_true rfl) (Nat.le_of_ble_eq_true rfl) (by repeat (first | assumption | exact up_s | refine (up_n (by omega)).trans ?_)) rfl (ev2) ?_
    refine ev_istore dL_law_362 (Nat.le_of_ble_eq_true rfl) ?_
    first | refine ev_aload_n dL_law_364 rfl ?_ | refine ev_aload_nN dL_law_364 rfl ?_
    refine ev_V0 dL_law_365 st_RL_70 na_X10_thrown (Nat.le_of_ble_eq_true rfl) (Nat.le_of_ble_eq_true rfl) (by repeat (first | assumption | exact up_s | refine (up_n (by omega)).trans ?_)) rfl (mm_thrown y31) ?_
    refine ev_iload dL_law_368 rfl ?_
    refine ev_icmp_eqT (tgt := 375) dL_law_370 (by decide) (by first | assumption | exact n_eq (by omega) | decide) ?_
    refine ev_iload dL_law_375 rfl ?_
    refine ev_if_neT (tgt := 392) dL_law_377 (by decide) (by first | assumption | exact nI_ne0 (by omega) (by omega) | decide) ?_
    refine ev_goto (tgt := 1049) dL_law_392 (by decide) ?_
    refine ev_sub ?_ (ev3)
    repeat (first | exact trivial | refine ⟨rfl, ?_⟩)
theorem lw_pairs (hL : L ≤ 2048) (hi : i + 4 ≤ L) (g : LI L xs n h th) (K : CO L xs i K1 Q1) : ∃ n' h' k q, Ev 60 ML_law 395 [(0, .ref 0), (1, .ref 2), (2, .ref 31), (3, .ref 44), (4, .int (nI i))] [] n h (.inl (some (.int 1)), n', h', k, q) ∧ k ≤ K1 + 5 ∧ q ≤ Q1 + 23 := by
  have h0 := LI_0 g
  have g9 := g
  obtain ⟨h1, v, h2, ⟨F9, x2⟩, ev1, ⟨F, x31⟩, ev2, li⟩ := js_pairs g
  obtain ⟨n', h', k, q, ev3, hk3, hq3⟩ := K n h2 0 li
  refine ⟨n', h', k, q, ?_, by omega, by omega⟩
  first | refine ev_aload_n dL_law_395 rfl ?_ | refine ev_aload_nN dL_law_395 rfl ?_
  refine ev_V0 dL_law_396 st_RL_96 na_X9_pairs (Nat.le_of_ble_eq_true rfl) (Nat.le_of_ble_eq_true rfl) (by repeat (first | assumption | exact up_s | refine (up_n (by omega)).trans ?_)) rfl (ev1) ?_
  first | refine ev_aload_n dL_law_399 rfl ?_ | refine ev_aload_nN dL_law_399 rfl ?_
  refine ev_V0 dL_law_400 st_RL_99 na_X10_pairs (Nat.le_of_ble_eq_true rfl) (Nat.le_of_ble_eq_true rfl) (by repeat (first | assumption | exact up_s | refine (up_n (by omega)).trans ?_)) rfl (ev2) ?_
  refine ev_icmp_eqT (tgt := 1049) dL_law_403 (by decide) rfl ?_
  refine ev_sub ?_ (ev3)
  repeat (first | exact trivial | refine ⟨rfl, ?_⟩)
theorem lw_word (hL : L ≤ 2048) (hi : i + 4 ≤ L) (g : LI L xs n h th) (K : CO L xs i K1 Q1) : ∃ n' h' k q, Ev 60 ML_law 408 [(0, .ref 0), (1, .ref 2), (2, .ref 31), (3, .ref 44), (4, .int (nI i))] [] n h (.inl (some (.int 1)), n', h', k, q) ∧ k ≤ K1 + 5 ∧ q ≤ Q1 + 23 := by
  have h0 := LI_0 g
  obtain ⟨kk, n1, h1, c, e, f, v, z, h2, hk, ev1, hc, he, x0, ⟨F, x31⟩, ev2, li, x44, hV, hv⟩ := js_word g (xs (i + 1)) (xs (i + 2)) (xs (i + 3))
  obtain ⟨n', h', k, q, ev3, hk3, hq3⟩ := K n1 h2 kk li
  obtain ⟨made, t, l, w, S, W, f9, hn, gs, ⟨⟨F9, y31⟩, ma⟩, y0, -⟩ := li
  refine ⟨n', h', c + k, e + q, ?_, by omega, by omega⟩
  obtain ⟨b, rfl, hz⟩ := hV
  by_cases zk : kk = 0
  · subst zk
    have hv := hv rfl
    rw [hz] at hv
    first | refine ev_aload_n dL_law_408 rfl ?_ | refine ev_aload_nN dL_law_408 rfl ?_
    first | refine ev_aload_n dL_law_409 rfl ?_ | refine ev_aload_nN dL_law_409 rfl ?_
    refine ev_iload dL_law_410 rfl ?_
    refine ev_iconst dL_law_412 ci1 ?_
    first | refine ev_iaddN dL_law_413 ?_ | refine ev_iadd dL_law_413 ?_
    refine ev_iald dL_law_414 (by repeat (first | assumption | exact up_s | refine (up_n (by omega)).trans ?_)) _ rfl (by omega) (by omega) ?_
    first | refine ev_aload_n dL_law_415 rfl ?_ | refine ev_aload_nN dL_law_415 rfl ?_
    refine ev_iload dL_law_416 rfl ?_
    refine ev_iconst dL_law_418 ci2 ?_
    first | refine ev_iaddN dL_law_419 ?_ | refine ev_iadd dL_law_419 ?_
    refine ev_iald dL_law_420 (by repeat (first | assumption | exact up_s | refine (up_n (by omega)).trans ?_)) _ rfl (by omega) (by omega) ?_
    first | refine ev_aload_n dL_law_421 rfl ?_ | refine ev_aload_nN dL_law_421 rfl ?_
    refine ev_iload dL_law_422 rfl ?_
    refine ev_iconst dL_law_424 ci3 ?_
    first | refine ev_iaddN dL_law_425 ?_ | refine ev_iadd dL_law_425 ?_
    refine ev_iald dL_law_426 (by repeat (first | assumption | exact up_s | refine (up_n (by omega)).trans ?_)) _ rfl (by omega) (by omega) ?_
    first | refine ev_aload_n dL_law_427 rfl ?_ | refine ev_aload_nN dL_law_427 rfl ?_
    refine ev_callT (as := [_, _, _, _, _]) dL_law_428 st_RL_100 na_L_word (Nat.le_of_ble_eq_true rfl) (Nat.le_of_ble_eq_true rfl) rfl rfl (ev1) ?_
    refine ev_istore dL_law_431 (Nat.le_of_ble_eq_true rfl) ?_
    first | refine ev_aload_n dL_law_433 rfl ?_ | refine ev_aload_nN dL_law_433 rfl ?_
    first | refine ev_aload_n dL_law_434 rfl ?_ | refine ev_aload_nN dL_law_434 rfl ?_
    refine ev_iload dL_law_435 rfl ?_
    refine ev_iconst dL_law_437 ci1 ?_
    first | refine ev_iaddN dL_law_438 ?_ | refine ev_iadd dL_law_438 ?_
    refine ev_iald dL_law_439 (by repeat (first | assumption | exact up_s | refine (up_n (by omega)).trans ?_)) _ rfl (by omega) (by omega) ?_
    first | refine ev_aload_n dL_law_440 rfl ?_ | refine ev_aload_nN dL_law_440 rfl ?_
    refine ev_iload dL_law_441 rfl ?_
    refine ev_iconst dL_law_443 ci2 ?_
    first | refine ev_iaddN dL_law_444 ?_ | refine ev_iadd dL_law_444 ?_
    refine ev_iald dL_law_445 (by repeat (first | assumption | exact up_s | refine (up_n (by omega)).trans ?_)) _ rfl (by omega) (by omega) ?_
    first | refine ev_aload_n dL_law_446 rfl ?_ | refine ev_aload_nN dL_law_446 rfl ?_
    refine ev_iload dL_law_447 rfl ?_
    refine ev_iconst dL_law_449 ci3 ?_
    first | refine ev_iaddN dL_law_450 ?_ | refine ev_iadd dL_law_450 ?_
    refine ev_iald dL_law_451 (by repeat (first | assumption | exact up_s | refine (up_n (by omega)).trans ?_)) _ rfl (by omega) (by omega) ?_
    refine ev_V3 dL_law_452 st_RL_103 na_X10_word (Nat.le_of_ble_eq_true rfl) (Nat.le_of_ble_eq_true rfl) (by repeat (first | assumption | exact up_s | refine (up_n (by omega)).trans ?_)) rfl (ev2) ?_
    refine ev_istore dL_law_455 (Nat.le_of_ble_eq_true rfl) ?_
    first | refine ev_aload_n dL_law_457 rfl ?_ | refine ev_aload_nN dL_law_457 rfl ?_
    refine ev_V0 dL_law_458 st_RL_70 na_X10_thrown (Nat.le_of_ble_eq_true rfl) (Nat.le_of_ble_eq_true rfl) (by repeat (first | assumption | exact up_s | refine (up_n (by omega)).trans ?_)) rfl (mm_thrown y31) ?_
    refine ev_iload dL_law_461 rfl ?_
    refine ev_icmp_eqT (tgt := 468) dL_law_463 (by decide) (by first | assumption | exact n_eq (by omega) | decide) ?_
    refine ev_iload dL_law_468 rfl ?_
    refine ev_if_neF dL_law_470 485 (by decide) (by first | assumption | exact z_eq (by omega) | decide) ?_
    first | refine ev_aload_n dL_law_473 rfl ?_ | refine ev_aload_nN dL_law_473 rfl ?_
    refine ev_iconst dL_law_474 ci0 ?_
    refine ev_lald dL_law_475 (by repeat (first | assumption | exact up_s | refine (up_n (by omega)).trans ?_)) _ rfl (by omega) (by omega) ?_
    refine ev_iload dL_law_476 rfl ?_
    refine ev_i2l dL_law_478 rfl ?_
    refine ev_lcmp dL_law_479 ?_
    refine ev_if_eqT (tgt := 485) dL_law_480 (by decide) (by rw [hv]; exact lg_cmp_s _) ?_
    refine ev_goto (tgt := 1049) dL_law_485 (by decide) ?_
    refine ev_sub ?_ (ev3)
    repeat (first | exact trivial | refine ⟨rfl, ?_⟩)
  · first | refine ev_aload_n dL_law_408 rfl ?_ | refine ev_aload_nN dL_law_408 rfl ?_
    first | refine ev_aload_n dL_law_409 rfl ?_ | refine ev_aload_nN dL_law_409 rfl ?_
    refine ev_iload dL_law_410 rfl ?_
    refine ev_iconst dL_law_412 ci1 ?_
    first | refine ev_iaddN dL_law_413 ?_ | refine ev_iadd dL_law_413 ?_
    refine ev_iald dL_law_414 (by repeat (first | assumption | exact up_s | refine (up_n (by omega)).trans ?_)) _ rfl (by omega) (by omega) ?_
    first | refine ev_aload_n dL_law_415 rfl ?_ | refine ev_aload_nN dL_law_415 rfl ?_
    refine ev_iload dL_law_416 rfl ?_
    refine ev_iconst dL_law_418 ci2 ?_
    first | refine ev_iaddN dL_law_419 ?_ | refine ev_iadd dL_law_419 ?_
    refine ev_iald dL_law_420 (by repeat (first | assumption | exact up_s | refine (up_n (by omega)).trans ?_)) _ rfl (by omega) (by omega) ?_
    first | refine ev_aload_n dL_law_421 rfl ?_ | refine ev_aload_nN dL_law_421 rfl ?_
    refine ev_iload dL_law_422 rfl ?_
    refine ev_iconst dL_law_424 ci3 ?_
    first | refine ev_iaddN dL_law_425 ?_ | refine ev_iadd dL_law_425 ?_
    refine ev_iald dL_law_426 (by repeat (first | assumption | exact up_s | refine (up_n (by omega)).trans ?_)) _ rfl (by omega) (by omega) ?_
    first | refine ev_aload_n dL_law_427 rfl ?_ | refine ev_aload_nN dL_law_427 rfl ?_
    refine ev_callT (as := [_, _, _, _, _]) dL_law_428 st_RL_100 na_L_word (Nat.le_of_ble_eq_true rfl) (Nat.le_of_ble_eq_true rfl) rfl rfl (ev1) ?_
    refine ev_istore dL_law_431 (Nat.le_of_ble_eq_true rfl) ?_
    first | refine ev_aload_n dL_law_433 rfl ?_ | refine ev_aload_nN dL_law_433 rfl ?_
    first | refine ev_aload_n dL_law_434 rfl ?_ | refine ev_aload_nN dL_law_434 rfl ?_
    refine ev_iload dL_law_435 rfl ?_
    refine ev_iconst dL_law_437 ci1 ?_
    first | refine ev_iaddN dL_law_438 ?_ | refine ev_iadd dL_law_438 ?_
    refine ev_iald dL_law_439 (by repeat (first | assumption | exact up_s | refine (up_n (by omega)).trans ?_)) _ rfl (by omega) (by omega) ?_
    first | refine ev_aload_n dL_law_440 rfl ?_ | refine ev_aload_nN dL_law_440 rfl ?_
    refine ev_iload dL_law_441 rfl ?_
    refine ev_iconst dL_law_443 ci2 ?_
    first | refine ev_iaddN dL_law_444 ?_ | refine ev_iadd dL_law_444 ?_
    refine ev_iald dL_law_445 (by repeat (first | assumption | exact up_s | refine (up_n (by omega)).trans ?_)) _ rfl (by omega) (by omega) ?_
    first | refine ev_aload_n dL_law_446 rfl ?_ | refine ev_aload_nN dL_law_446 rfl ?_
    refine ev_iload dL_law_447 rfl ?_
    refine ev_iconst dL_law_449 ci3 ?_
    first | refine ev_iaddN dL_law_450 ?_ | refine ev_iadd dL_law_450 ?_
    refine ev_iald dL_law_451 (by repeat (first | assumption | exact up_s | refine (up_n (by omega)).trans ?_)) _ rfl (by omega) (by omega) ?_
    refine ev_V3 dL_law_452 st_RL_103 na_X10_word (Nat.le_of_ble_eq_true rfl) (Nat.le_of_ble_eq_true rfl) (by repeat (first | assumption | exact up_s | refine (up_n (by omega)).trans ?_)) rfl (ev2) ?_
    refine ev_istore dL_law_455 (Nat.le_of_ble_eq_true rfl) ?_
    first | refine ev_aload_n dL_law_457 rfl ?_ | refine ev_aload_nN dL_law_457 rfl ?_
    refine ev_V0 dL_law_458 st_RL_70 na_X10_thrown (Nat.le_of_ble_eq_true rfl) (Nat.le_of_ble_eq_true rfl) (by repeat (first | assumption | exact up_s | refine (up_n (by omega)).trans ?_)) rfl (mm_thrown y31) ?_
    refine ev_iload dL_law_461 rfl ?_
    refine ev_icmp_eqT (tgt := 468) dL_law_463 (by decide) (by first | assumption | exact n_eq (by omega) | decide) ?_
    refine ev_iload dL_law_468 rfl ?_
    refine ev_if_neT (tgt := 485) dL_law_470 (by decide) (by first | assumption | exact nI_ne0 (by omega) (by omega) | decide) ?_
    refine ev_goto (tgt := 1049) dL_law_485 (by decide) ?_
    refine ev_sub ?_ (ev3)
    repeat (first | exact trivial | refine ⟨rfl, ?_⟩)
theorem lw_share (hL : L ≤ 2048) (hi : i + 4 ≤ L) (g : LI L xs n h th) (K : CO L xs i K1 Q1) : ∃ n' h' k q, Ev 60 ML_law 488 [(0, .ref 0), (1, .ref 2), (2, .ref 31), (3, .ref 44), (4, .int (nI i))] [] n h (.inl (some (.int 1)), n', h', k, q) ∧ k ≤ K1 + 5 ∧ q ≤ Q1 + 23 := by
  have h0 := LI_0 g
  obtain ⟨kk, n1, h1, c, e, f, v, z, h2, hk, ev1, hc, he, x0, ⟨F, x31⟩, ev2, li, x44, hV, hv⟩ := js_share g (xs (i + 1)) (xs (i + 2)) (xs (i + 3))
  obtain ⟨n', h', k, q, ev3, hk3, hq3⟩ := K n1 h2 kk li
  obtain ⟨made, t, l, w, S, W, f9, hn, gs, ⟨⟨F9, y31⟩, ma⟩, y0, -⟩ := li
  refine ⟨n', h', c + k, e + q, ?_, by omega, by omega⟩
  obtain ⟨b, rfl, hz⟩ := hV
  by_cases zk : kk = 0
  · subst zk
    have hv := hv rfl
    rw [hz] at hv
    first | refine ev_aload_n dL_law_488 rfl ?_ | refine ev_aload_nN dL_law_488 rfl ?_
    first | refine ev_aload_n dL_law_489 rfl ?_ | refine ev_aload_nN dL_law_489 rfl ?_
    refine ev_iload dL_law_490 rfl ?_
    refine ev_iconst dL_law_492 ci1 ?_
    first | refine ev_iaddN dL_law_493 ?_ | refine ev_iadd dL_law_493 ?_
    refine ev_iald dL_law_494 (by repeat (first | assumption | exact up_s | refine (up_n (by omega)).trans ?_)) _ rfl (by omega) (by omega) ?_
    first | refine ev_aload_n dL_law_495 rfl ?_ | refine ev_aload_nN dL_law_495 rfl ?_
    refine ev_iload dL_law_496 rfl ?_
    refine ev_iconst dL_law_498 ci2 ?_
    first | refine ev_iaddN dL_law_499 ?_ | refine ev_iadd dL_law_499 ?_
    refine ev_iald dL_law_500 (by repeat (first | assumption | exact up_s | refine (up_n (by omega)).trans ?_)) _ rfl (by omega) (by omega) ?_
    first | refine ev_aload_n dL_law_501 rfl ?_ | refine ev_aload_nN dL_law_501 rfl ?_
    refine ev_iload dL_law_502 rfl ?_
    refine ev_iconst dL_law_504 ci3 ?_
    first | refine ev_iaddN dL_law_505 ?_ | refine ev_iadd dL_law_505 ?_
    refine ev_iald dL_law_506 (by repeat (first | assumption | exact up_s | refine (up_n (by omega)).trans ?_)) _ rfl (by omega) (by omega) ?_
    first | refine ev_aload_n dL_law_507 rfl ?_ | refine ev_aload_nN dL_law_507 rfl ?_
    refine ev_callT (as := [_, _, _, _, _]) dL_law_508 st_RL_104 na_L_share (Nat.le_of_ble_eq_true rfl) (Nat.le_of_ble_eq_true rfl) rfl rfl (ev1) ?_
    refine ev_istore dL_law_511 (Nat.le_of_ble_eq_true rfl) ?_
    first | refine ev_aload_n dL_law_513 rfl ?_ | refine ev_aload_nN dL_law_513 rfl ?_
    first | refine ev_aload_n dL_law_514 rfl ?_ | refine ev_aload_nN dL_law_514 rfl ?_
    refine ev_iload dL_law_515 rfl ?_
    refine ev_iconst dL_law_517 ci1 ?_
    first | refine ev_iaddN dL_law_518 ?_ | refine ev_iadd dL_law_518 ?_
    refine ev_iald dL_law_519 (by repeat (first | assumption | exact up_s | refine (up_n (by omega)).trans ?_)) _ rfl (by omega) (by omega) ?_
    first | refine ev_aload_n dL_law_520 rfl ?_ | refine ev_aload_nN dL_law_520 rfl ?_
    refine ev_iload dL_law_521 rfl ?_
    refine ev_iconst dL_law_523 ci2 ?_
    first | refine ev_iaddN dL_law_524 ?_ | refine ev_iadd dL_law_524 ?_
    refine ev_iald dL_law_525 (by repeat (first | assumption | exact up_s | refine (up_n (by omega)).trans ?_)) _ rfl (by omega) (by omega) ?_
    first | refine ev_aload_n dL_law_526 rfl ?_ | refine ev_aload_nN dL_law_526 rfl ?_
    refine ev_iload dL_law_527 rfl ?_
    refine ev_iconst dL_law_529 ci3 ?_
    first | refine ev_iaddN dL_law_530 ?_ | refine ev_iadd dL_law_530 ?_
    refine ev_iald dL_law_531 (by repeat (first | assumption | exact up_s | refine (up_n (by omega)).trans ?_)) _ rfl (by omega) (by omega) ?_
    refine ev_V3 dL_law_532 st_RL_106 na_X10_share (Nat.le_of_ble_eq_true rfl) (Nat.le_of_ble_eq_true rfl) (by repeat (first | assumption | exact up_s | refine (up_n (by omega)).trans ?_)) rfl (ev2) ?_
    refine ev_istore dL_law_535 (Nat.le_of_ble_eq_true rfl) ?_
    first | refine ev_aload_n dL_law_537 rfl ?_ | refine ev_aload_nN dL_law_537 rfl ?_
    refine ev_V0 dL_law_538 st_RL_70 na_X10_thrown (Nat.le_of_ble_eq_true rfl) (Nat.le_of_ble_eq_true rfl) (by repeat (first | assumption | exact up_s | refine (up_n (by omega)).trans ?_)) rfl (mm_thrown y31) ?_
    refine ev_iload dL_law_541 rfl ?_
    refine ev_icmp_eqT (tgt := 548) dL_law_543 (by decide) (by first | assumption | exact n_eq (by omega) | decide) ?_
    refine ev_iload dL_law_548 rfl ?_
    refine ev_if_neF dL_law_550 565 (by decide) (by first | assumption | exact z_eq (by omega) | decide) ?_
    first | refine ev_aload_n dL_law_553 rfl ?_ | refine ev_aload_nN dL_law_553 rfl ?_
    refine ev_iconst dL_law_554 ci0 ?_
    refine ev_lald dL_law_555 (by repeat (first | assumption | exact up_s | refine (up_n (by omega)).trans ?_)) _ rfl (by omega) (by omega) ?_
    refine ev_iload dL_law_556 rfl ?_
    refine ev_i2l dL_law_558 rfl ?_
    refine ev_lcmp dL_law_559 ?_
    refine ev_if_eqT (tgt := 565) dL_law_560 (by decide) (by rw [hv]; exact lg_cmp_s _) ?_
    refine ev_goto (tgt := 1049) dL_law_565 (by decide) ?_
    refine ev_sub ?_ (ev3)
    repeat (first | exact trivial | refine ⟨rfl, ?_⟩)
  · first | refine ev_aload_n dL_law_488 rfl ?_ | refine ev_aload_nN dL_law_488 rfl ?_
    first | refine ev_aload_n dL_law_489 rfl ?_ | refine ev_aload_nN dL_law_489 rfl ?_
    refine ev_iload dL_law_490 rfl ?_
    refine ev_iconst dL_law_492 ci1 ?_
    first | refine ev_iaddN dL_law_493 ?_ | refine ev_iadd dL_law_493 ?_
    refine ev_iald dL_law_494 (by repeat (first | assumption | exact up_s | refine (up_n (by omega)).trans ?_)) _ rfl (by omega) (by omega) ?_
    first | refine ev_aload_n dL_law_495 rfl ?_ | refine ev_aload_nN dL_law_495 rfl ?_
    refine ev_iload dL_law_496 rfl ?_
    refine ev_iconst dL_law_498 ci2 ?_
    first | refine ev_iaddN dL_law_499 ?_ | refine ev_iadd dL_law_499 ?_
    refine ev_iald dL_law_500 (by repeat (first | assumption | exact up_s | refine (up_n (by omega)).trans ?_)) _ rfl (by omega) (by omega) ?_
    first | refine ev_aload_n dL_law_501 rfl ?_ | refine ev_aload_nN dL_law_501 rfl ?_
    refine ev_iload dL_law_502 rfl ?_
    refine ev_iconst dL_law_504 ci3 ?_
    first | refine ev_iaddN dL_law_505 ?_ | refine ev_iadd dL_law_505 ?_
    refine ev_iald dL_law_506 (by repeat (first | assumption | exact up_s | refine (up_n (by omega)).trans ?_)) _ rfl (by omega) (by omega) ?_
    first | refine ev_aload_n dL_law_507 rfl ?_ | refine ev_aload_nN dL_law_507 rfl ?_
    refine ev_callT (as := [_, _, _, _, _]) dL_law_508 st_RL_104 na_L_share (Nat.le_of_ble_eq_true rfl) (Nat.le_of_ble_eq_true rfl) rfl rfl (ev1) ?_
    refine ev_istore dL_law_511 (Nat.le_of_ble_eq_true rfl) ?_
    first | refine ev_aload_n dL_law_513 rfl ?_ | refine ev_aload_nN dL_law_513 rfl ?_
    first | refine ev_aload_n dL_law_514 rfl ?_ | refine ev_aload_nN dL_law_514 rfl ?_
    refine ev_iload dL_law_515 rfl ?_
    refine ev_iconst dL_law_517 ci1 ?_
    first | refine ev_iaddN dL_law_518 ?_ | refine ev_iadd dL_law_518 ?_
    refine ev_iald dL_law_519 (by repeat (first | assumption | exact up_s | refine (up_n (by omega)).trans ?_)) _ rfl (by omega) (by omega) ?_
    first | refine ev_aload_n dL_law_520 rfl ?_ | refine ev_aload_nN dL_law_520 rfl ?_
    refine ev_iload dL_law_521 rfl ?_
    refine ev_iconst dL_law_523 ci2 ?_
    first | refine ev_iaddN dL_law_524 ?_ | refine ev_iadd dL_law_524 ?_
    refine ev_iald dL_law_525 (by repeat (first | assumption | exact up_s | refine (up_n (by omega)).trans ?_)) _ rfl (by omega) (by omega) ?_
    first | refine ev_aload_n dL_law_526 rfl ?_ | refine ev_aload_nN dL_law_526 rfl ?_
    refine ev_iload dL_law_527 rfl ?_
    refine ev_iconst dL_law_529 ci3 ?_
    first | refine ev_iaddN dL_law_530 ?_ | refine ev_iadd dL_law_530 ?_
    refine ev_iald dL_law_531 (by repeat (first | assumption | exact up_s | refine (up_n (by omega)).trans ?_)) _ rfl (by omega) (by omega) ?_
    refine ev_V3 dL_law_532 st_RL_106 na_X10_share (Nat.le_of_ble_eq_true rfl) (Nat.le_of_ble_eq_true rfl) (by repeat (first | assumption | exact up_s | refine (up_n (by omega)).trans ?_)) rfl (ev2) ?_
    refine ev_istore dL_law_535 (Nat.le_of_ble_eq_true rfl) ?_
    first | refine ev_aload_n dL_law_537 rfl ?_ | refine ev_aload_nN dL_law_537 rfl ?_
    refine ev_V0 dL_law_538 st_RL_70 na_X10_thrown (Nat.le_of_ble_eq_true rfl) (Nat.le_of_ble_eq_true rfl) (by repeat (first | assumption | exact up_s | refine (up_n (by omega)).trans ?_)) rfl (mm_thrown y31) ?_
    refine ev_iload dL_law_541 rfl ?_
    refine ev_icmp_eqT (tgt := 548) dL_law_543 (by decide) (by first | assumption | exact n_eq (by omega) | decide) ?_
    refine ev_iload dL_law_548 rfl ?_
    refine ev_if_neT (tgt := 565) dL_law_550 (by decide) (by first | assumption | exact nI_ne0 (by omega) (by omega) | decide) ?_
    refine ev_goto (tgt := 1049) dL_law_565 (by decide) ?_
    refine ev_sub ?_ (ev3)
    repeat (first | exact trivial | refine ⟨rfl, ?_⟩)
theorem lw_link (hL : L ≤ 2048) (hi : i + 4 ≤ L) (g : LI L xs n h th) (K : CO L xs i K1 Q1) : ∃ n' h' k q, Ev 60 ML_law 568 [(0, .ref 0), (1, .ref 2), (2, .ref 31), (3, .ref 44), (4, .int (nI i))] [] n h (.inl (some (.int 1)), n', h', k, q) ∧ k ≤ K1 + 5 ∧ q ≤ Q1 + 23 := by
  have h0 := LI_0 g
  obtain ⟨kk, n1, h1, c, e, f, v, z, h2, hk, ev1, hc, he, x0, ⟨F, x31⟩, ev2, li, x44, hV, hv⟩ := js_link g (xs (i + 1)) (xs (i + 2)) (xs (i + 3))
  obtain ⟨n', h', k, q, ev3, hk3, hq3⟩ := K n1 h2 kk li
  obtain ⟨made, t, l, w, S, W, f9, hn, gs, ⟨⟨F9, y31⟩, ma⟩, y0, -⟩ := li
  refine ⟨n', h', c + k, e + q, ?_, by omega, by omega⟩
  obtain ⟨b, rfl, hz⟩ := hV
  by_cases zk : kk = 0
  · subst zk
    have hv := hv rfl
    rw [hz] at hv
    first | refine ev_aload_n dL_law_568 rfl ?_ | refine ev_aload_nN dL_law_568 rfl ?_
    first | refine ev_aload_n dL_law_569 rfl ?_ | refine ev_aload_nN dL_law_569 rfl ?_
    refine ev_iload dL_law_570 rfl ?_
    refine ev_iconst dL_law_572 ci1 ?_
    first | refine ev_iaddN dL_law_573 ?_ | refine ev_iadd dL_law_573 ?_
    refine ev_iald dL_law_574 (by repeat (first | assumption | exact up_s | refine (up_n (by omega)).trans ?_)) _ rfl (by omega) (by omega) ?_
    first | refine ev_aload_n dL_law_575 rfl ?_ | refine ev_aload_nN dL_law_575 rfl ?_
    refine ev_iload dL_law_576 rfl ?_
    refine ev_iconst dL_law_578 ci2 ?_
    first | refine ev_iaddN dL_law_579 ?_ | refine ev_iadd dL_law_579 ?_
    refine ev_iald dL_law_580 (by repeat (first | assumption | exact up_s | refine (up_n (by omega)).trans ?_)) _ rfl (by omega) (by omega) ?_
    first | refine ev_aload_n dL_law_581 rfl ?_ | refine ev_aload_nN dL_law_581 rfl ?_
    refine ev_iload dL_law_582 rfl ?_
    refine ev_iconst dL_law_584 ci3 ?_
    first | refine ev_iaddN dL_law_585 ?_ | refine ev_iadd dL_law_585 ?_
    refine ev_iald dL_law_586 (by repeat (first | assumption | exact up_s | refine (up_n (by omega)).trans ?_)) _ rfl (by omega) (by omega) ?_
    first | refine ev_aload_n dL_law_587 rfl ?_ | refine ev_aload_nN dL_law_587 rfl ?_
    refine ev_callT (as := [_, _, _, _, _]) dL_law_588 st_RL_107 na_L_link (Nat.le_of_ble_eq_true rfl) (Nat.le_of_ble_eq_true rfl) rfl rfl (ev1) ?_
    refine ev_istore dL_law_591 (Nat.le_of_ble_eq_true rfl) ?_
    first | refine ev_aload_n dL_law_593 rfl ?_ | refine ev_aload_nN dL_law_593 rfl ?_
    first | refine ev_aload_n dL_law_594 rfl ?_ | refine ev_aload_nN dL_law_594 rfl ?_
    refine ev_iload dL_law_595 rfl ?_
    refine ev_iconst dL_law_597 ci1 ?_
    first | refine ev_iaddN dL_law_598 ?_ | refine ev_iadd dL_law_598 ?_
    refine ev_iald dL_law_599 (by repeat (first | assumption | exact up_s | refine (up_n (by omega)).trans ?_)) _ rfl (by omega) (by omega) ?_
    first | refine ev_aload_n dL_law_600 rfl ?_ | refine ev_aload_nN dL_law_600 rfl ?_
    refine ev_iload dL_law_601 rfl ?_
    refine ev_iconst dL_law_603 ci2 ?_
    first | refine ev_iaddN dL_law_604 ?_ | refine ev_iadd dL_law_604 ?_
    refine ev_iald dL_law_605 (by repeat (first | assumption | exact up_s | refine (up_n (by omega)).trans ?_)) _ rfl (by omega) (by omega) ?_
    first | refine ev_aload_n dL_law_606 rfl ?_ | refine ev_aload_nN dL_law_606 rfl ?_
    refine ev_iload dL_law_607 rfl ?_
    refine ev_iconst dL_law_609 ci3 ?_
    first | refine ev_iaddN dL_law_610 ?_ | refine ev_iadd dL_law_610 ?_
    refine ev_iald dL_law_611 (by repeat (first | assumption | exact up_s | refine (up_n (by omega)).trans ?_)) _ rfl (by omega) (by omega) ?_
    refine ev_V3 dL_law_612 st_RL_109 na_X10_link (Nat.le_of_ble_eq_true rfl) (Nat.le_of_ble_eq_true rfl) (by repeat (first | assumption | exact up_s | refine (up_n (by omega)).trans ?_)) rfl (ev2) ?_
    refine ev_istore dL_law_615 (Nat.le_of_ble_eq_true rfl) ?_
    first | refine ev_aload_n dL_law_617 rfl ?_ | refine ev_aload_nN dL_law_617 rfl ?_
    refine ev_V0 dL_law_618 st_RL_70 na_X10_thrown (Nat.le_of_ble_eq_true rfl) (Nat.le_of_ble_eq_true rfl) (by repeat (first | assumption | exact up_s | refine (up_n (by omega)).trans ?_)) rfl (mm_thrown y31) ?_
    refine ev_iload dL_law_621 rfl ?_
    refine ev_icmp_eqT (tgt := 628) dL_law_623 (by decide) (by first | assumption | exact n_eq (by omega) | decide) ?_
    refine ev_iload dL_law_628 rfl ?_
    refine ev_if_neF dL_law_630 645 (by decide) (by first | assumption | exact z_eq (by omega) | decide) ?_
    first | refine ev_aload_n dL_law_633 rfl ?_ | refine ev_aload_nN dL_law_633 rfl ?_
    refine ev_iconst dL_law_634 ci0 ?_
    refine ev_lald dL_law_635 (by repeat (first | assumption | exact up_s | refine (up_n (by omega)).trans ?_)) _ rfl (by omega) (by omega) ?_
    refine ev_iload dL_law_636 rfl ?_
    refine ev_i2l dL_law_638 rfl ?_
    refine ev_lcmp dL_law_639 ?_
    refine ev_if_eqT (tgt := 645) dL_law_640 (by decide) (by rw [hv]; exact lg_cmp_s _) ?_
    refine ev_goto (tgt := 1049) dL_law_645 (by decide) ?_
    refine ev_sub ?_ (ev3)
    repeat (first | exact trivial | refine ⟨rfl, ?_⟩)
  · first | refine ev_aload_n dL_law_568 rfl ?_ | refine ev_aload_nN dL_law_568 rfl ?_
    first | refine ev_aload_n dL_law_569 rfl ?_ | refine ev_aload_nN dL_law_569 rfl ?_
    refine ev_iload dL_law_570 rfl ?_
    refine ev_iconst dL_law_572 ci1 ?_
    first | refine ev_iaddN dL_law_573 ?_ | refine ev_iadd dL_law_573 ?_
    refine ev_iald dL_law_574 (by repeat (first | assumption | exact up_s | refine (up_n (by omega)).trans ?_)) _ rfl (by omega) (by omega) ?_
    first | refine ev_aload_n dL_law_575 rfl ?_ | refine ev_aload_nN dL_law_575 rfl ?_
    refine ev_iload dL_law_576 rfl ?_
    refine ev_iconst dL_law_578 ci2 ?_
    first | refine ev_iaddN dL_law_579 ?_ | refine ev_iadd dL_law_579 ?_
    refine ev_iald dL_law_580 (by repeat (first | assumption | exact up_s | refine (up_n (by omega)).trans ?_)) _ rfl (by omega) (by omega) ?_
    first | refine ev_aload_n dL_law_581 rfl ?_ | refine ev_aload_nN dL_law_581 rfl ?_
    refine ev_iload dL_law_582 rfl ?_
    refine ev_iconst dL_law_584 ci3 ?_
    first | refine ev_iaddN dL_law_585 ?_ | refine ev_iadd dL_law_585 ?_
    refine ev_iald dL_law_586 (by repeat (first | assumption | exact up_s | refine (up_n (by omega)).trans ?_)) _ rfl (by omega) (by omega) ?_
    first | refine ev_aload_n dL_law_587 rfl ?_ | refine ev_aload_nN dL_law_587 rfl ?_
    refine ev_callT (as := [_, _, _, _, _]) dL_law_588 st_RL_107 na_L_link (Nat.le_of_ble_eq_true rfl) (Nat.le_of_ble_eq_true rfl) rfl rfl (ev1) ?_
    refine ev_istore dL_law_591 (Nat.le_of_ble_eq_true rfl) ?_
    first | refine ev_aload_n dL_law_593 rfl ?_ | refine ev_aload_nN dL_law_593 rfl ?_
    first | refine ev_aload_n dL_law_594 rfl ?_ | refine ev_aload_nN dL_law_594 rfl ?_
    refine ev_iload dL_law_595 rfl ?_
    refine ev_iconst dL_law_597 ci1 ?_
    first | refine ev_iaddN dL_law_598 ?_ | refine ev_iadd dL_law_598 ?_
    refine ev_iald dL_law_599 (by repeat (first | assumption | exact up_s | refine (up_n (by omega)).trans ?_)) _ rfl (by omega) (by omega) ?_
    first | refine ev_aload_n dL_law_600 rfl ?_ | refine ev_aload_nN dL_law_600 rfl ?_
    refine ev_iload dL_law_601 rfl ?_
    refine ev_iconst dL_law_603 ci2 ?_
    first | refine ev_iaddN dL_law_604 ?_ | refine ev_iadd dL_law_604 ?_
    refine ev_iald dL_law_605 (by repeat (first | assumption | exact up_s | refine (up_n (by omega)).trans ?_)) _ rfl (by omega) (by omega) ?_
    first | refine ev_aload_n dL_law_606 rfl ?_ | refine ev_aload_nN dL_law_606 rfl ?_
    refine ev_iload dL_law_607 rfl ?_
    refine ev_iconst dL_law_609 ci3 ?_
    first | refine ev_iaddN dL_law_610 ?_ | refine ev_iadd dL_law_610 ?_
    refine ev_iald dL_law_611 (by repeat (first | assumption | exact up_s | refine (up_n (by omega)).trans ?_)) _ rfl (by omega) (by omega) ?_
    refine ev_V3 dL_law_612 st_RL_109 na_X10_link (Nat.le_of_ble_eq_true rfl) (Nat.le_of_ble_eq_true rfl) (by repeat (first | assumption | exact up_s | refine (up_n (by omega)).trans ?_)) rfl (ev2) ?_
    refine ev_istore dL_law_615 (Nat.le_of_ble_eq_true rfl) ?_
    first | refine ev_aload_n dL_law_617 rfl ?_ | refine ev_aload_nN dL_law_617 rfl ?_
    refine ev_V0 dL_law_618 st_RL_70 na_X10_thrown (Nat.le_of_ble_eq_true rfl) (Nat.le_of_ble_eq_true rfl) (by repeat (first | assumption | exact up_s | refine (up_n (by omega)).trans ?_)) rfl (mm_thrown y31) ?_
    refine ev_iload dL_law_621 rfl ?_
    refine ev_icmp_eqT (tgt := 628) dL_law_623 (by decide) (by first | assumption | exact n_eq (by omega) | decide) ?_
    refine ev_iload dL_law_628 rfl ?_
    refine ev_if_neT (tgt := 645) dL_law_630 (by decide) (by first | assumption | exact nI_ne0 (by omega) (by omega) | decide) ?_
    refine ev_goto (tgt := 1049) dL_law_645 (by decide) ?_
    refine ev_sub ?_ (ev3)
    repeat (first | exact trivial | refine ⟨rfl, ?_⟩)
end LC1
