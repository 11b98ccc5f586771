/-! the law: its loop, its start -/
theorem and31 (x : Int32) : ∃ j, j < 32 ∧ x &&& nI 31 = nI j := by
  have e : x = nI x.toBitVec.toNat := by
    apply Int32.toBitVec_inj.1
    show x.toBitVec = BitVec.ofNat 32 x.toBitVec.toNat
    simp
  refine ⟨x.toBitVec.toNat &&& 31, ?_, ?_⟩
  · have := Nat.and_le_right (n := x.toBitVec.toNat) (m := 31)
    omega
  · rw [← n_and, ← e]
theorem gt4 {L i : Nat} (h : L < i + 4) (hi : i ≤ 2052) : nI L - nI 4 < nI i := by
  rcases Nat.lt_or_ge L 4 with q | q
  · have e : nI L - nI 4 < 0 := by
      rcases (show L = 0 ∨ L = 1 ∨ L = 2 ∨ L = 3 by omega) with rfl | rfl | rfl | rfl <;> decide +kernel
    exact Int32.lt_of_lt_of_le e (nI_pos' (by omega))
  · rw [nI_sub q]
    exact nI_lt (by omega) (by omega)
section LZ
variable {L n th i K1 Q1 : Nat} {xs : Nat → Int32} {h : Hp}
theorem lw_hd (hL : L ≤ 2048) (hi : i + 4 ≤ L) (h0 : h 0 = .inl (0, L, .inl xs)) {j : Nat} (e : xs i &&& nI 31 = nI j) {o : Out} (K : Ev 60 ML_law 39 [(0, .ref 0), (1, .ref 2), (2, .ref 31), (3, .ref 44), (4, .int (nI i))] [.int (nI j)] n h o) : Ev 60 ML_law 23 [(0, .ref 0), (1, .ref 2), (2, .ref 31), (3, .ref 44), (4, .int (nI i))] [] n h o := by
  refine ev_iload dL_law_23 rfl ?_
  first | refine ev_aload_n dL_law_25 rfl ?_ | refine ev_aload_nN dL_law_25 rfl ?_
  refine ev_alen dL_law_26 (by repeat (first | assumption | exact up_s | refine (up_n (by omega)).trans ?_)) (by decide) ?_
  refine ev_iconst dL_law_27 ci4 ?_
  first | refine ev_isubN dL_law_28 (by omega) ?_ | refine ev_isub dL_law_28 ?_
  refine ev_icmp_gtF dL_law_29 1055 (by decide) (by first | assumption | exact nI_nlt (by omega) (by omega) | decide) ?_
  first | refine ev_aload_n dL_law_32 rfl ?_ | refine ev_aload_nN dL_law_32 rfl ?_
  refine ev_iload dL_law_33 rfl ?_
  refine ev_iald dL_law_35 (by repeat (first | assumption | exact up_s | refine (up_n (by omega)).trans ?_)) _ rfl (by omega) (by omega) ?_
  refine ev_bipush dL_law_36 bp31 ?_
  refine ev_iand dL_law_38 ?_
  refine ev_top (congrArg Value.int e) ?_
  refine ev_sub ?_ (K)
  repeat (first | exact trivial | refine ⟨rfl, ?_⟩)
theorem lw_loop (hL : L ≤ 2048) : ∀ m i n h th, L < i + 4 * m + 4 → i ≤ 2052 → LI L xs n h th → ∃ n' h' k q, Ev 60 ML_law 23 [(0, .ref 0), (1, .ref 2), (2, .ref 31), (3, .ref 44), (4, .int (nI i))] [] n h (.inl (some (.int 1)), n', h', k, q) ∧ k ≤ 5 * m ∧ q ≤ 23 * m := by
  intro m
  induction m with
  | zero =>
    intro i n h th hm hi g
    have h0 := LI_0 g
    refine ⟨n, h, 0, 0, ?_, by omega, by omega⟩
    refine ev_iload dL_law_23 rfl ?_
    first | refine ev_aload_n dL_law_25 rfl ?_ | refine ev_aload_nN dL_law_25 rfl ?_
    refine ev_alen dL_law_26 (by repeat (first | assumption | exact up_s | refine (up_n (by omega)).trans ?_)) (by decide) ?_
    refine ev_iconst dL_law_27 ci4 ?_
    first | refine ev_isubN dL_law_28 (by omega) ?_ | refine ev_isub dL_law_28 ?_
    refine ev_icmp_gtT (tgt := 1055) dL_law_29 (by decide) (gt4 (by omega) hi) ?_
    refine ev_iconst dL_law_1055 ci1 ?_
    exact ev_zreturnE dL_law_1056 rfl (by first | exact Or.inl rfl | exact Or.inr rfl | assumption | exact z01 (bI_01 _) | exact z01 (by omega)) (by rfl)
  | succ m ih =>
    intro i n h th hm hi g
    have h0 := LI_0 g
    rcases Nat.lt_or_ge L (i + 4) with c | c
    · refine ⟨n, h, 0, 0, ?_, by omega, by omega⟩
      refine ev_iload dL_law_23 rfl ?_
      first | refine ev_aload_n dL_law_25 rfl ?_ | refine ev_aload_nN dL_law_25 rfl ?_
      refine ev_alen dL_law_26 (by repeat (first | assumption | exact up_s | refine (up_n (by omega)).trans ?_)) (by decide) ?_
      refine ev_iconst dL_law_27 ci4 ?_
      first | refine ev_isubN dL_law_28 (by omega) ?_ | refine ev_isub dL_law_28 ?_
      refine ev_icmp_gtT (tgt := 1055) dL_law_29 (by decide) (gt4 c hi) ?_
      refine ev_iconst dL_law_1055 ci1 ?_
      exact ev_zreturnE dL_law_1056 rfl (by first | exact Or.inl rfl | exact Or.inr rfl | assumption | exact z01 (bI_01 _) | exact z01 (by omega)) (by rfl)
    · have K : CO L xs i (5 * m) (23 * m) := fun n h th g => by
        obtain ⟨n', h', k, q, ev, hk, hq⟩ := ih (i + 4) n h th (by omega) (by omega) g
        refine ⟨n', h', k, q, ?_, hk, hq⟩
        refine ev_iincN (b := 4) dL_law_1049 rfl (Nat.le_of_ble_eq_true rfl) ?_
        refine ev_goto (tgt := 23) dL_law_1052 (by decide) ?_
        refine ev_sub ?_ (ev)
        repeat (first | exact trivial | refine ⟨rfl, ?_⟩)
      obtain ⟨j, hj, e⟩ := and31 (xs i)
      rcases (show j = 0 ∨ j = 1 ∨ j = 2 ∨ j = 3 ∨ j = 4 ∨ j = 5 ∨ j = 6 ∨ j = 7 ∨ j = 8 ∨ j = 9 ∨ j = 10 ∨ j = 11 ∨ j = 12 ∨ j = 13 ∨ j = 14 ∨ j = 15 ∨ j = 16 ∨ 17 ≤ j by omega) with rfl | rfl | rfl | rfl | rfl | rfl | rfl | rfl | rfl | rfl | rfl | rfl | rfl | rfl | rfl | rfl | rfl | hj2
      · obtain ⟨n', h', k, q, ev, hk, hq⟩ := lw_put hL c g K
        exact ⟨n', h', k, q, lw_hd hL c h0 e (ev_tableIn dL_law_39 (by decide +kernel) (by decide +kernel) (off := 81) (by decide +kernel) (tgt := 120) (by decide) ev), by omega, by omega⟩
      · obtain ⟨n', h', k, q, ev, hk, hq⟩ := lw_wipe hL c g K
        exact ⟨n', h', k, q, lw_hd hL c h0 e (ev_tableIn dL_law_39 (by decide +kernel) (by decide +kernel) (off := 149) (by decide +kernel) (tgt := 188) (by decide) ev), by omega, by omega⟩
      · obtain ⟨n', h', k, q, ev, hk, hq⟩ := lw_pair hL c g K
        exact ⟨n', h', k, q, lw_hd hL c h0 e (ev_tableIn dL_law_39 (by decide +kernel) (by decide +kernel) (off := 162) (by decide +kernel) (tgt := 201) (by decide) ev), by omega, by omega⟩
      · obtain ⟨n', h', k, q, ev, hk, hq⟩ := lw_takeBack hL c g K
        exact ⟨n', h', k, q, lw_hd hL c h0 e (ev_tableIn dL_law_39 (by decide +kernel) (by decide +kernel) (off := 206) (by decide +kernel) (tgt := 245) (by decide) ev), by omega, by omega⟩
      · obtain ⟨n', h', k, q, ev, hk, hq⟩ := lw_begin hL c g K
        exact ⟨n', h', k, q, lw_hd hL c h0 e (ev_tableIn dL_law_39 (by decide +kernel) (by decide +kernel) (off := 262) (by decide +kernel) (tgt := 301) (by decide) ev), by omega, by omega⟩
      · obtain ⟨n', h', k, q, ev, hk, hq⟩ := lw_round hL c g K
        exact ⟨n', h', k, q, lw_hd hL c h0 e (ev_tableIn dL_law_39 (by decide +kernel) (by decide +kernel) (off := 275) (by decide +kernel) (tgt := 314) (by decide) ev), by omega, by omega⟩
      · obtain ⟨n', h', k, q, ev, hk, hq⟩ := lw_weight hL c g K
        exact ⟨n', h', k, q, lw_hd hL c h0 e (ev_tableIn dL_law_39 (by decide +kernel) (by decide +kernel) (off := 288) (by decide +kernel) (tgt := 327) (by decide) ev), by omega, by omega⟩
      · obtain ⟨n', h', k, q, ev, hk, hq⟩ := lw_pairs hL c g K
        exact ⟨n', h', k, q, lw_hd hL c h0 e (ev_tableIn dL_law_39 (by decide +kernel) (by decide +kernel) (off := 356) (by decide +kernel) (tgt := 395) (by decide) ev), by omega, by omega⟩
      · obtain ⟨n', h', k, q, ev, hk, hq⟩ := lw_word hL c g K
        exact ⟨n', h', k, q, lw_hd hL c h0 e (ev_tableIn dL_law_39 (by decide +kernel) (by decide +kernel) (off := 369) (by decide +kernel) (tgt := 408) (by decide) ev), by omega, by omega⟩
      · obtain ⟨n', h', k, q, ev, hk, hq⟩ := lw_share hL c g K
        exact ⟨n', h', k, q, lw_hd hL c h0 e (ev_tableIn dL_law_39 (by decide +kernel) (by decide +kernel) (off := 449) (by decide +kernel) (tgt := 488) (by decide) ev), by omega, by omega⟩
      · obtain ⟨n', h', k, q, ev, hk, hq⟩ := lw_link hL c g K
        exact ⟨n', h', k, q, lw_hd hL c h0 e (ev_tableIn dL_law_39 (by decide +kernel) (by decide +kernel) (off := 529) (by decide +kernel) (tgt := 568) (by decide) ev), by omega, by omega⟩
      · obtain ⟨n', h', k, q, ev, hk, hq⟩ := lw_isJoined hL c g K
        exact ⟨n', h', k, q, lw_hd hL c h0 e (ev_tableIn dL_law_39 (by decide +kernel) (by decide +kernel) (off := 609) (by decide +kernel) (tgt := 648) (by decide) ev), by omega, by omega⟩
      · obtain ⟨n', h', k, q, ev, hk, hq⟩ := lw_phrases hL c g K
        exact ⟨n', h', k, q, lw_hd hL c h0 e (ev_tableIn dL_law_39 (by decide +kernel) (by decide +kernel) (off := 696) (by decide +kernel) (tgt := 735) (by decide) ev), by omega, by omega⟩
      · obtain ⟨n', h', k, q, ev, hk, hq⟩ := lw_phrase hL c g K
        exact ⟨n', h', k, q, lw_hd hL c h0 e (ev_tableIn dL_law_39 (by decide +kernel) (by decide +kernel) (off := 752) (by decide +kernel) (tgt := 791) (by decide) ev), by omega, by omega⟩
      · obtain ⟨n', h', k, q, ev, hk, hq⟩ := lw_fertility hL c g K
        exact ⟨n', h', k, q, lw_hd hL c h0 e (ev_tableIn dL_law_39 (by decide +kernel) (by decide +kernel) (off := 832) (by decide +kernel) (tgt := 871) (by decide) ev), by omega, by omega⟩
      · obtain ⟨n', h', k, q, ev, hk, hq⟩ := lw_total hL c g K
        exact ⟨n', h', k, q, lw_hd hL c h0 e (ev_tableIn dL_law_39 (by decide +kernel) (by decide +kernel) (off := 900) (by decide +kernel) (tgt := 939) (by decide) ev), by omega, by omega⟩
      · obtain ⟨n', h', k, q, ev, hk, hq⟩ := lw_totalAnew hL c g K
        exact ⟨n', h', k, q, lw_hd hL c h0 e (ev_tableIn dL_law_39 (by decide +kernel) (by decide +kernel) (off := 955) (by decide +kernel) (tgt := 994) (by decide) ev), by omega, by omega⟩
      · obtain ⟨n', h', k, q, ev, hk, hq⟩ := K n h th g
        exact ⟨n', h', k, q, lw_hd hL c h0 e (ev_tableOut dL_law_39 (Or.inr (by rw [nI_toInt (by omega)]; omega)) (tgt := 1049) (by decide) ev), by omega, by omega⟩
end LZ
theorem law_ev2 (L : Nat) (xs : Nat → Int32) (hL : L ≤ 2048) {h0 : Hp} (hh : h0 0 = .inl (0, L, .inl xs)) : ∃ (n' : Nat) (h' : Hp) (k q : Nat), Ev 60 ML_law 0 [(0, .ref 0)] [] 2 h0 (.inl (some (.int 1)), n', h', k, q) ∧ k ≤ 601024 ∧ q ≤ 7293033 := by
  obtain ⟨h1, ev1, g1, o1⟩ := m9_init (d := 57) (h := va_up h0 2 (.inr (9, [.null, .null, .null, .null, .null, .null]))) up_s
  obtain ⟨h2, ev2, g2, o2⟩ := mm_init (d := 59) (h := va_up h1 31 (.inr (10, [.null, .null, .int 0, .null, .null, .null, .null, .null, .null, .null, .null, .null, .null, .int 0, .int 0, .int 0, .int 0, .int 0]))) up_s
  have li : LI L xs 45 (va_up h2 44 (.inl (1, 1, .inr (.inl (fun _ => 0))))) 0 := ⟨0, _, _, _, _, _, fun _ => 0, rfl, GS_cg (fun a q => (up_n (by omega)).trans ((o2 a (by omega)).trans (up_n (by omega)))) g1, MS_cg (fun a q1 q2 => up_n (by omega)) g2, (up_n (by omega)).trans ((o2 0 (by omega)).trans ((up_n (by omega)).trans ((o1 0 (by omega)).trans ((up_n (by omega)).trans hh)))), up_s⟩
  obtain ⟨n', h', k, q, ev, hk, hq⟩ := lw_loop hL 512 0 45 _ 0 (by omega) (by omega) li
  refine ⟨n', h', 1 + (28 + (1 + (12 + (1 + k)))), 6 + (1159 + (18 + (1521 + (1 + q)))), ?_, by omega, by omega⟩
  refine ev_new dL_law_0 nw_RL_8 ?_
  refine ev_dup dL_law_3 rfl ?_
  refine ev_I0vK dL_law_4 st_RL_60 na_X9_init (Nat.le_of_ble_eq_true rfl) (Nat.le_of_ble_eq_true rfl) rfl rfl (ev1) ?_
  first | refine ev_astore_n dL_law_7 (Nat.le_of_ble_eq_true rfl) ?_ | refine ev_astore_nN dL_law_7 (Nat.le_of_ble_eq_true rfl) ?_
  refine ev_new dL_law_8 nw_RL_61 ?_
  refine ev_dup dL_law_11 rfl ?_
  refine ev_I0vK dL_law_12 st_RL_63 na_X10_init (Nat.le_of_ble_eq_true rfl) (Nat.le_of_ble_eq_true rfl) rfl rfl (ev2) ?_
  first | refine ev_astore_n dL_law_15 (Nat.le_of_ble_eq_true rfl) ?_ | refine ev_astore_nN dL_law_15 (Nat.le_of_ble_eq_true rfl) ?_
  refine ev_iconst dL_law_16 ci1 ?_
  refine ev_newarray1 dL_law_17 (N := 1) rfl (by decide) ?_
  first | refine ev_astore_n dL_law_19 (Nat.le_of_ble_eq_true rfl) ?_ | refine ev_astore_nN dL_law_19 (Nat.le_of_ble_eq_true rfl) ?_
  refine ev_iconst dL_law_20 ci0 ?_
  refine ev_istore dL_law_21 (Nat.le_of_ble_eq_true rfl) ?_
  refine ev_sub ?_ (ev)
  repeat (first | exact trivial | refine ⟨rfl, ?_⟩)
