/-! the law: a call's case -/
section LC2
variable {L n th i K1 Q1 : Nat} {xs : Nat → Int32} {h : Hp}
theorem lw_isJoined (hL : L ≤ 2048) (hi : i + 4 ≤ L) (g : LI L xs n h th) (K : CO L xs i K1 Q1) : ∃ n' h' k q, Ev 60 ML_law 648 [(0, .ref 0), (1, .ref 2), (2, .ref 31), (3, .ref 44), (4, .int (nI i))] [] n h (.inl (some (.int 1)), n', h', k, q) ∧ k ≤ K1 + 5 ∧ q ≤ Q1 + 23 := by
  have h0 := LI_0 g
  obtain ⟨kk, n1, h1, c, e, f, v, z, h2, hk, ev1, hc, he, x0, ⟨F, x31⟩, ev2, li, x44, hV, hv⟩ := js_isJoined g (xs (i + 1)) (xs (i + 2)) (xs (i + 3))
  obtain ⟨n', h', k, q, ev3, hk3, hq3⟩ := K n1 h2 kk li
  obtain ⟨made, t, l, w, S, W, f9, hn, gs, ⟨⟨F9, y31⟩, ma⟩, y0, -⟩ := li
  refine ⟨n', h', c + k, e + q, ?_, by omega, by omega⟩
  obtain ⟨b, rfl, hz⟩ := hV
  by_cases zk : kk = 0
  · subst zk
    have hv := hv rfl
    rw [hz] at hv
    first | refine ev_aload_n dL_law_648 rfl ?_ | refine ev_aload_nN dL_law_648 rfl ?_
    first | refine ev_aload_n dL_law_649 rfl ?_ | refine ev_aload_nN dL_law_649 rfl ?_
    refine ev_iload dL_law_650 rfl ?_
    refine ev_iconst dL_law_652 ci1 ?_
    first | refine ev_iaddN dL_law_653 ?_ | refine ev_iadd dL_law_653 ?_
    refine ev_iald dL_law_654 (by repeat (first | assumption | exact up_s | refine (up_n (by omega)).trans ?_)) _ rfl (by omega) (by omega) ?_
    first | refine ev_aload_n dL_law_655 rfl ?_ | refine ev_aload_nN dL_law_655 rfl ?_
    refine ev_iload dL_law_656 rfl ?_
    refine ev_iconst dL_law_658 ci2 ?_
    first | refine ev_iaddN dL_law_659 ?_ | refine ev_iadd dL_law_659 ?_
    refine ev_iald dL_law_660 (by repeat (first | assumption | exact up_s | refine (up_n (by omega)).trans ?_)) _ rfl (by omega) (by omega) ?_
    first | refine ev_aload_n dL_law_661 rfl ?_ | refine ev_aload_nN dL_law_661 rfl ?_
    refine ev_iload dL_law_662 rfl ?_
    refine ev_iconst dL_law_664 ci3 ?_
    first | refine ev_iaddN dL_law_665 ?_ | refine ev_iadd dL_law_665 ?_
    refine ev_iald dL_law_666 (by repeat (first | assumption | exact up_s | refine (up_n (by omega)).trans ?_)) _ rfl (by omega) (by omega) ?_
    first | refine ev_aload_n dL_law_667 rfl ?_ | refine ev_aload_nN dL_law_667 rfl ?_
    refine ev_callT (as := [_, _, _, _, _]) dL_law_668 st_RL_110 na_L_isJoined (Nat.le_of_ble_eq_true rfl) (Nat.le_of_ble_eq_true rfl) rfl rfl (ev1) ?_
    refine ev_istore dL_law_671 (Nat.le_of_ble_eq_true rfl) ?_
    first | refine ev_aload_n dL_law_673 rfl ?_ | refine ev_aload_nN dL_law_673 rfl ?_
    first | refine ev_aload_n dL_law_674 rfl ?_ | refine ev_aload_nN dL_law_674 rfl ?_
    refine ev_iload dL_law_675 rfl ?_
    refine ev_iconst dL_law_677 ci1 ?_
    first | refine ev_iaddN dL_law_678 ?_ | refine ev_iadd dL_law_678 ?_
    refine ev_iald dL_law_679 (by repeat (first | assumption | exact up_s | refine (up_n (by omega)).trans ?_)) _ rfl (by omega) (by omega) ?_
    first | refine ev_aload_n dL_law_680 rfl ?_ | refine ev_aload_nN dL_law_680 rfl ?_
    refine ev_iload dL_law_681 rfl ?_
    refine ev_iconst dL_law_683 ci2 ?_
    first | refine ev_iaddN dL_law_684 ?_ | refine ev_iadd dL_law_684 ?_
    refine ev_iald dL_law_685 (by repeat (first | assumption | exact up_s | refine (up_n (by omega)).trans ?_)) _ rfl (by omega) (by omega) ?_
    first | refine ev_aload_n dL_law_686 rfl ?_ | refine ev_aload_nN dL_law_686 rfl ?_
    refine ev_iload dL_law_687 rfl ?_
    refine ev_iconst dL_law_689 ci3 ?_
    first | refine ev_iaddN dL_law_690 ?_ | refine ev_iadd dL_law_690 ?_
    refine ev_iald dL_law_691 (by repeat (first | assumption | exact up_s | refine (up_n (by omega)).trans ?_)) _ rfl (by omega) (by omega) ?_
    refine ev_V3 dL_law_692 st_RL_112 na_X10_isJoined (Nat.le_of_ble_eq_true rfl) (Nat.le_of_ble_eq_true rfl) (by repeat (first | assumption | exact up_s | refine (up_n (by omega)).trans ?_)) rfl (ev2) ?_
    refine ev_istore dL_law_695 (Nat.le_of_ble_eq_true rfl) ?_
    first | refine ev_aload_n dL_law_697 rfl ?_ | refine ev_aload_nN dL_law_697 rfl ?_
    refine ev_V0 dL_law_698 st_RL_70 na_X10_thrown (Nat.le_of_ble_eq_true rfl) (Nat.le_of_ble_eq_true rfl) (by repeat (first | assumption | exact up_s | refine (up_n (by omega)).trans ?_)) rfl (mm_thrown y31) ?_
    refine ev_iload dL_law_701 rfl ?_
    refine ev_icmp_eqT (tgt := 708) dL_law_703 (by decide) (by first | assumption | exact n_eq (by omega) | decide) ?_
    refine ev_iload dL_law_708 rfl ?_
    refine ev_if_neF dL_law_710 732 (by decide) (by first | assumption | exact z_eq (by omega) | decide) ?_
    first | refine ev_aload_n dL_law_713 rfl ?_ | refine ev_aload_nN dL_law_713 rfl ?_
    refine ev_iconst dL_law_714 ci0 ?_
    refine ev_lald dL_law_715 (by repeat (first | assumption | exact up_s | refine (up_n (by omega)).trans ?_)) _ rfl (by omega) (by omega) ?_
    refine ev_iload dL_law_716 rfl ?_
    by_cases zb : b = 0
    · rw [if_pos zb] at hv
      refine ev_if_eqT (tgt := 725) dL_law_718 (by decide) zb ?_
      refine ev_lconst dL_law_725 lc0 ?_
      refine ev_lcmp dL_law_726 ?_
      refine ev_if_eqT (tgt := 732) dL_law_727 (by decide) (by rw [hv]; exact lg_cmp_s _) ?_
      refine ev_goto (tgt := 1049) dL_law_732 (by decide) ?_
      refine ev_sub ?_ (ev3)
      repeat (first | exact trivial | refine ⟨rfl, ?_⟩)
    · rw [if_neg zb] at hv
      refine ev_if_eqF dL_law_718 725 (by decide) zb ?_
      refine ev_lconst dL_law_721 lc1 ?_
      refine ev_goto (tgt := 726) dL_law_722 (by decide) ?_
      refine ev_lcmp dL_law_726 ?_
      refine ev_if_eqT (tgt := 732) dL_law_727 (by decide) (by rw [hv]; exact lg_cmp_s _) ?_
      refine ev_goto (tgt := 1049) dL_law_732 (by decide) ?_
      refine ev_sub ?_ (ev3)
      repeat (first | exact trivial | refine ⟨rfl, ?_⟩)
  · first | refine ev_aload_n dL_law_648 rfl ?_ | refine ev_aload_nN dL_law_648 rfl ?_
    first | refine ev_aload_n dL_law_649 rfl ?_ | refine ev_aload_nN dL_law_649 rfl ?_
    refine ev_iload dL_law_650 rfl ?_
    refine ev_iconst dL_law_652 ci1 ?_
    first | refine ev_iaddN dL_law_653 ?_ | refine ev_iadd dL_law_653 ?_
    refine ev_iald dL_law_654 (by repeat (first | assumption | exact up_s | refine (up_n (by omega)).trans ?_)) _ rfl (by omega) (by omega) ?_
    first | refine ev_aload_n dL_law_655 rfl ?_ | refine ev_aload_nN dL_law_655 rfl ?_
    refine ev_iload dL_law_656 rfl ?_
    refine ev_iconst dL_law_658 ci2 ?_
    first | refine ev_iaddN dL_law_659 ?_ | refine ev_iadd dL_law_659 ?_
    refine ev_iald dL_law_660 (by repeat (first | assumption | exact up_s | refine (up_n (by omega)).trans ?_)) _ rfl (by omega) (by omega) ?_
    first | refine ev_aload_n dL_law_661 rfl ?_ | refine ev_aload_nN dL_law_661 rfl ?_
    refine ev_iload dL_law_662 rfl ?_
    refine ev_iconst dL_law_664 ci3 ?_
    first | refine ev_iaddN dL_law_665 ?_ | refine ev_iadd dL_law_665 ?_
    refine ev_iald dL_law_666 (by repeat (first | assumption | exact up_s | refine (up_n (by omega)).trans ?_)) _ rfl (by omega) (by omega) ?_
    first | refine ev_aload_n dL_law_667 rfl ?_ | refine ev_aload_nN dL_law_667 rfl ?_
    refine ev_callT (as := [_, _, _, _, _]) dL_law_668 st_RL_110 na_L_isJoined (Nat.le_of_ble_eq_true rfl) (Nat.le_of_ble_eq_true rfl) rfl rfl (ev1) ?_
    refine ev_istore dL_law_671 (Nat.le_of_ble_eq_true rfl) ?_
    first | refine ev_aload_n dL_law_673 rfl ?_ | refine ev_aload_nN dL_law_673 rfl ?_
    first | refine ev_aload_n dL_law_674 rfl ?_ | refine ev_aload_nN dL_law_674 rfl ?_
    refine ev_iload dL_law_675 rfl ?_
    refine ev_iconst dL_law_677 ci1 ?_
    first | refine ev_iaddN dL_law_678 ?_ | refine ev_iadd dL_law_678 ?_
    refine ev_iald dL_law_679 (by repeat (first | assumption | exact up_s | refine (up_n (by omega)).trans ?_)) _ rfl (by omega) (by omega) ?_
    first | refine ev_aload_n dL_law_680 rfl ?_ | refine ev_aload_nN dL_law_680 rfl ?_
    refine ev_iload dL_law_681 rfl ?_
    refine ev_iconst dL_law_683 ci2 ?_
    first | refine ev_iaddN dL_law_684 ?_ | refine ev_iadd dL_law_684 ?_
    refine ev_iald dL_law_685 (by repeat (first | assumption | exact up_s | refine (up_n (by omega)).trans ?_)) _ rfl (by omega) (by omega) ?_
    first | refine ev_aload_n dL_law_686 rfl ?_ | refine ev_aload_nN dL_law_686 rfl ?_
    refine ev_iload dL_law_687 rfl ?_
    refine ev_iconst dL_law_689 ci3 ?_
    first | refine ev_iaddN dL_law_690 ?_ | refine ev_iadd dL_law_690 ?_
    refine ev_iald dL_law_691 (by repeat (first | assumption | exact up_s | refine (up_n (by omega)).trans ?_)) _ rfl (by omega) (by omega) ?_
    refine ev_V3 dL_law_692 st_RL_112 na_X10_isJoined (Nat.le_of_ble_eq_true rfl) (Nat.le_of_ble_eq_true rfl) (by repeat (first | assumption | exact up_s | refine (up_n (by omega)).trans ?_)) rfl (ev2) ?_
    refine ev_istore dL_law_695 (Nat.le_of_ble_eq_true rfl) ?_
    first | refine ev_aload_n dL_law_697 rfl ?_ | refine ev_aload_nN dL_law_697 rfl ?_
    refine ev_V0 dL_law_698 st_RL_70 na_X10_thrown (Nat.le_of_ble_eq_true rfl) (Nat.le_of_ble_eq_true rfl) (by repeat (first | assumption | exact up_s | refine (up_n (by omega)).trans ?_)) rfl (mm_thrown y31) ?_
    refine ev_iload dL_law_701 rfl ?_
    refine ev_icmp_eqT (tgt := 708) dL_law_703 (by decide) (by first | assumption | exact n_eq (by omega) | decide) ?_
    refine ev_iload dL_law_708 rfl ?_
    refine ev_if_neT (tgt := 732) dL_law_710 (by decide) (by first | assumption | exact nI_ne0 (by omega) (by omega) | decide) ?_
    refine ev_goto (tgt := 1049) dL_law_732 (by decide) ?_
    refine ev_sub ?_ (ev3)
    repeat (first | exact trivial | refine ⟨rfl, ?_⟩)
theorem lw_phrases (hL : L ≤ 2048) (hi : i + 4 ≤ L) (g : LI L xs n h th) (K : CO L xs i K1 Q1) : ∃ n' h' k q, Ev 60 ML_law 735 [(0, .ref 0), (1, .ref 2), (2, .ref 31), (3, .ref 44), (4, .int (nI i))] [] n h (.inl (some (.int 1)), n', h', k, q) ∧ k ≤ K1 + 5 ∧ q ≤ Q1 + 23 := by
  have h0 := LI_0 g
  obtain ⟨kk, n1, h1, c, e, f, v, z, h2, hk, ev1, hc, he, x0, ⟨F, x31⟩, ev2, li, x44, hV, hv⟩ := js_phrases g (xs (i + 1))
  obtain ⟨n', h', k, q, ev3, hk3, hq3⟩ := K n1 h2 kk li
  obtain ⟨made, t, l, w, S, W, f9, hn, gs, ⟨⟨F9, y31⟩, ma⟩, y0, -⟩ := li
  refine ⟨n', h', c + k, e + q, ?_, by omega, by omega⟩
  obtain ⟨b, rfl, hz⟩ := hV
  by_cases zk : kk = 0
  · subst zk
    have hv := hv rfl
    rw [hz] at hv
    first | refine ev_aload_n dL_law_735 rfl ?_ | refine ev_aload_nN dL_law_735 rfl ?_
    first | refine ev_aload_n dL_law_736 rfl ?_ | refine ev_aload_nN dL_law_736 rfl ?_
    refine ev_iload dL_law_737 rfl ?_
    refine ev_iconst dL_law_739 ci1 ?_
    first | refine ev_iaddN dL_law_740 ?_ | refine ev_iadd dL_law_740 ?_
    refine ev_iald dL_law_741 (by repeat (first | assumption | exact up_s | refine (up_n (by omega)).trans ?_)) _ rfl (by omega) (by omega) ?_
    first | refine ev_aload_n dL_law_742 rfl ?_ | refine ev_aload_nN dL_law_742 rfl ?_
    refine ev_callT (as := [_, _, _]) dL_law_743 st_RL_113 na_L_phrases (Nat.le_of_ble_eq_true rfl) (Nat.le_of_ble_eq_true rfl) rfl rfl (ev1) ?_
    refine ev_istore dL_law_746 (Nat.le_of_ble_eq_true rfl) ?_
    first | refine ev_aload_n dL_law_748 rfl ?_ | refine ev_aload_nN dL_law_748 rfl ?_
    first | refine ev_aload_n dL_law_749 rfl ?_ | refine ev_aload_nN dL_law_749 rfl ?_
    refine ev_iload dL_law_750 rfl ?_
    refine ev_iconst dL_law_752 ci1 ?_
    first | refine ev_iaddN dL_law_753 ?_ | refine ev_iadd dL_law_753 ?_
    refine ev_iald dL_law_754 (by repeat (first | assumption | exact up_s | refine (up_n (by omega)).trans ?_)) _ rfl (by omega) (by omega) ?_
    refine ev_V1 dL_law_755 st_RL_115 na_X10_phrases (Nat.le_of_ble_eq_true rfl) (Nat.le_of_ble_eq_true rfl) (by repeat (first | assumption | exact up_s | refine (up_n (by omega)).trans ?_)) rfl (ev2) ?_
    refine ev_istore dL_law_758 (Nat.le_of_ble_eq_true rfl) ?_
    first | refine ev_aload_n dL_law_760 rfl ?_ | refine ev_aload_nN dL_law_760 rfl ?_
    refine ev_V0 dL_law_761 st_RL_70 na_X10_thrown (Nat.le_of_ble_eq_true rfl) (Nat.le_of_ble_eq_true rfl) (by repeat (first | assumption | exact up_s | refine (up_n (by omega)).trans ?_)) rfl (mm_thrown y31) ?_
    refine ev_iload dL_law_764 rfl ?_
    refine ev_icmp_eqT (tgt := 771) dL_law_766 (by decide) (by first | assumption | exact n_eq (by omega) | decide) ?_
    refine ev_iload dL_law_771 rfl ?_
    refine ev_if_neF dL_law_773 788 (by decide) (by first | assumption | exact z_eq (by omega) | decide) ?_
    first | refine ev_aload_n dL_law_776 rfl ?_ | refine ev_aload_nN dL_law_776 rfl ?_
    refine ev_iconst dL_law_777 ci0 ?_
    refine ev_lald dL_law_778 (by repeat (first | assumption | exact up_s | refine (up_n (by omega)).trans ?_)) _ rfl (by omega) (by omega) ?_
    refine ev_iload dL_law_779 rfl ?_
    refine ev_i2l dL_law_781 rfl ?_
    refine ev_lcmp dL_law_782 ?_
    refine ev_if_eqT (tgt := 788) dL_law_783 (by decide) (by rw [hv]; exact lg_cmp_s _) ?_
    refine ev_goto (tgt := 1049) dL_law_788 (by decide) ?_
    refine ev_sub ?_ (ev3)
    repeat (first | exact trivial | refine ⟨rfl, ?_⟩)
  · first | refine ev_aload_n dL_law_735 rfl ?_ | refine ev_aload_nN dL_law_735 rfl ?_
    first | refine ev_aload_n dL_law_736 rfl ?_ | refine ev_aload_nN dL_law_736 rfl ?_
    refine ev_iload dL_law_737 rfl ?_
    refine ev_iconst dL_law_739 ci1 ?_
    first | refine ev_iaddN dL_law_740 ?_ | refine ev_iadd dL_law_740 ?_
    refine ev_iald dL_law_741 (by repeat (first | assumption | exact up_s | refine (up_n (by omega)).trans ?_)) _ rfl (by omega) (by omega) ?_
    first | refine ev_aload_n dL_law_742 rfl ?_ | refine ev_aload_nN dL_law_742 rfl ?_
    refine ev_callT (as := [_, _, _]) dL_law_743 st_RL_113 na_L_phrases (Nat.le_of_ble_eq_true rfl) (Nat.le_of_ble_eq_true rfl) rfl rfl (ev1) ?_
    refine ev_istore dL_law_746 (Nat.le_of_ble_eq_true rfl) ?_
    first | refine ev_aload_n dL_law_748 rfl ?_ | refine ev_aload_nN dL_law_748 rfl ?_
    first | refine ev_aload_n dL_law_749 rfl ?_ | refine ev_aload_nN dL_law_749 rfl ?_
    refine ev_iload dL_law_750 rfl ?_
    refine ev_iconst dL_law_752 ci1 ?_
    first | refine ev_iaddN dL_law_753 ?_ | refine ev_iadd dL_law_753 ?_
    refine ev_iald dL_law_754 (by repeat (first | assumption | exact up_s | refine (up_n (by omega)).trans ?_)) _ rfl (by omega) (by omega) ?_
    refine ev_V1 dL_law_755 st_RL_115 na_X10_phrases (Nat.le_of_ble_eq_true rfl) (Nat.le_of_ble_eq_true rfl) (by repeat (first | assumption | exact up_s | refine (up_n (by omega)).trans ?_)) rfl (ev2) ?_
    refine ev_istore dL_law_758 (Nat.le_of_ble_eq_true rfl) ?_
    first | refine ev_aload_n dL_law_760 rfl ?_ | refine ev_aload_nN dL_law_760 rfl ?_
    refine ev_V0 dL_law_761 st_RL_70 na_X10_thrown (Nat.le_of_ble_eq_true rfl) (Nat.le_of_ble_eq_true rfl) (by repeat (first | assumption | exact up_s | refine (up_n (by omega)).trans ?_)) rfl (mm_thrown y31) ?_
    refine ev_iload dL_law_764 rfl ?_
    refine ev_icmp_eqT (tgt := 771) dL_law_766 (by decide) (by first | assumption | exact n_eq (by omega) | decide) ?_
    refine ev_iload dL_law_771 rfl ?_
    refine ev_if_neT (tgt := 788) dL_law_773 (by decide) (by first | assumption | exact nI_ne0 (by omega) (by omega) | decide) ?_
    refine ev_goto (tgt := 1049) dL_law_788 (by decide) ?_
    refine ev_sub ?_ (ev3)
    repeat (first | exact trivial | refine ⟨rfl, ?_⟩)
theorem lw_phrase (hL : L ≤ 2048) (hi : i + 4 ≤ L) (g : LI L xs n h th) (K : CO L xs i K1 Q1) : ∃ n' h' k q, Ev 60 ML_law 791 [(0, .ref 0), (1, .ref 2), (2, .ref 31), (3, .ref 44), (4, .int (nI i))] [] n h (.inl (some (.int 1)), n', h', k, q) ∧ k ≤ K1 + 5 ∧ q ≤ Q1 + 23 := by
  have h0 := LI_0 g
  obtain ⟨kk, n1, h1, c, e, f, v, z, h2, hk, ev1, hc, he, x0, ⟨F, x31⟩, ev2, li, x44, hV, hv⟩ := js_phrase g (xs (i + 1)) (xs (i + 2)) (xs (i + 3))
  obtain ⟨n', h', k, q, ev3, hk3, hq3⟩ := K n1 h2 kk li
  obtain ⟨made, t, l, w, S, W, f9, hn, gs, ⟨⟨F9, y31⟩, ma⟩, y0, -⟩ := li
  refine ⟨n', h', c + k, e + q, ?_, by omega, by omega⟩
  obtain ⟨b, rfl, hz⟩ := hV
  by_cases zk : kk = 0
  · subst zk
    have hv := hv rfl
    rw [hz] at hv
    first | refine ev_aload_n dL_law_791 rfl ?_ | refine ev_aload_nN dL_law_791 rfl ?_
    first | refine ev_aload_n dL_law_792 rfl ?_ | refine ev_aload_nN dL_law_792 rfl ?_
    refine ev_iload dL_law_793 rfl ?_
    refine ev_iconst dL_law_795 ci1 ?_
    first | refine ev_iaddN dL_law_796 ?_ | refine ev_iadd dL_law_796 ?_
    refine ev_iald dL_law_797 (by repeat (first | assumption | exact up_s | refine (up_n (by omega)).trans ?_)) _ rfl (by omega) (by omega) ?_
    first | refine ev_aload_n dL_law_798 rfl ?_ | refine ev_aload_nN dL_law_798 rfl ?_
    refine ev_iload dL_law_799 rfl ?_
    refine ev_iconst dL_law_801 ci2 ?_
    first | refine ev_iaddN dL_law_802 ?_ | refine ev_iadd dL_law_802 ?_
    refine ev_iald dL_law_803 (by repeat (first | assumption | exact up_s | refine (up_n (by omega)).trans ?_)) _ rfl (by omega) (by omega) ?_
    first | refine ev_aload_n dL_law_804 rfl ?_ | refine ev_aload_nN dL_law_804 rfl ?_
    refine ev_iload dL_law_805 rfl ?_
    refine ev_iconst dL_law_807 ci3 ?_
    first | refine ev_iaddN dL_law_808 ?_ | refine ev_iadd dL_law_808 ?_
    refine ev_iald dL_law_809 (by repeat (first | assumption | exact up_s | refine (up_n (by omega)).trans ?_)) _ rfl (by omega) (by omega) ?_
    first | refine ev_aload_n dL_law_810 rfl ?_ | refine ev_aload_nN dL_law_810 rfl ?_
    refine ev_callT (as := [_, _, _, _, _]) dL_law_811 st_RL_116 na_L_phrase (Nat.le_of_ble_eq_true rfl) (Nat.le_of_ble_eq_true rfl) rfl rfl (ev1) ?_
    refine ev_istore dL_law_814 (Nat.le_of_ble_eq_true rfl) ?_
    first | refine ev_aload_n dL_law_816 rfl ?_ | refine ev_aload_nN dL_law_816 rfl ?_
    first | refine ev_aload_n dL_law_817 rfl ?_ | refine ev_aload_nN dL_law_817 rfl ?_
    refine ev_iload dL_law_818 rfl ?_
    refine ev_iconst dL_law_820 ci1 ?_
    first | refine ev_iaddN dL_law_821 ?_ | refine ev_iadd dL_law_821 ?_
    refine ev_iald dL_law_822 (by repeat (first | assumption | exact up_s | refine (up_n (by omega)).trans ?_)) _ rfl (by omega) (by omega) ?_
    first | refine ev_aload_n dL_law_823 rfl ?_ | refine ev_aload_nN dL_law_823 rfl ?_
    refine ev_iload dL_law_824 rfl ?_
    refine ev_iconst dL_law_826 ci2 ?_
    first | refine ev_iaddN dL_law_827 ?_ | refine ev_iadd dL_law_827 ?_
    refine ev_iald dL_law_828 (by repeat (first | assumption | exact up_s | refine (up_n (by omega)).trans ?_)) _ rfl (by omega) (by omega) ?_
    first | refine ev_aload_n dL_law_829 rfl ?_ | refine ev_aload_nN dL_law_829 rfl ?_
    refine ev_iload dL_law_830 rfl ?_
    refine ev_iconst dL_law_832 ci3 ?_
    first | refine ev_iaddN dL_law_833 ?_ | refine ev_iadd dL_law_833 ?_
    refine ev_iald dL_law_834 (by repeat (first | assumption | exact up_s | refine (up_n (by omega)).trans ?_)) _ rfl (by omega) (by omega) ?_
    refine ev_V3 dL_law_835 st_RL_118 na_X10_phrase (Nat.le_of_ble_eq_true rfl) (Nat.le_of_ble_eq_true rfl) (by repeat (first | assumption | exact up_s | refine (up_n (by omega)).trans ?_)) rfl (ev2) ?_
    refine ev_istore dL_law_838 (Nat.le_of_ble_eq_true rfl) ?_
    first | refine ev_aload_n dL_law_840 rfl ?_ | refine ev_aload_nN dL_law_840 rfl ?_
    refine ev_V0 dL_law_841 st_RL_70 na_X10_thrown (Nat.le_of_ble_eq_true rfl) (Nat.le_of_ble_eq_true rfl) (by repeat (first | assumption | exact up_s | refine (up_n (by omega)).trans ?_)) rfl (mm_thrown y31) ?_
    refine ev_iload dL_law_844 rfl ?_
    refine ev_icmp_eqT (tgt := 851) dL_law_846 (by decide) (by first | assumption | exact n_eq (by omega) | decide) ?_
    refine ev_iload dL_law_851 rfl ?_
    refine ev_if_neF dL_law_853 868 (by decide) (by first | assumption | exact z_eq (by omega) | decide) ?_
    first | refine ev_aload_n dL_law_856 rfl ?_ | refine ev_aload_nN dL_law_856 rfl ?_
    refine ev_iconst dL_law_857 ci0 ?_
    refine ev_lald dL_law_858 (by repeat (first | assumption | exact up_s | refine (up_n (by omega)).trans ?_)) _ rfl (by omega) (by omega) ?_
    refine ev_iload dL_law_859 rfl ?_
    refine ev_i2l dL_law_861 rfl ?_
    refine ev_lcmp dL_law_862 ?_
    refine ev_if_eqT (tgt := 868) dL_law_863 (by decide) (by rw [hv]; exact lg_cmp_s _) ?_
    refine ev_goto (tgt := 1049) dL_law_868 (by decide) ?_
    refine ev_sub ?_ (ev3)
    repeat (first | exact trivial | refine ⟨rfl, ?_⟩)
  · first | refine ev_aload_n dL_law_791 rfl ?_ | refine ev_aload_nN dL_law_791 rfl ?_
    first | refine ev_aload_n dL_law_792 rfl ?_ | refine ev_aload_nN dL_law_792 rfl ?_
    refine ev_iload dL_law_793 rfl ?_
    refine ev_iconst dL_law_795 ci1 ?_
    first | refine ev_iaddN dL_law_796 ?_ | refine ev_iadd dL_law_796 ?_
    refine ev_iald dL_law_797 (by repeat (first | assumption | exact up_s | refine (up_n (by omega)).trans ?_)) _ rfl (by omega) (by omega) ?_
    first | refine ev_aload_n dL_law_798 rfl ?_ | refine ev_aload_nN dL_law_798 rfl ?_
    refine ev_iload dL_law_799 rfl ?_
    refine ev_iconst dL_law_801 ci2 ?_
    first | refine ev_iaddN dL_law_802 ?_ | refine ev_iadd dL_law_802 ?_
    refine ev_iald dL_law_803 (by repeat (first | assumption | exact up_s | refine (up_n (by omega)).trans ?_)) _ rfl (by omega) (by omega) ?_
    first | refine ev_aload_n dL_law_804 rfl ?_ | refine ev_aload_nN dL_law_804 rfl ?_
    refine ev_iload dL_law_805 rfl ?_
    refine ev_iconst dL_law_807 ci3 ?_
    first | refine ev_iaddN dL_law_808 ?_ | refine ev_iadd dL_law_808 ?_
    refine ev_iald dL_law_809 (by repeat (first | assumption | exact up_s | refine (up_n (by omega)).trans ?_)) _ rfl (by omega) (by omega) ?_
    first | refine ev_aload_n dL_law_810 rfl ?_ | refine ev_aload_nN dL_law_810 rfl ?_
    refine ev_callT (as := [_, _, _, _, _]) dL_law_811 st_RL_116 na_L_phrase (Nat.le_of_ble_eq_true rfl) (Nat.le_of_ble_eq_true rfl) rfl rfl (ev1) ?_
    refine ev_istore dL_law_814 (Nat.le_of_ble_eq_true rfl) ?_
    first | refine ev_aload_n dL_law_816 rfl ?_ | refine ev_aload_nN dL_law_816 rfl ?_
    first | refine ev_aload_n dL_law_817 rfl ?_ | refine ev_aload_nN dL_law_817 rfl ?_
    refine ev_iload dL_law_818 rfl ?_
    refine ev_iconst dL_law_820 ci1 ?_
    first | refine ev_iaddN dL_law_821 ?_ | refine ev_iadd dL_law_821 ?_
    refine ev_iald dL_law_822 (by repeat (first | assumption | exact up_s | refine (up_n (by omega)).trans ?_)) _ rfl (by omega) (by omega) ?_
    first | refine ev_aload_n dL_law_823 rfl ?_ | refine ev_aload_nN dL_law_823 rfl ?_
    refine ev_iload dL_law_824 rfl ?_
    refine ev_iconst dL_law_826 ci2 ?_
    first | refine ev_iaddN dL_law_827 ?_ | refine ev_iadd dL_law_827 ?_
    refine ev_iald dL_law_828 (by repeat (first | assumption | exact up_s | refine (up_n (by omega)).trans ?_)) _ rfl (by omega) (by omega) ?_
    first | refine ev_aload_n dL_law_829 rfl ?_ | refine ev_aload_nN dL_law_829 rfl ?_
    refine ev_iload dL_law_830 rfl ?_
    refine ev_iconst dL_law_832 ci3 ?_
    first | refine ev_iaddN dL_law_833 ?_ | refine ev_iadd dL_law_833 ?_
    refine ev_iald dL_law_834 (by repeat (first | assumption | exact up_s | refine (up_n (by omega)).trans ?_)) _ rfl (by omega) (by omega) ?_
    refine ev_V3 dL_law_835 st_RL_118 na_X10_phrase (Nat.le_of_ble_eq_true rfl) (Nat.le_of_ble_eq_true rfl) (by repeat (first | assumption | exact up_s | refine (up_n (by omega)).trans ?_)) rfl (ev2) ?_
    refine ev_istore dL_law_838 (Nat.le_of_ble_eq_true rfl) ?_
    first | refine ev_aload_n dL_law_840 rfl ?_ | refine ev_aload_nN dL_law_840 rfl ?_
    refine ev_V0 dL_law_841 st_RL_70 na_X10_thrown (Nat.le_of_ble_eq_true rfl) (Nat.le_of_ble_eq_true rfl) (by repeat (first | assumption | exact up_s | refine (up_n (by omega)).trans ?_)) rfl (mm_thrown y31) ?_
    refine ev_iload dL_law_844 rfl ?_
    refine ev_icmp_eqT (tgt := 851) dL_law_846 (by decide) (by first | assumption | exact n_eq (by omega) | decide) ?_
    refine ev_iload dL_law_851 rfl ?_
    refine ev_if_neT (tgt := 868) dL_law_853 (by decide) (by first | assumption | exact nI_ne0 (by omega) (by omega) | decide) ?_
    refine ev_goto (tgt := 1049) dL_law_868 (by decide) ?_
    refine ev_sub ?_ (ev3)
    repeat (first | exact trivial | refine ⟨rfl, ?_⟩)
theorem lw_fertility (hL : L ≤ 2048) (hi : i + 4 ≤ L) (g : LI L xs n h th) (K : CO L xs i K1 Q1) : ∃ n' h' k q, Ev 60 ML_law 871 [(0, .ref 0), (1, .ref 2), (2, .ref 31), (3, .ref 44), (4, .int (nI i))] [] n h (.inl (some (.int 1)), n', h', k, q) ∧ k ≤ K1 + 5 ∧ q ≤ Q1 + 23 := by
  have h0 := LI_0 g
  obtain ⟨kk, n1, h1, c, e, f, v, z, h2, hk, ev1, hc, he, x0, ⟨F, x31⟩, ev2, li, x44, hV, hv⟩ := js_fertility g (xs (i + 1)) (xs (i + 2))
  obtain ⟨n', h', k, q, ev3, hk3, hq3⟩ := K n1 h2 kk li
  obtain ⟨made, t, l, w, S, W, f9, hn, gs, ⟨⟨F9, y31⟩, ma⟩, y0, -⟩ := li
  refine ⟨n', h', c + k, e + q, ?_, by omega, by omega⟩
  obtain ⟨b, rfl, hz⟩ := hV
  by_cases zk : kk = 0
  · subst zk
    have hv := hv rfl
    rw [hz] at hv
    first | refine ev_aload_n dL_law_871 rfl ?_ | refine ev_aload_nN dL_law_871 rfl ?_
    first | refine ev_aload_n dL_law_872 rfl ?_ | refine ev_aload_nN dL_law_872 rfl ?_
    refine ev_iload dL_law_873 rfl ?_
    refine ev_iconst dL_law_875 ci1 ?_
    first | refine ev_iaddN dL_law_876 ?_ | refine ev_iadd dL_law_876 ?_
    refine ev_iald dL_law_877 (by repeat (first | assumption | exact up_s | refine (up_n (by omega)).trans ?_)) _ rfl (by omega) (by omega) ?_
    first | refine ev_aload_n dL_law_878 rfl ?_ | refine ev_aload_nN dL_law_878 rfl ?_
    refine ev_iload dL_law_879 rfl ?_
    refine ev_iconst dL_law_881 ci2 ?_
    first | refine ev_iaddN dL_law_882 ?_ | refine ev_iadd dL_law_882 ?_
    refine ev_iald dL_law_883 (by repeat (first | assumption | exact up_s | refine (up_n (by omega)).trans ?_)) _ rfl (by omega) (by omega) ?_
    first | refine ev_aload_n dL_law_884 rfl ?_ | refine ev_aload_nN dL_law_884 rfl ?_
    refine ev_callT (as := [_, _, _, _]) dL_law_885 st_RL_119 na_L_fertility (Nat.le_of_ble_eq_true rfl) (Nat.le_of_ble_eq_true rfl) rfl rfl (ev1) ?_
    refine ev_istore dL_law_888 (Nat.le_of_ble_eq_true rfl) ?_
    first | refine ev_aload_n dL_law_890 rfl ?_ | refine ev_aload_nN dL_law_890 rfl ?_
    first | refine ev_aload_n dL_law_891 rfl ?_ | refine ev_aload_nN dL_law_891 rfl ?_
    refine ev_iload dL_law_892 rfl ?_
    refine ev_iconst dL_law_894 ci1 ?_
    first | refine ev_iaddN dL_law_895 ?_ | refine ev_iadd dL_law_895 ?_
    refine ev_iald dL_law_896 (by repeat (first | assumption | exact up_s | refine (up_n (by omega)).trans ?_)) _ rfl (by omega) (by omega) ?_
    first | refine ev_aload_n dL_law_897 rfl ?_ | refine ev_aload_nN dL_law_897 rfl ?_
    refine ev_iload dL_law_898 rfl ?_
    refine ev_iconst dL_law_900 ci2 ?_
    first | refine ev_iaddN dL_law_901 ?_ | refine ev_iadd dL_law_901 ?_
    refine ev_iald dL_law_902 (by repeat (first | assumption | exact up_s | refine (up_n (by omega)).trans ?_)) _ rfl (by omega) (by omega) ?_
    refine ev_V2 dL_law_903 st_RL_121 na_X10_fertility (Nat.le_of_ble_eq_true rfl) (Nat.le_of_ble_eq_true rfl) (by repeat (first | assumption | exact up_s | refine (up_n (by omega)).trans ?_)) rfl (ev2) ?_
    refine ev_istore dL_law_906 (Nat.le_of_ble_eq_true rfl) ?_
    first | refine ev_aload_n dL_law_908 rfl ?_ | refine ev_aload_nN dL_law_908 rfl ?_
    refine ev_V0 dL_law_909 st_RL_70 na_X10_thrown (Nat.le_of_ble_eq_true rfl) (Nat.le_of_ble_eq_true rfl) (by repeat (first | assumption | exact up_s | refine (up_n (by omega)).trans ?_)) rfl (mm_thrown y31) ?_
    refine ev_iload dL_law_912 rfl ?_
    refine ev_icmp_eqT (tgt := 919) dL_law_914 (by decide) (by first | assumption | exact n_eq (by omega) | decide) ?_
    refine ev_iload dL_law_919 rfl ?_
    refine ev_if_neF dL_law_921 936 (by decide) (by first | assumption | exact z_eq (by omega) | decide) ?_
    first | refine ev_aload_n dL_law_924 rfl ?_ | refine ev_aload_nN dL_law_924 rfl ?_
    refine ev_iconst dL_law_925 ci0 ?_
    refine ev_lald dL_law_926 (by repeat (first | assumption | exact up_s | refine (up_n (by omega)).trans ?_)) _ rfl (by omega) (by omega) ?_
    refine ev_iload dL_law_927 rfl ?_
    refine ev_i2l dL_law_929 rfl ?_
    refine ev_lcmp dL_law_930 ?_
    refine ev_if_eqT (tgt := 936) dL_law_931 (by decide) (by rw [hv]; exact lg_cmp_s _) ?_
    refine ev_goto (tgt := 1049) dL_law_936 (by decide) ?_
    refine ev_sub ?_ (ev3)
    repeat (first | exact trivial | refine ⟨rfl, ?_⟩)
  · first | refine ev_aload_n dL_law_871 rfl ?_ | refine ev_aload_nN dL_law_871 rfl ?_
    first | refine ev_aload_n dL_law_872 rfl ?_ | refine ev_aload_nN dL_law_872 rfl ?_
    refine ev_iload dL_law_873 rfl ?_
    refine ev_iconst dL_law_875 ci1 ?_
    first | refine ev_iaddN dL_law_876 ?_ | refine ev_iadd dL_law_876 ?_
    refine ev_iald dL_law_877 (by repeat (first | assumption | exact up_s | refine (up_n (by omega)).trans ?_)) _ rfl (by omega) (by omega) ?_
    first | refine ev_aload_n dL_law_878 rfl ?_ | refine ev_aload_nN dL_law_878 rfl ?_
    refine ev_iload dL_law_879 rfl ?_
    refine ev_iconst dL_law_881 ci2 ?_
    first | refine ev_iaddN dL_law_882 ?_ | refine ev_iadd dL_law_882 ?_
    refine ev_iald dL_law_883 (by repeat (first | assumption | exact up_s | refine (up_n (by omega)).trans ?_)) _ rfl (by omega) (by omega) ?_
    first | refine ev_aload_n dL_law_884 rfl ?_ | refine ev_aload_nN dL_law_884 rfl ?_
    refine ev_callT (as := [_, _, _, _]) dL_law_885 st_RL_119 na_L_fertility (Nat.le_of_ble_eq_true rfl) (Nat.le_of_ble_eq_true rfl) rfl rfl (ev1) ?_
    refine ev_istore dL_law_888 (Nat.le_of_ble_eq_true rfl) ?_
    first | refine ev_aload_n dL_law_890 rfl ?_ | refine ev_aload_nN dL_law_890 rfl ?_
    first | refine ev_aload_n dL_law_891 rfl ?_ | refine ev_aload_nN dL_law_891 rfl ?_
    refine ev_iload dL_law_892 rfl ?_
    refine ev_iconst dL_law_894 ci1 ?_
    first | refine ev_iaddN dL_law_895 ?_ | refine ev_iadd dL_law_895 ?_
    refine ev_iald dL_law_896 (by repeat (first | assumption | exact up_s | refine (up_n (by omega)).trans ?_)) _ rfl (by omega) (by omega) ?_
    first | refine ev_aload_n dL_law_897 rfl ?_ | refine ev_aload_nN dL_law_897 rfl ?_
    refine ev_iload dL_law_898 rfl ?_
    refine ev_iconst dL_law_900 ci2 ?_
    first | refine ev_iaddN dL_law_901 ?_ | refine ev_iadd dL_law_901 ?_
    refine ev_iald dL_law_902 (by repeat (first | assumption | exact up_s | refine (up_n (by omega)).trans ?_)) _ rfl (by omega) (by omega) ?_
    refine ev_V2 dL_law_903 st_RL_121 na_X10_fertility (Nat.le_of_ble_eq_true rfl) (Nat.le_of_ble_eq_true rfl) (by repeat (first | assumption | exact up_s | refine (up_n (by omega)).trans ?_)) rfl (ev2) ?_
    refine ev_istore dL_law_906 (Nat.le_of_ble_eq_true rfl) ?_
    first | refine ev_aload_n dL_law_908 rfl ?_ | refine ev_aload_nN dL_law_908 rfl ?_
    refine ev_V0 dL_law_909 st_RL_70 na_X10_thrown (Nat.le_of_ble_eq_true rfl) (Nat.le_of_ble_eq_true rfl) (by repeat (first | assumption | exact up_s | refine (up_n (by omega)).trans ?_)) rfl (mm_thrown y31) ?_
    refine ev_iload dL_law_912 rfl ?_
    refine ev_icmp_eqT (tgt := 919) dL_law_914 (by decide) (by first | assumption | exact n_eq (by omega) | decide) ?_
    refine ev_iload dL_law_919 rfl ?_
    refine ev_if_neT (tgt := 936) dL_law_921 (by decide) (by first | assumption | exact nI_ne0 (by omega) (by omega) | decide) ?_
    refine ev_goto (tgt := 1049) dL_law_936 (by decide) ?_
    refine ev_sub ?_ (ev3)
    repeat (first | exact trivial | refine ⟨rfl, ?_⟩)
theorem lw_total (hL : L ≤ 2048) (hi : i + 4 ≤ L) (g : LI L xs n h th) (K : CO L xs i K1 Q1) : ∃ n' h' k q, Ev 60 ML_law 939 [(0, .ref 0), (1, .ref 2), (2, .ref 31), (3, .ref 44), (4, .int (nI i))] [] n h (.inl (some (.int 1)), n', h', k, q) ∧ k ≤ K1 + 5 ∧ q ≤ Q1 + 23 := by
  have h0 := LI_0 g
  obtain ⟨kk, n1, h1, c, e, f, v, z, h2, hk, ev1, hc, he, x0, ⟨F, x31⟩, ev2, li, x44, hV, hv⟩ := js_total g (xs (i + 1))
  obtain ⟨n', h', k, q, ev3, hk3, hq3⟩ := K n1 h2 kk li
  obtain ⟨made, t, l, w, S, W, f9, hn, gs, ⟨⟨F9, y31⟩, ma⟩, y0, -⟩ := li
  refine ⟨n', h', c + k, e + q, ?_, by omega, by omega⟩
  have hV : v = .long z := hV
  subst hV
  by_cases zk : kk = 0
  · subst zk
    have hv := hv rfl
    first | refine ev_aload_n dL_law_939 rfl ?_ | refine ev_aload_nN dL_law_939 rfl ?_
    first | refine ev_aload_n dL_law_940 rfl ?_ | refine ev_aload_nN dL_law_940 rfl ?_
    refine ev_iload dL_law_941 rfl ?_
    refine ev_iconst dL_law_943 ci1 ?_
    first | refine ev_iaddN dL_law_944 ?_ | refine ev_iadd dL_law_944 ?_
    refine ev_iald dL_law_945 (by repeat (first | assumption | exact up_s | refine (up_n (by omega)).trans ?_)) _ rfl (by omega) (by omega) ?_
    first | refine ev_aload_n dL_law_946 rfl ?_ | refine ev_aload_nN dL_law_946 rfl ?_
    refine ev_callT (as := [_, _, _]) dL_law_947 st_RL_122 na_L_total (Nat.le_of_ble_eq_true rfl) (Nat.le_of_ble_eq_true rfl) rfl rfl (ev1) ?_
    refine ev_istore dL_law_950 (Nat.le_of_ble_eq_true rfl) ?_
    first | refine ev_aload_n dL_law_952 rfl ?_ | refine ev_aload_nN dL_law_952 rfl ?_
    first | refine ev_aload_n dL_law_953 rfl ?_ | refine ev_aload_nN dL_law_953 rfl ?_
    refine ev_iload dL_law_954 rfl ?_
    refine ev_iconst dL_law_956 ci1 ?_
    first | refine ev_iaddN dL_law_957 ?_ | refine ev_iadd dL_law_957 ?_
    refine ev_iald dL_law_958 (by repeat (first | assumption | exact up_s | refine (up_n (by omega)).trans ?_)) _ rfl (by omega) (by omega) ?_
    refine ev_V1 dL_law_959 st_RL_124 na_X10_total (Nat.le_of_ble_eq_true rfl) (Nat.le_of_ble_eq_true rfl) (by repeat (first | assumption | exact up_s | refine (up_n (by omega)).trans ?_)) rfl (ev2) ?_
    refine ev_lstore dL_law_962 (Nat.le_of_ble_eq_true rfl) ?_
    first | refine ev_aload_n dL_law_964 rfl ?_ | refine ev_aload_nN dL_law_964 rfl ?_
    refine ev_V0 dL_law_965 st_RL_70 na_X10_thrown (Nat.le_of_ble_eq_true rfl) (Nat.le_of_ble_eq_true rfl) (by repeat (first | assumption | exact up_s | refine (up_n (by omega)).trans ?_)) rfl (mm_thrown y31) ?_
    refine ev_iload dL_law_968 rfl ?_
    refine ev_icmp_eqT (tgt := 975) dL_law_970 (by decide) (by first | assumption | exact n_eq (by omega) | decide) ?_
    refine ev_iload dL_law_975 rfl ?_
    refine ev_if_neF dL_law_977 991 (by decide) (by first | assumption | exact z_eq (by omega) | decide) ?_
    first | refine ev_aload_n dL_law_980 rfl ?_ | refine ev_aload_nN dL_law_980 rfl ?_
    refine ev_iconst dL_law_981 ci0 ?_
    refine ev_lald dL_law_982 (by repeat (first | assumption | exact up_s | refine (up_n (by omega)).trans ?_)) _ rfl (by omega) (by omega) ?_
    refine ev_lload dL_law_983 rfl ?_
    refine ev_lcmp dL_law_985 ?_
    refine ev_if_eqT (tgt := 991) dL_law_986 (by decide) (by rw [hv]; exact lg_cmp_s _) ?_
    refine ev_goto (tgt := 1049) dL_law_991 (by decide) ?_
    refine ev_sub ?_ (ev3)
    repeat (first | exact trivial | refine ⟨rfl, ?_⟩)
  · first | refine ev_aload_n dL_law_939 rfl ?_ | refine ev_aload_nN dL_law_939 rfl ?_
    first | refine ev_aload_n dL_law_940 rfl ?_ | refine ev_aload_nN dL_law_940 rfl ?_
    refine ev_iload dL_law_941 rfl ?_
    refine ev_iconst dL_law_943 ci1 ?_
    first | refine ev_iaddN dL_law_944 ?_ | refine ev_iadd dL_law_944 ?_
    refine ev_iald dL_law_945 (by repeat (first | assumption | exact up_s | refine (up_n (by omega)).trans ?_)) _ rfl (by omega) (by omega) ?_
    first | refine ev_aload_n dL_law_946 rfl ?_ | refine ev_aload_nN dL_law_946 rfl ?_
    refine ev_callT (as := [_, _, _]) dL_law_947 st_RL_122 na_L_total (Nat.le_of_ble_eq_true rfl) (Nat.le_of_ble_eq_true rfl) rfl rfl (ev1) ?_
    refine ev_istore dL_law_950 (Nat.le_of_ble_eq_true rfl) ?_
    first | refine ev_aload_n dL_law_952 rfl ?_ | refine ev_aload_nN dL_law_952 rfl ?_
    first | refine ev_aload_n dL_law_953 rfl ?_ | refine ev_aload_nN dL_law_953 rfl ?_
    refine ev_iload dL_law_954 rfl ?_
    refine ev_iconst dL_law_956 ci1 ?_
    first | refine ev_iaddN dL_law_957 ?_ | refine ev_iadd dL_law_957 ?_
    refine ev_iald dL_law_958 (by repeat (first | assumption | exact up_s | refine (up_n (by omega)).trans ?_)) _ rfl (by omega) (by omega) ?_
    refine ev_V1 dL_law_959 st_RL_124 na_X10_total (Nat.le_of_ble_eq_true rfl) (Nat.le_of_ble_eq_true rfl) (by repeat (first | assumption | exact up_s | refine (up_n (by omega)).trans ?_)) rfl (ev2) ?_
    refine ev_lstore dL_law_962 (Nat.le_of_ble_eq_true rfl) ?_
    first | refine ev_aload_n dL_law_964 rfl ?_ | refine ev_aload_nN dL_law_964 rfl ?_
    refine ev_V0 dL_law_965 st_RL_70 na_X10_thrown (Nat.le_of_ble_eq_true rfl) (Nat.le_of_ble_eq_true rfl) (by repeat (first | assumption | exact up_s | refine (up_n (by omega)).trans ?_)) rfl (mm_thrown y31) ?_
    refine ev_iload dL_law_968 rfl ?_
    refine ev_icmp_eqT (tgt := 975) dL_law_970 (by decide) (by first | assumption | exact n_eq (by omega) | decide) ?_
    refine ev_iload dL_law_975 rfl ?_
    refine ev_if_neT (tgt := 991) dL_law_977 (by decide) (by first | assumption | exact nI_ne0 (by omega) (by omega) | decide) ?_
    refine ev_goto (tgt := 1049) dL_law_991 (by decide) ?_
    refine ev_sub ?_ (ev3)
    repeat (first | exact trivial | refine ⟨rfl, ?_⟩)
theorem lw_totalAnew (hL : L ≤ 2048) (hi : i + 4 ≤ L) (g : LI L xs n h th) (K : CO L xs i K1 Q1) : ∃ n' h' k q, Ev 60 ML_law 994 [(0, .ref 0), (1, .ref 2), (2, .ref 31), (3, .ref 44), (4, .int (nI i))] [] n h (.inl (some (.int 1)), n', h', k, q) ∧ k ≤ K1 + 5 ∧ q ≤ Q1 + 23 := by
  have h0 := LI_0 g
  obtain ⟨kk, n1, h1, c, e, f, v, z, h2, hk, ev1, hc, he, x0, ⟨F, x31⟩, ev2, li, x44, hV, hv⟩ := js_totalAnew g (xs (i + 1))
  obtain ⟨n', h', k, q, ev3, hk3, hq3⟩ := K n1 h2 kk li
  obtain ⟨made, t, l, w, S, W, f9, hn, gs, ⟨⟨F9, y31⟩, ma⟩, y0, -⟩ := li
  refine ⟨n', h', c + k, e + q, ?_, by omega, by omega⟩
  have hV : v = .long z := hV
  subst hV
  by_cases zk : kk = 0
  · subst zk
    have hv := hv rfl
    first | refine ev_aload_n dL_law_994 rfl ?_ | refine ev_aload_nN dL_law_994 rfl ?_
    first | refine ev_aload_n dL_law_995 rfl ?_ | refine ev_aload_nN dL_law_995 rfl ?_
    refine ev_iload dL_law_996 rfl ?_
    refine ev_iconst dL_law_998 ci1 ?_
    first | refine ev_iaddN dL_law_999 ?_ | refine ev_iadd dL_law_999 ?_
    refine ev_iald dL_law_1000 (by repeat (first | assumption | exact up_s | refine (up_n (by omega)).trans ?_)) _ rfl (by omega) (by omega) ?_
    first | refine ev_aload_n dL_law_1001 rfl ?_ | refine ev_aload_nN dL_law_1001 rfl ?_
    refine ev_callT (as := [_, _, _]) dL_law_1002 st_RL_125 na_L_totalAnew (Nat.le_of_ble_eq_true rfl) (Nat.le_of_ble_eq_true rfl) rfl rfl (ev1) ?_
    refine ev_istore dL_law_1005 (Nat.le_of_ble_eq_true rfl) ?_
    first | refine ev_aload_n dL_law_1007 rfl ?_ | refine ev_aload_nN dL_law_1007 rfl ?_
    first | refine ev_aload_n dL_law_1008 rfl ?_ | refine ev_aload_nN dL_law_1008 rfl ?_
    refine ev_iload dL_law_1009 rfl ?_
    refine ev_iconst dL_law_1011 ci1 ?_
    first | refine ev_iaddN dL_law_1012 ?_ | refine ev_iadd dL_law_1012 ?_
    refine ev_iald dL_law_1013 (by repeat (first | assumption | exact up_s | refine (up_n (by omega)).trans ?_)) _ rfl (by omega) (by omega) ?_
    refine ev_V1 dL_law_1014 st_RL_127 na_X10_totalAnew (Nat.le_of_ble_eq_true rfl) (Nat.le_of_ble_eq_true rfl) (by repeat (first | assumption | exact up_s | refine (up_n (by omega)).trans ?_)) rfl (ev2) ?_
    refine ev_lstore dL_law_1017 (Nat.le_of_ble_eq_true rfl) ?_
    first | refine ev_aload_n dL_law_1019 rfl ?_ | refine ev_aload_nN dL_law_1019 rfl ?_
    refine ev_V0 dL_law_1020 st_RL_70 na_X10_thrown (Nat.le_of_ble_eq_true rfl) (Nat.le_of_ble_eq_true rfl) (by repeat (first | assumption | exact up_s | refine (up_n (by omega)).trans ?_)) rfl (mm_thrown y31) ?_
    refine ev_iload dL_law_1023 rfl ?_
    refine ev_icmp_eqT (tgt := 1030) dL_law_1025 (by decide) (by first | assumption | exact n_eq (by omega) | decide) ?_
    refine ev_iload dL_law_1030 rfl ?_
    refine ev_if_neF dL_law_1032 1046 (by decide) (by first | assumption | exact z_eq (by omega) | decide) ?_
    first | refine ev_aload_n dL_law_1035 rfl ?_ | refine ev_aload_nN dL_law_1035 rfl ?_
    refine ev_iconst dL_law_1036 ci0 ?_
    refine ev_lald dL_law_1037 (by repeat (first | assumption | exact up_s | refine (up_n (by omega)).trans ?_)) _ rfl (by omega) (by omega) ?_
    refine ev_lload dL_law_1038 rfl ?_
    refine ev_lcmp dL_law_1040 ?_
    refine ev_if_eqT (tgt := 1046) dL_law_1041 (by decide) (by rw [hv]; exact lg_cmp_s _) ?_
    refine ev_goto (tgt := 1049) dL_law_1046 (by decide) ?_
    refine ev_sub ?_ (ev3)
    repeat (first | exact trivial | refine ⟨rfl, ?_⟩)
  · first | refine ev_aload_n dL_law_994 rfl ?_ | refine ev_aload_nN dL_law_994 rfl ?_
    first | refine ev_aload_n dL_law_995 rfl ?_ | refine ev_aload_nN dL_law_995 rfl ?_
    refine ev_iload dL_law_996 rfl ?_
    refine ev_iconst dL_law_998 ci1 ?_
    first | refine ev_iaddN dL_law_999 ?_ | refine ev_iadd dL_law_999 ?_
    refine ev_iald dL_law_1000 (by repeat (first | assumption | exact up_s | refine (up_n (by omega)).trans ?_)) _ rfl (by omega) (by omega) ?_
    first | refine ev_aload_n dL_law_1001 rfl ?_ | refine ev_aload_nN dL_law_1001 rfl ?_
    refine ev_callT (as := [_, _, _]) dL_law_1002 st_RL_125 na_L_totalAnew (Nat.le_of_ble_eq_true rfl) (Nat.le_of_ble_eq_true rfl) rfl rfl (ev1) ?_
    refine ev_istore dL_law_1005 (Nat.le_of_ble_eq_true rfl) ?_
    first | refine ev_aload_n dL_law_1007 rfl ?_ | refine ev_aload_nN dL_law_1007 rfl ?_
    first | refine ev_aload_n dL_law_1008 rfl ?_ | refine ev_aload_nN dL_law_1008 rfl ?_
    refine ev_iload dL_law_1009 rfl ?_
    refine ev_iconst dL_law_1011 ci1 ?_
    first | refine ev_iaddN dL_law_1012 ?_ | refine ev_iadd dL_law_1012 ?_
    refine ev_iald dL_law_1013 (by repeat (first | assumption | exact up_s | refine (up_n (by omega)).trans ?_)) _ rfl (by omega) (by omega) ?_
    refine ev_V1 dL_law_1014 st_RL_127 na_X10_totalAnew (Nat.le_of_ble_eq_true rfl) (Nat.le_of_ble_eq_true rfl) (by repeat (first | assumption | exact up_s | refine (up_n (by omega)).trans ?_)) rfl (ev2) ?_
    refine ev_lstore dL_law_1017 (Nat.le_of_ble_eq_true rfl) ?_
    first | refine ev_aload_n dL_law_1019 rfl ?_ | refine ev_aload_nN dL_law_1019 rfl ?_
    refine ev_V0 dL_law_1020 st_RL_70 na_X10_thrown (Nat.le_of_ble_eq_true rfl) (Nat.le_of_ble_eq_true rfl) (by repeat (first | assumption | exact up_s | refine (up_n (by omega)).trans ?_)) rfl (mm_thrown y31) ?_
    refine ev_iload dL_law_1023 rfl ?_
    refine ev_icmp_eqT (tgt := 1030) dL_law_1025 (by decide) (by first | assumption | exact n_eq (by omega) | decide) ?_
    refine ev_iload dL_law_1030 rfl ?_
    refine ev_if_neT (tgt := 1046) dL_law_1032 (by decide) (by first | assumption | exact nI_ne0 (by omega) (by omega) | decide) ?_
    refine ev_goto (tgt := 1049) dL_law_1046 (by decide) ?_
    refine ev_sub ?_ (ev3)
    repeat (first | exact trivial | refine ⟨rfl, ?_⟩)
end LC2
