/-! the law: shares -/
section LSH
variable {d n : Nat} {h : Hp} {made : Nat} {t : Nat → Nat} {l : Nat → Nat → Nat} {w : Nat → Nat → Nat → Nat} {S : Nat → Nat → Nat} {W : Nat → Nat}
theorem lp_shI (g : GS h made t l w S W) {r : Nat} (hr : r < 32) {o9 : Out} (K : Ev (d + 4) ML_areShares 75 [(0, .ref 2), (1, .int (nI 1)), (2, .int (nI r)), (3, .int (nI (sumN (fun j => S (r / 16) (15 * (r % 16) + j)) 15)))] [] n h o9) :
    ∀ k j, j + k = 15 → Ev (d + 4) ML_areShares 19 [(0, .ref 2), (1, .int (nI 1)), (2, .int (nI r)), (3, .int (nI (sumN (fun j => S (r / 16) (15 * (r % 16) + j)) j))), (4, .int (nI j))] [] n h o9 := by
  have g1 := g.1
  have sb := (Kn_lx g.2.2.1 (show r / 16 ≤ 1 by omega)).2.2
  intro k
  induction k with
  | zero =>
    intro j hj
    have e : j = 15 := by omega
    subst e
    refine ev_iload dL_areShares_19 rfl ?_
    refine ev_bipush dL_areShares_21 bp15 ?_
    refine ev_icmp_geT (tgt := 75) dL_areShares_23 (by decide) (by first | assumption | exact nI_le (by omega) (by omega) | decide) ?_
    refine ev_sub ?_ (K)
    repeat (first | exact trivial | refine ⟨rfl, ?_⟩)
  | succ k ih =>
    intro j hj
    have ih := ih (j + 1) (by omega)
    have s1 := sb (15 * (r % 16) + j)
    have e1 : sumN (fun j => S (r / 16) (15 * (r % 16) + j)) (j + 1) = sumN (fun j => S (r / 16) (15 * (r % 16) + j)) j + S (r / 16) (15 * (r % 16) + j) := rfl
    rw [e1] at ih
    refine ev_iload dL_areShares_19 rfl ?_
    refine ev_bipush dL_areShares_21 bp15 ?_
    refine ev_icmp_geF dL_areShares_23 75 (by decide) (by first | assumption | exact nI_ge (by omega) (by omega) | decide) ?_
    first | refine ev_aload_n dL_areShares_26 rfl ?_ | refine ev_aload_nN dL_areShares_26 rfl ?_
    refine ev_iload_n dL_areShares_27 rfl ?_
    refine ev_bipush dL_areShares_28 bp16 ?_
    refine ev_idivN dL_areShares_30 (by omega) (by omega) (by omega) ?_
    refine ev_iload_n dL_areShares_31 rfl ?_
    refine ev_bipush dL_areShares_32 bp16 ?_
    refine ev_iremN dL_areShares_34 (by omega) (by omega) (by omega) ?_
    refine ev_iload dL_areShares_35 rfl ?_
    refine ev_callT (as := [_, _, _, _]) dL_areShares_37 st_RL_70 na_L_share (Nat.le_of_ble_eq_true rfl) (Nat.le_of_ble_eq_true rfl) (Nat.zero_add _) (Nat.zero_add _) (hl_shareR g1 (m9_shareT g (show r / 16 < 2 by omega) (show r % 16 ≤ 15 by omega) (show j < 15 by omega))) ?_
    refine ev_istore dL_areShares_40 (Nat.le_of_ble_eq_true rfl) ?_
    refine ev_iload_n dL_areShares_42 rfl ?_
    refine ev_if_eqF dL_areShares_43 62 (by decide) (by first | assumption | exact nI_ne0 (by omega) (by omega) | decide) ?_
    refine ev_iload dL_areShares_46 rfl ?_
    refine ev_if_ltF dL_areShares_48 62 (by decide) (by first | assumption | exact nI_pos (by omega) | decide) ?_
    refine ev_iload dL_areShares_51 rfl ?_
    refine ev_ldc (v := nI 1000000) dL_areShares_53 (am_in 343 (by decide +kernel) rfl) ?_
    refine ev_icmp_gtF dL_areShares_55 62 (by decide) (by first | assumption | exact nI_nlt (by omega) (by omega) | decide) ?_
    refine ev_iconst dL_areShares_58 ci1 ?_
    refine ev_goto (tgt := 63) dL_areShares_59 (by decide) ?_
    refine ev_istore_n dL_areShares_63 (Nat.le_of_ble_eq_true rfl) ?_
    refine ev_iload_n dL_areShares_64 rfl ?_
    refine ev_iload dL_areShares_65 rfl ?_
    first | refine ev_iaddN dL_areShares_67 ?_ | refine ev_iadd dL_areShares_67 ?_
    refine ev_istore_n dL_areShares_68 (Nat.le_of_ble_eq_true rfl) ?_
    refine ev_iincN (b := 1) dL_areShares_69 rfl (Nat.le_of_ble_eq_true rfl) ?_
    refine ev_goto (tgt := 19) dL_areShares_72 (by decide) ?_
    refine ev_sub ?_ (ih)
    repeat (first | exact trivial | refine ⟨rfl, ?_⟩)
theorem lp_shO (g : GS h made t l w S W) (rs : RS S) : ∀ k r, r + k = 32 → Ev (d + 4) ML_areShares 4 [(0, .ref 2), (1, .int (nI 1)), (2, .int (nI r))] [] n h (.inl (some (.int (nI 1))), n, h, 0, 0) := by
  intro k
  induction k with
  | zero =>
    intro r hr
    have e : r = 32 := by omega
    subst e
    refine ev_iload_n dL_areShares_4 rfl ?_
    refine ev_bipush dL_areShares_5 bp32 ?_
    refine ev_icmp_geT (tgt := 101) dL_areShares_7 (by decide) (by first | assumption | exact nI_le (by omega) (by omega) | decide) ?_
    refine ev_iload_n dL_areShares_101 rfl ?_
    exact ev_zreturnE dL_areShares_102 rfl (by first | exact Or.inl rfl | exact Or.inr rfl | assumption | exact z01 (bI_01 _) | exact z01 (by omega)) (by rfl)
  | succ k ih =>
    intro r hr
    have ih := ih (r + 1) (by omega)
    refine ev_iload_n dL_areShares_4 rfl ?_
    refine ev_bipush dL_areShares_5 bp32 ?_
    refine ev_icmp_geF dL_areShares_7 101 (by decide) (by first | assumption | exact nI_ge (by omega) (by omega) | decide) ?_
    refine ev_iload_n dL_areShares_10 rfl ?_
    refine ev_if_eqF dL_areShares_11 101 (by decide) (by first | assumption | exact nI_ne0 (by omega) (by omega) | decide) ?_
    refine ev_iconst dL_areShares_14 ci0 ?_
    refine ev_istore_n dL_areShares_15 (Nat.le_of_ble_eq_true rfl) ?_
    refine ev_iconst dL_areShares_16 ci0 ?_
    refine ev_istore dL_areShares_17 (Nat.le_of_ble_eq_true rfl) ?_
    refine ev_sub ?_ (lp_shI (r := r) g (by omega) ?_ 15 0 (by omega))
    · repeat (first | exact trivial | refine ⟨rfl, ?_⟩)
    · rcases rs (r / 16) (r % 16) (by omega) with q | q
      · rw [q]
        refine ev_iload_n dL_areShares_75 rfl ?_
        refine ev_if_eqF dL_areShares_76 93 (by decide) (by first | assumption | exact nI_ne0 (by omega) (by omega) | decide) ?_
        refine ev_iload_n dL_areShares_79 rfl ?_
        refine ev_if_eqT (tgt := 89) dL_areShares_80 (by decide) (by first | assumption | exact z_eq (by omega) | decide) ?_
        refine ev_iconst dL_areShares_89 ci1 ?_
        refine ev_goto (tgt := 94) dL_areShares_90 (by decide) ?_
        refine ev_istore_n dL_areShares_94 (Nat.le_of_ble_eq_true rfl) ?_
        refine ev_iincN (b := 1) dL_areShares_95 rfl (Nat.le_of_ble_eq_true rfl) ?_
        refine ev_goto (tgt := 4) dL_areShares_98 (by decide) ?_
        refine ev_sub ?_ (ih)
        repeat (first | exact trivial | refine ⟨rfl, ?_⟩)
      · rw [q]
        refine ev_iload_n dL_areShares_75 rfl ?_
        refine ev_if_eqF dL_areShares_76 93 (by decide) (by first | assumption | exact nI_ne0 (by omega) (by omega) | decide) ?_
        refine ev_iload_n dL_areShares_79 rfl ?_
        refine ev_if_eqF dL_areShares_80 89 (by decide) (by first | assumption | exact nI_ne0 (by omega) (by omega) | decide) ?_
        refine ev_iload_n dL_areShares_83 rfl ?_
        refine ev_ldc (v := nI 1000000) dL_areShares_84 (am_in 343 (by decide +kernel) rfl) ?_
        refine ev_icmp_neF dL_areShares_86 93 (by decide) (by first | assumption | exact n_eq (by omega) | decide) ?_
        refine ev_iconst dL_areShares_89 ci1 ?_
        refine ev_goto (tgt := 94) dL_areShares_90 (by decide) ?_
        refine ev_istore_n dL_areShares_94 (Nat.le_of_ble_eq_true rfl) ?_
        refine ev_iincN (b := 1) dL_areShares_95 rfl (Nat.le_of_ble_eq_true rfl) ?_
        refine ev_goto (tgt := 4) dL_areShares_98 (by decide) ?_
        refine ev_sub ?_ (ih)
        repeat (first | exact trivial | refine ⟨rfl, ?_⟩)
theorem l_areShares (g : GS h made t l w S W) (rs : RS S) : Ev (d + 4) ML_areShares 0 (lv_args 0 [.ref 2]) [] n h (.inl (some (.int (nI 1))), n, h, 0, 0) := by
  refine ev_iconst dL_areShares_0 ci1 ?_
  refine ev_istore_n dL_areShares_1 (Nat.le_of_ble_eq_true rfl) ?_
  refine ev_iconst dL_areShares_2 ci0 ?_
  refine ev_istore_n dL_areShares_3 (Nat.le_of_ble_eq_true rfl) ?_
  refine ev_sub ?_ (lp_shO g rs 32 0 (by omega))
  repeat (first | exact trivial | refine ⟨rfl, ?_⟩)
end LSH
