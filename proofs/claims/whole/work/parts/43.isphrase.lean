/-! the model: what is a phrase -/
section MI
variable {d n : Nat} {h h' : Hp} {made th : Nat} {F : Nat → Nat} {J R : Nat → Nat}
theorem mm_inB {x a b : Nat} (hx : x < 2 ^ 31) (ha : a < 2 ^ 31) (hb : b < 2 ^ 31) : Ev d MX10_in 0 (lv_args 0 [.int (nI x), .int (nI a), .int (nI b)]) [] n h (.inl (some (.int (nI (bI (a ≤ x ∧ x ≤ b))))), n, h, 0, 0) := by
  by_cases q1 : a ≤ x
  · by_cases q2 : x ≤ b
    · rw [bI_t ⟨q1, q2⟩]; exact mm_inT q1 q2 hb
    · rw [bI_f (fun z => q2 z.2)]; exact mm_inG (by omega) hx q1
  · rw [bI_f (fun z => q1 z.1)]; exact mm_inL (by omega) ha
def badF (J : Nat → Nat) (a b c e k : Nat) : Nat := if jm J k = 1 ∧ bI (a ≤ k / 8 ∧ k / 8 ≤ b) ≠ bI (c ≤ k % 8 ∧ k % 8 ≤ e) then 1 else 0
def insF (J : Nat → Nat) (a b c e k : Nat) : Nat := if jm J k = 1 ∧ bI (a ≤ k / 8 ∧ k / 8 ≤ b) = 1 ∧ bI (c ≤ k % 8 ∧ k % 8 ≤ e) = 1 then 1 else 0
theorem insF_le (J : Nat → Nat) (a b c e k : Nat) : insF J a b c e k ≤ 1 := by unfold insF; split <;> omega
theorem lm_ip (g31 : h 31 = MO made F th) (g43 : h 43 = aZ 64 (cut J R)) {a b c e : Nat} (ha : a < 8) (hb : b < 8) (hc : c < 8) (he : e < 8) : ∀ m k, k + m = 64 → Ev (d + 1) MX10_isPhrase 9 [(0, .ref 31), (1, .int (nI a)), (2, .int (nI b)), (3, .int (nI c)), (4, .int (nI e)), (5, .int (nI (alF (badF J a b c e) k))), (6, .int (nI (sumN (insF J a b c e) k))), (7, .int (nI k))] [] n h (.inl (some (.int (nI (bI (alF (badF J a b c e) 64 = 1 ∧ 0 < sumN (insF J a b c e) 64))))), n, h, 0, 0) := by
  intro m
  induction m with
  | zero =>
    intro k hk
    have ek : k = 64 := by omega
    subst ek
    have a01 := alF_01 (badF J a b c e) 64
    have sl := sumN_le1 (insF_le J a b c e) 64
    generalize alF (badF J a b c e) 64 = x at a01 ⊢
    generalize sumN (insF J a b c e) 64 = y at sl ⊢
    by_cases q1 : x = 1
    · by_cases q2 : 0 < y
      · rw [bI_t ⟨q1, q2⟩]
        refine ev_iload dX10_isPhrase_9 rfl ?_
        refine ev_bipush dX10_isPhrase_11 bp64 ?_
        refine ev_icmp_geT (tgt := 106) dX10_isPhrase_13 (by decide) (by first | assumption | exact nI_le (by omega) (by omega) | decide) ?_
        refine ev_iload dX10_isPhrase_106 rfl ?_
        refine ev_if_eqF dX10_isPhrase_108 120 (by decide) (by first | assumption | exact nI_ne0 (by omega) (by omega) | decide) ?_
        refine ev_iload dX10_isPhrase_111 rfl ?_
        refine ev_if_leF dX10_isPhrase_113 120 (by decide) (by first | assumption | exact nI_nle (by omega) (by omega) | decide) ?_
        refine ev_iconst dX10_isPhrase_116 ci1 ?_
        refine ev_goto (tgt := 121) dX10_isPhrase_117 (by decide) ?_
        exact ev_zreturnE dX10_isPhrase_121 rfl (by first | exact Or.inl rfl | exact Or.inr rfl | assumption | exact z01 (bI_01 _) | exact z01 (by omega)) (by rfl)
      · rw [bI_f (fun z => q2 z.2)]
        refine ev_iload dX10_isPhrase_9 rfl ?_
        refine ev_bipush dX10_isPhrase_11 bp64 ?_
        refine ev_icmp_geT (tgt := 106) dX10_isPhrase_13 (by decide) (by first | assumption | exact nI_le (by omega) (by omega) | decide) ?_
        refine ev_iload dX10_isPhrase_106 rfl ?_
        refine ev_if_eqF dX10_isPhrase_108 120 (by decide) (by first | assumption | exact nI_ne0 (by omega) (by omega) | decide) ?_
        refine ev_iload dX10_isPhrase_111 rfl ?_
        refine ev_if_leT (tgt := 120) dX10_isPhrase_113 (by decide) (by first | assumption | exact z_le (by omega) | decide) ?_
        refine ev_iconst dX10_isPhrase_120 ci0 ?_
        exact ev_zreturnE dX10_isPhrase_121 rfl (by first | exact Or.inl rfl | exact Or.inr rfl | assumption | exact z01 (bI_01 _) | exact z01 (by omega)) (by rfl)
    · rw [bI_f (fun z => q1 z.1)]
      refine ev_iload dX10_isPhrase_9 rfl ?_
      refine ev_bipush dX10_isPhrase_11 bp64 ?_
      refine ev_icmp_geT (tgt := 106) dX10_isPhrase_13 (by decide) (by first | assumption | exact nI_le (by omega) (by omega) | decide) ?_
      refine ev_iload dX10_isPhrase_106 rfl ?_
      refine ev_if_eqT (tgt := 120) dX10_isPhrase_108 (by decide) (by first | assumption | exact z_eq (by omega) | decide) ?_
      refine ev_iconst dX10_isPhrase_120 ci0 ?_
      exact ev_zreturnE dX10_isPhrase_121 rfl (by first | exact Or.inl rfl | exact Or.inr rfl | assumption | exact z01 (bI_01 _) | exact z01 (by omega)) (by rfl)
  | succ m ih =>
    intro k hk
    have ih := ih (k + 1) (by omega)
    have a01 := alF_01 (badF J a b c e) k
    have p01 := jm_01 J k
    have ec := cut_lt (J := J) (R := R) (show k < 64 by omega)
    have hi1 := mm_inB (d := d) (n := n) (h := h) (x := k / 8) (a := a) (b := b) (by omega) (by omega) (by omega)
    have hi2 := mm_inB (d := d) (n := n) (h := h) (x := k % 8) (a := c) (b := e) (by omega) (by omega) (by omega)
    have o1 := bI_01 (a ≤ k / 8 ∧ k / 8 ≤ b)
    have o2 := bI_01 (c ≤ k % 8 ∧ k % 8 ≤ e)
    have e1 : alF (badF J a b c e) (k + 1) = if alF (badF J a b c e) k = 1 ∧ (if jm J k = 1 ∧ bI (a ≤ k / 8 ∧ k / 8 ≤ b) ≠ bI (c ≤ k % 8 ∧ k % 8 ≤ e) then 1 else 0) = 0 then 1 else 0 := rfl
    have e2 : sumN (insF J a b c e) (k + 1) = sumN (insF J a b c e) k + if jm J k = 1 ∧ bI (a ≤ k / 8 ∧ k / 8 ≤ b) = 1 ∧ bI (c ≤ k % 8 ∧ k % 8 ≤ e) = 1 then 1 else 0 := rfl
    rw [e1, e2] at ih
    clear e1 e2
    generalize alF (badF J a b c e) k = s at ih a01 ⊢
    generalize sumN (insF J a b c e) k = y at ih ⊢
    generalize bI (a ≤ k / 8 ∧ k / 8 ≤ b) = u at ih hi1 o1
    generalize bI (c ≤ k % 8 ∧ k % 8 ≤ e) = v at ih hi2 o2
    generalize jm J k = p at ih ec p01
    rcases a01 with rfl | rfl <;> rcases p01 with rfl | rfl <;> rcases o1 with rfl | rfl <;> rcases o2 with rfl | rfl
    · rw [show (if (0 : Nat) = 1 ∧ (if (0 : Nat) = 1 ∧ (0 : Nat) ≠ 0 then 1 else 0) = 0 then 1 else 0) = 0 from by decide, show (if (0 : Nat) = 1 ∧ (0 : Nat) = 1 ∧ (0 : Nat) = 1 then 1 else 0) = 0 from by decide] at ih
      refine ev_iload dX10_isPhrase_9 rfl ?_
      refine ev_bipush dX10_isPhrase_11 bp64 ?_
      refine ev_icmp_geF dX10_isPhrase_13 106 (by decide) (by first | assumption | exact nI_ge (by omega) (by omega) | decide) ?_
      refine ev_iload dX10_isPhrase_16 rfl ?_
      refine ev_bipush dX10_isPhrase_18 bp8 ?_
      refine ev_idivN dX10_isPhrase_20 (by omega) (by omega) (by omega) ?_
      refine ev_iload_n dX10_isPhrase_21 rfl ?_
      refine ev_iload_n dX10_isPhrase_22 rfl ?_
      refine ev_S3 dX10_isPhrase_23 st_RX10_55 na_X10_in (Nat.le_of_ble_eq_true rfl) (Nat.le_of_ble_eq_true rfl) (hi1) ?_
      refine ev_istore dX10_isPhrase_26 (Nat.le_of_ble_eq_true rfl) ?_
      refine ev_iload dX10_isPhrase_28 rfl ?_
      refine ev_bipush dX10_isPhrase_30 bp8 ?_
      refine ev_iremN dX10_isPhrase_32 (by omega) (by omega) (by omega) ?_
      refine ev_iload_n dX10_isPhrase_33 rfl ?_
      refine ev_iload dX10_isPhrase_34 rfl ?_
      refine ev_S3 dX10_isPhrase_36 st_RX10_55 na_X10_in (Nat.le_of_ble_eq_true rfl) (Nat.le_of_ble_eq_true rfl) (hi2) ?_
      refine ev_istore dX10_isPhrase_39 (Nat.le_of_ble_eq_true rfl) ?_
      refine ev_iload dX10_isPhrase_41 rfl ?_
      refine ev_if_eqT (tgt := 67) dX10_isPhrase_43 (by decide) (by first | assumption | exact z_eq (by omega) | decide) ?_
      refine ev_iconst dX10_isPhrase_67 ci0 ?_
      refine ev_istore dX10_isPhrase_68 (Nat.le_of_ble_eq_true rfl) ?_
      refine ev_iload dX10_isPhrase_70 rfl ?_
      first | refine ev_aload_n dX10_isPhrase_72 rfl ?_ | refine ev_aload_nN dX10_isPhrase_72 rfl ?_
      refine ev_getfield dX10_isPhrase_73 fl_RX10_45 (by repeat (first | assumption | exact up_s | refine (up_n (by omega)).trans ?_)) rfl ?_
      refine ev_iload dX10_isPhrase_76 rfl ?_
      refine ev_bald dX10_isPhrase_78 (by repeat (first | assumption | exact up_s | refine (up_n (by omega)).trans ?_)) _ rfl (by omega) (by omega) ?_
      refine ev_if_eqT (tgt := 96) dX10_isPhrase_79 (by decide) (by first | assumption | exact z_eq (by omega) | decide) ?_
      refine ev_iconst dX10_isPhrase_96 ci0 ?_
      first | refine ev_iaddN dX10_isPhrase_97 ?_ | refine ev_iadd dX10_isPhrase_97 ?_
      refine ev_istore dX10_isPhrase_98 (Nat.le_of_ble_eq_true rfl) ?_
      refine ev_iincN (b := 1) dX10_isPhrase_100 rfl (Nat.le_of_ble_eq_true rfl) ?_
      refine ev_goto (tgt := 9) dX10_isPhrase_103 (by decide) ?_
      refine ev_sub ?_ (ih)
      repeat (first | exact trivial | refine ⟨rfl, ?_⟩)
    · rw [show (if (0 : Nat) = 1 ∧ (if (0 : Nat) = 1 ∧ (0 : Nat) ≠ 1 then 1 else 0) = 0 then 1 else 0) = 0 from by decide, show (if (0 : Nat) = 1 ∧ (0 : Nat) = 1 ∧ (1 : Nat) = 1 then 1 else 0) = 0 from by decide] at ih
      refine ev_iload dX10_isPhrase_9 rfl ?_
      refine ev_bipush dX10_isPhrase_11 bp64 ?_
      refine ev_icmp_geF dX10_isPhrase_13 106 (by decide) (by first | assumption | exact nI_ge (by omega) (by omega) | decide) ?_
      refine ev_iload dX10_isPhrase_16 rfl ?_
      refine ev_bipush dX10_isPhrase_18 bp8 ?_
      refine ev_idivN dX10_isPhrase_20 (by omega) (by omega) (by omega) ?_
      refine ev_iload_n dX10_isPhrase_21 rfl ?_
      refine ev_iload_n dX10_isPhrase_22 rfl ?_
      refine ev_S3 dX10_isPhrase_23 st_RX10_55 na_X10_in (Nat.le_of_ble_eq_true rfl) (Nat.le_of_ble_eq_true rfl) (hi1) ?_
      refine ev_istore dX10_isPhrase_26 (Nat.le_of_ble_eq_true rfl) ?_
      refine ev_iload dX10_isPhrase_28 rfl ?_
      refine ev_bipush dX10_isPhrase_30 bp8 ?_
      refine ev_iremN dX10_isPhrase_32 (by omega) (by omega) (by omega) ?_
      refine ev_iload_n dX10_isPhrase_33 rfl ?_
      refine ev_iload dX10_isPhrase_34 rfl ?_
      refine ev_S3 dX10_isPhrase_36 st_RX10_55 na_X10_in (Nat.le_of_ble_eq_true rfl) (Nat.le_of_ble_eq_true rfl) (hi2) ?_
      refine ev_istore dX10_isPhrase_39 (Nat.le_of_ble_eq_true rfl) ?_
      refine ev_iload dX10_isPhrase_41 rfl ?_
      refine ev_if_eqT (tgt := 67) dX10_isPhrase_43 (by decide) (by first | assumption | exact z_eq (by omega) | decide) ?_
      refine ev_iconst dX10_isPhrase_67 ci0 ?_
      refine ev_istore dX10_isPhrase_68 (Nat.le_of_ble_eq_true rfl) ?_
      refine ev_iload dX10_isPhrase_70 rfl ?_
      first | refine ev_aload_n dX10_isPhrase_72 rfl ?_ | refine ev_aload_nN dX10_isPhrase_72 rfl ?_
      refine ev_getfield dX10_isPhrase_73 fl_RX10_45 (by repeat (first | assumption | exact up_s | refine (up_n (by omega)).trans ?_)) rfl ?_
      refine ev_iload dX10_isPhrase_76 rfl ?_
      refine ev_bald dX10_isPhrase_78 (by repeat (first | assumption | exact up_s | refine (up_n (by omega)).trans ?_)) _ rfl (by omega) (by omega) ?_
      refine ev_if_eqT (tgt := 96) dX10_isPhrase_79 (by decide) (by first | assumption | exact z_eq (by omega) | decide) ?_
      refine ev_iconst dX10_isPhrase_96 ci0 ?_
      first | refine ev_iaddN dX10_isPhrase_97 ?_ | refine ev_iadd dX10_isPhrase_97 ?_
      refine ev_istore dX10_isPhrase_98 (Nat.le_of_ble_eq_true rfl) ?_
      refine ev_iincN (b := 1) dX10_isPhrase_100 rfl (Nat.le_of_ble_eq_true rfl) ?_
      refine ev_goto (tgt := 9) dX10_isPhrase_103 (by decide) ?_
      refine ev_sub ?_ (ih)
      repeat (first | exact trivial | refine ⟨rfl, ?_⟩)
    · rw [show (if (0 : Nat) = 1 ∧ (if (0 : Nat) = 1 ∧ (1 : Nat) ≠ 0 then 1 else 0) = 0 then 1 else 0) = 0 from by decide, show (if (0 : Nat) = 1 ∧ (1 : Nat) = 1 ∧ (0 : Nat) = 1 then 1 else 0) = 0 from by decide] at ih
      refine ev_iload dX10_isPhrase_9 rfl ?_
      refine ev_bipush dX10_isPhrase_11 bp64 ?_
      refine ev_icmp_geF dX10_isPhrase_13 106 (by decide) (by first | assumption | exact nI_ge (by omega) (by omega) | decide) ?_
      refine ev_iload dX10_isPhrase_16 rfl ?_
      refine ev_bipush dX10_isPhrase_18 bp8 ?_
      refine ev_idivN dX10_isPhrase_20 (by omega) (by omega) (by omega) ?_
      refine ev_iload_n dX10_isPhrase_21 rfl ?_
      refine ev_iload_n dX10_isPhrase_22 rfl ?_
      refine ev_S3 dX10_isPhrase_23 st_RX10_55 na_X10_in (Nat.le_of_ble_eq_true rfl) (Nat.le_of_ble_eq_true rfl) (hi1) ?_
      refine ev_istore dX10_isPhrase_26 (Nat.le_of_ble_eq_true rfl) ?_
      refine ev_iload dX10_isPhrase_28 rfl ?_
      refine ev_bipush dX10_isPhrase_30 bp8 ?_
      refine ev_iremN dX10_isPhrase_32 (by omega) (by omega) (by omega) ?_
      refine ev_iload_n dX10_isPhrase_33 rfl ?_
      refine ev_iload dX10_isPhrase_34 rfl ?_
      refine ev_S3 dX10_isPhrase_36 st_RX10_55 na_X10_in (Nat.le_of_ble_eq_true rfl) (Nat.le_of_ble_eq_true rfl) (hi2) ?_
      refine ev_istore dX10_isPhrase_39 (Nat.le_of_ble_eq_true rfl) ?_
      refine ev_iload dX10_isPhrase_41 rfl ?_
      refine ev_if_eqT (tgt := 67) dX10_isPhrase_43 (by decide) (by first | assumption | exact z_eq (by omega) | decide) ?_
      refine ev_iconst dX10_isPhrase_67 ci0 ?_
      refine ev_istore dX10_isPhrase_68 (Nat.le_of_ble_eq_true rfl) ?_
      refine ev_iload dX10_isPhrase_70 rfl ?_
      first | refine ev_aload_n dX10_isPhrase_72 rfl ?_ | refine ev_aload_nN dX10_isPhrase_72 rfl ?_
      refine ev_getfield dX10_isPhrase_73 fl_RX10_45 (by repeat (first | assumption | exact up_s | refine (up_n (by omega)).trans ?_)) rfl ?_
      refine ev_iload dX10_isPhrase_76 rfl ?_
      refine ev_bald dX10_isPhrase_78 (by repeat (first | assumption | exact up_s | refine (up_n (by omega)).trans ?_)) _ rfl (by omega) (by omega) ?_
      refine ev_if_eqT (tgt := 96) dX10_isPhrase_79 (by decide) (by first | assumption | exact z_eq (by omega) | decide) ?_
      refine ev_iconst dX10_isPhrase_96 ci0 ?_
      first | refine ev_iaddN dX10_isPhrase_97 ?_ | refine ev_iadd dX10_isPhrase_97 ?_
      refine ev_istore dX10_isPhrase_98 (Nat.le_of_ble_eq_true rfl) ?_
      refine ev_iincN (b := 1) dX10_isPhrase_100 rfl (Nat.le_of_ble_eq_true rfl) ?_
      refine ev_goto (tgt := 9) dX10_isPhrase_103 (by decide) ?_
      refine ev_sub ?_ (ih)
      repeat (first | exact trivial | refine ⟨rfl, ?_⟩)
    · rw [show (if (0 : Nat) = 1 ∧ (if (0 : Nat) = 1 ∧ (1 : Nat) ≠ 1 then 1 else 0) = 0 then 1 else 0) = 0 from by decide, show (if (0 : Nat) = 1 ∧ (1 : Nat) = 1 ∧ (1 : Nat) = 1 then 1 else 0) = 0 from by decide] at ih
      refine ev_iload dX10_isPhrase_9 rfl ?_
      refine ev_bipush dX10_isPhrase_11 bp64 ?_
      refine ev_icmp_geF dX10_isPhrase_13 106 (by decide) (by first | assumption | exact nI_ge (by omega) (by omega) | decide) ?_
      refine ev_iload dX10_isPhrase_16 rfl ?_
      refine ev_bipush dX10_isPhrase_18 bp8 ?_
      refine ev_idivN dX10_isPhrase_20 (by omega) (by omega) (by omega) ?_
      refine ev_iload_n dX10_isPhrase_21 rfl ?_
      refine ev_iload_n dX10_isPhrase_22 rfl ?_
      refine ev_S3 dX10_isPhrase_23 st_RX10_55 na_X10_in (Nat.le_of_ble_eq_true rfl) (Nat.le_of_ble_eq_true rfl) (hi1) ?_
      refine ev_istore dX10_isPhrase_26 (Nat.le_of_ble_eq_true rfl) ?_
      refine ev_iload dX10_isPhrase_28 rfl ?_
      refine ev_bipush dX10_isPhrase_30 bp8 ?_
      refine ev_iremN dX10_isPhrase_32 (by omega) (by omega) (by omega) ?_
      refine ev_iload_n dX10_isPhrase_33 rfl ?_
      refine ev_iload dX10_isPhrase_34 rfl ?_
      refine ev_S3 dX10_isPhrase_36 st_RX10_55 na_X10_in (Nat.le_of_ble_eq_true rfl) (Nat.le_of_ble_eq_true rfl) (hi2) ?_
      refine ev_istore dX10_isPhrase_39 (Nat.le_of_ble_eq_true rfl) ?_
      refine ev_iload dX10_isPhrase_41 rfl ?_
      refine ev_if_eqT (tgt := 67) dX10_isPhrase_43 (by decide) (by first | assumption | exact z_eq (by omega) | decide) ?_
      refine ev_iconst dX10_isPhrase_67 ci0 ?_
      refine ev_istore dX10_isPhrase_68 (Nat.le_of_ble_eq_true rfl) ?_
      refine ev_iload dX10_isPhrase_70 rfl ?_
      first | refine ev_aload_n dX10_isPhrase_72 rfl ?_ | refine ev_aload_nN dX10_isPhrase_72 rfl ?_
      refine ev_getfield dX10_isPhrase_73 fl_RX10_45 (by repeat (first | assumption | exact up_s | refine (up_n (by omega)).trans ?_)) rfl ?_
      refine ev_iload dX10_isPhrase_76 rfl ?_
      refine ev_bald dX10_isPhrase_78 (by repeat (first | assumption | exact up_s | refine (up_n (by omega)).trans ?_)) _ rfl (by omega) (by omega) ?_
      refine ev_if_eqT (tgt := 96) dX10_isPhrase_79 (by decide) (by first | assumption | exact z_eq (by omega) | decide) ?_
      refine ev_iconst dX10_isPhrase_96 ci0 ?_
      first | refine ev_iaddN dX10_isPhrase_97 ?_ | refine ev_iadd dX10_isPhrase_97 ?_
      refine ev_istore dX10_isPhrase_98 (Nat.le_of_ble_eq_true rfl) ?_
      refine ev_iincN (b := 1) dX10_isPhrase_100 rfl (Nat.le_of_ble_eq_true rfl) ?_
      refine ev_goto (tgt := 9) dX10_isPhrase_103 (by decide) ?_
      refine ev_sub ?_ (ih)
      repeat (first | exact trivial | refine ⟨rfl, ?_⟩)
    · rw [show (if (0 : Nat) = 1 ∧ (if (1 : Nat) = 1 ∧ (0 : Nat) ≠ 0 then 1 else 0) = 0 then 1 else 0) = 0 from by decide, show (if (1 : Nat) = 1 ∧ (0 : Nat) = 1 ∧ (0 : Nat) = 1 then 1 else 0) = 0 from by decide] at ih
      refine ev_iload dX10_isPhrase_9 rfl ?_
      refine ev_bipush dX10_isPhrase_11 bp64 ?_
      refine ev_icmp_geF dX10_isPhrase_13 106 (by decide) (by first | assumption | exact nI_ge (by omega) (by omega) | decide) ?_
      refine ev_iload dX10_isPhrase_16 rfl ?_
      refine ev_bipush dX10_isPhrase_18 bp8 ?_
      refine ev_idivN dX10_isPhrase_20 (by omega) (by omega) (by omega) ?_
      refine ev_iload_n dX10_isPhrase_21 rfl ?_
      refine ev_iload_n dX10_isPhrase_22 rfl ?_
      refine ev_S3 dX10_isPhrase_23 st_RX10_55 na_X10_in (Nat.le_of_ble_eq_true rfl) (Nat.le_of_ble_eq_true rfl) (hi1) ?_
      refine ev_istore dX10_isPhrase_26 (Nat.le_of_ble_eq_true rfl) ?_
      refine ev_iload dX10_isPhrase_28 rfl ?_
      refine ev_bipush dX10_isPhrase_30 bp8 ?_
      refine ev_iremN dX10_isPhrase_32 (by omega) (by omega) (by omega) ?_
      refine ev_iload_n dX10_isPhrase_33 rfl ?_
      refine ev_iload dX10_isPhrase_34 rfl ?_
      refine ev_S3 dX10_isPhrase_36 st_RX10_55 na_X10_in (Nat.le_of_ble_eq_true rfl) (Nat.le_of_ble_eq_true rfl) (hi2) ?_
      refine ev_istore dX10_isPhrase_39 (Nat.le_of_ble_eq_true rfl) ?_
      refine ev_iload dX10_isPhrase_41 rfl ?_
      refine ev_if_eqT (tgt := 67) dX10_isPhrase_43 (by decide) (by first | assumption | exact z_eq (by omega) | decide) ?_
      refine ev_iconst dX10_isPhrase_67 ci0 ?_
      refine ev_istore dX10_isPhrase_68 (Nat.le_of_ble_eq_true rfl) ?_
      refine ev_iload dX10_isPhrase_70 rfl ?_
      first | refine ev_aload_n dX10_isPhrase_72 rfl ?_ | refine ev_aload_nN dX10_isPhrase_72 rfl ?_
      refine ev_getfield dX10_isPhrase_73 fl_RX10_45 (by repeat (first | assumption | exact up_s | refine (up_n (by omega)).trans ?_)) rfl ?_
      refine ev_iload dX10_isPhrase_76 rfl ?_
      refine ev_bald dX10_isPhrase_78 (by repeat (first | assumption | exact up_s | refine (up_n (by omega)).trans ?_)) _ rfl (by omega) (by omega) ?_
      refine ev_if_eqF dX10_isPhrase_79 96 (by decide) (by first | assumption | exact nI_ne0 (by omega) (by omega) | decide) ?_
      refine ev_iload dX10_isPhrase_82 rfl ?_
      refine ev_if_eqT (tgt := 96) dX10_isPhrase_84 (by decide) (by first | assumption | exact z_eq (by omega) | decide) ?_
      refine ev_iconst dX10_isPhrase_96 ci0 ?_
      first | refine ev_iaddN dX10_isPhrase_97 ?_ | refine ev_iadd dX10_isPhrase_97 ?_
      refine ev_istore dX10_isPhrase_98 (Nat.le_of_ble_eq_true rfl) ?_
      refine ev_iincN (b := 1) dX10_isPhrase_100 rfl (Nat.le_of_ble_eq_true rfl) ?_
      refine ev_goto (tgt := 9) dX10_isPhrase_103 (by decide) ?_
      refine ev_sub ?_ (ih)
      repeat (first | exact trivial | refine ⟨rfl, ?_⟩)
    · rw [show (if (0 : Nat) = 1 ∧ (if (1 : Nat) = 1 ∧ (0 : Nat) ≠ 1 then 1 else 0) = 0 then 1 else 0) = 0 from by decide, show (if (1 : Nat) = 1 ∧ (0 : Nat) = 1 ∧ (1 : Nat) = 1 then 1 else 0) = 0 from by decide] at ih
      refine ev_iload dX10_isPhrase_9 rfl ?_
      refine ev_bipush dX10_isPhrase_11 bp64 ?_
      refine ev_icmp_geF dX10_isPhrase_13 106 (by decide) (by first | assumption | exact nI_ge (by omega) (by omega) | decide) ?_
      refine ev_iload dX10_isPhrase_16 rfl ?_
      refine ev_bipush dX10_isPhrase_18 bp8 ?_
      refine ev_idivN dX10_isPhrase_20 (by omega) (by omega) (by omega) ?_
      refine ev_iload_n dX10_isPhrase_21 rfl ?_
      refine ev_iload_n dX10_isPhrase_22 rfl ?_
      refine ev_S3 dX10_isPhrase_23 st_RX10_55 na_X10_in (Nat.le_of_ble_eq_true rfl) (Nat.le_of_ble_eq_true rfl) (hi1) ?_
      refine ev_istore dX10_isPhrase_26 (Nat.le_of_ble_eq_true rfl) ?_
      refine ev_iload dX10_isPhrase_28 rfl ?_
      refine ev_bipush dX10_isPhrase_30 bp8 ?_
      refine ev_iremN dX10_isPhrase_32 (by omega) (by omega) (by omega) ?_
      refine ev_iload_n dX10_isPhrase_33 rfl ?_
      refine ev_iload dX10_isPhrase_34 rfl ?_
      refine ev_S3 dX10_isPhrase_36 st_RX10_55 na_X10_in (Nat.le_of_ble_eq_true rfl) (Nat.le_of_ble_eq_true rfl) (hi2) ?_
      refine ev_istore dX10_isPhrase_39 (Nat.le_of_ble_eq_true rfl) ?_
      refine ev_iload dX10_isPhrase_41 rfl ?_
      refine ev_if_eqT (tgt := 67) dX10_isPhrase_43 (by decide) (by first | assumption | exact z_eq (by omega) | decide) ?_
      refine ev_iconst dX10_isPhrase_67 ci0 ?_
      refine ev_istore dX10_isPhrase_68 (Nat.le_of_ble_eq_true rfl) ?_
      refine ev_iload dX10_isPhrase_70 rfl ?_
      first | refine ev_aload_n dX10_isPhrase_72 rfl ?_ | refine ev_aload_nN dX10_isPhrase_72 rfl ?_
      refine ev_getfield dX10_isPhrase_73 fl_RX10_45 (by repeat (first | assumption | exact up_s | refine (up_n (by omega)).trans ?_)) rfl ?_
      refine ev_iload dX10_isPhrase_76 rfl ?_
      refine ev_bald dX10_isPhrase_78 (by repeat (first | assumption | exact up_s | refine (up_n (by omega)).trans ?_)) _ rfl (by omega) (by omega) ?_
      refine ev_if_eqF dX10_isPhrase_79 96 (by decide) (by first | assumption | exact nI_ne0 (by omega) (by omega) | decide) ?_
      refine ev_iload dX10_isPhrase_82 rfl ?_
      refine ev_if_eqT (tgt := 96) dX10_isPhrase_84 (by decide) (by first | assumption | exact z_eq (by omega) | decide) ?_
      refine ev_iconst dX10_isPhrase_96 ci0 ?_
      first | refine ev_iaddN dX10_isPhrase_97 ?_ | refine ev_iadd dX10_isPhrase_97 ?_
      refine ev_istore dX10_isPhrase_98 (Nat.le_of_ble_eq_true rfl) ?_
      refine ev_iincN (b := 1) dX10_isPhrase_100 rfl (Nat.le_of_ble_eq_true rfl) ?_
      refine ev_goto (tgt := 9) dX10_isPhrase_103 (by decide) ?_
      refine ev_sub ?_ (ih)
      repeat (first | exact trivial | refine ⟨rfl, ?_⟩)
    · rw [show (if (0 : Nat) = 1 ∧ (if (1 : Nat) = 1 ∧ (1 : Nat) ≠ 0 then 1 else 0) = 0 then 1 else 0) = 0 from by decide, show (if (1 : Nat) = 1 ∧ (1 : Nat) = 1 ∧ (0 : Nat) = 1 then 1 else 0) = 0 from by decide] at ih
      refine ev_iload dX10_isPhrase_9 rfl ?_
      refine ev_bipush dX10_isPhrase_11 bp64 ?_
      refine ev_icmp_geF dX10_isPhrase_13 106 (by decide) (by first | assumption | exact nI_ge (by omega) (by omega) | decide) ?_
      refine ev_iload dX10_isPhrase_16 rfl ?_
      refine ev_bipush dX10_isPhrase_18 bp8 ?_
      refine ev_idivN dX10_isPhrase_20 (by omega) (by omega) (by omega) ?_
      refine ev_iload_n dX10_isPhrase_21 rfl ?_
      refine ev_iload_n dX10_isPhrase_22 rfl ?_
      refine ev_S3 dX10_isPhrase_23 st_RX10_55 na_X10_in (Nat.le_of_ble_eq_true rfl) (Nat.le_of_ble_eq_true rfl) (hi1) ?_
      refine ev_istore dX10_isPhrase_26 (Nat.le_of_ble_eq_true rfl) ?_
      refine ev_iload dX10_isPhrase_28 rfl ?_
      refine ev_bipush dX10_isPhrase_30 bp8 ?_
      refine ev_iremN dX10_isPhrase_32 (by omega) (by omega) (by omega) ?_
      refine ev_iload_n dX10_isPhrase_33 rfl ?_
      refine ev_iload dX10_isPhrase_34 rfl ?_
      refine ev_S3 dX10_isPhrase_36 st_RX10_55 na_X10_in (Nat.le_of_ble_eq_true rfl) (Nat.le_of_ble_eq_true rfl) (hi2) ?_
      refine ev_istore dX10_isPhrase_39 (Nat.le_of_ble_eq_true rfl) ?_
      refine ev_iload dX10_isPhrase_41 rfl ?_
      refine ev_if_eqT (tgt := 67) dX10_isPhrase_43 (by decide) (by first | assumption | exact z_eq (by omega) | decide) ?_
      refine ev_iconst dX10_isPhrase_67 ci0 ?_
      refine ev_istore dX10_isPhrase_68 (Nat.le_of_ble_eq_true rfl) ?_
      refine ev_iload dX10_isPhrase_70 rfl ?_
      first | refine ev_aload_n dX10_isPhrase_72 rfl ?_ | refine ev_aload_nN dX10_isPhrase_72 rfl ?_
      refine ev_getfield dX10_isPhrase_73 fl_RX10_45 (by repeat (first | assumption | exact up_s | refine (up_n (by omega)).trans ?_)) rfl ?_
      refine ev_iload dX10_isPhrase_76 rfl ?_
      refine ev_bald dX10_isPhrase_78 (by repeat (first | assumption | exact up_s | refine (up_n (by omega)).trans ?_)) _ rfl (by omega) (by omega) ?_
      refine ev_if_eqF dX10_isPhrase_79 96 (by decide) (by first | assumption | exact nI_ne0 (by omega) (by omega) | decide) ?_
      refine ev_iload dX10_isPhrase_82 rfl ?_
      refine ev_if_eqF dX10_isPhrase_84 96 (by decide) (by first | assumption | exact nI_ne0 (by omega) (by omega) | decide) ?_
      refine ev_iload dX10_isPhrase_87 rfl ?_
      refine ev_if_eqT (tgt := 96) dX10_isPhrase_89 (by decide) (by first | assumption | exact z_eq (by omega) | decide) ?_
      refine ev_iconst dX10_isPhrase_96 ci0 ?_
      first | refine ev_iaddN dX10_isPhrase_97 ?_ | refine ev_iadd dX10_isPhrase_97 ?_
      refine ev_istore dX10_isPhrase_98 (Nat.le_of_ble_eq_true rfl) ?_
      refine ev_iincN (b := 1) dX10_isPhrase_100 rfl (Nat.le_of_ble_eq_true rfl) ?_
      refine ev_goto (tgt := 9) dX10_isPhrase_103 (by decide) ?_
      refine ev_sub ?_ (ih)
      repeat (first | exact trivial | refine ⟨rfl, ?_⟩)
    · rw [show (if (0 : Nat) = 1 ∧ (if (1 : Nat) = 1 ∧ (1 : Nat) ≠ 1 then 1 else 0) = 0 then 1 else 0) = 0 from by decide, show (if (1 : Nat) = 1 ∧ (1 : Nat) = 1 ∧ (1 : Nat) = 1 then 1 else 0) = 1 from by decide] at ih
      refine ev_iload dX10_isPhrase_9 rfl ?_
      refine ev_bipush dX10_isPhrase_11 bp64 ?_
      refine ev_icmp_geF dX10_isPhrase_13 106 (by decide) (by first | assumption | exact nI_ge (by omega) (by omega) | decide) ?_
      refine ev_iload dX10_isPhrase_16 rfl ?_
      refine ev_bipush dX10_isPhrase_18 bp8 ?_
      refine ev_idivN dX10_isPhrase_20 (by omega) (by omega) (by omega) ?_
      refine ev_iload_n dX10_isPhrase_21 rfl ?_
      refine ev_iload_n dX10_isPhrase_22 rfl ?_
      refine ev_S3 dX10_isPhrase_23 st_RX10_55 na_X10_in (Nat.le_of_ble_eq_true rfl) (Nat.le_of_ble_eq_true rfl) (hi1) ?_
      refine ev_istore dX10_isPhrase_26 (Nat.le_of_ble_eq_true rfl) ?_
      refine ev_iload dX10_isPhrase_28 rfl ?_
      refine ev_bipush dX10_isPhrase_30 bp8 ?_
      refine ev_iremN dX10_isPhrase_32 (by omega) (by omega) (by omega) ?_
      refine ev_iload_n dX10_isPhrase_33 rfl ?_
      refine ev_iload dX10_isPhrase_34 rfl ?_
      refine ev_S3 dX10_isPhrase_36 st_RX10_55 na_X10_in (Nat.le_of_ble_eq_true rfl) (Nat.le_of_ble_eq_true rfl) (hi2) ?_
      refine ev_istore dX10_isPhrase_39 (Nat.le_of_ble_eq_true rfl) ?_
      refine ev_iload dX10_isPhrase_41 rfl ?_
      refine ev_if_eqT (tgt := 67) dX10_isPhrase_43 (by decide) (by first | assumption | exact z_eq (by omega) | decide) ?_
      refine ev_iconst dX10_isPhrase_67 ci0 ?_
      refine ev_istore dX10_isPhrase_68 (Nat.le_of_ble_eq_true rfl) ?_
      refine ev_iload dX10_isPhrase_70 rfl ?_
      first | refine ev_aload_n dX10_isPhrase_72 rfl ?_ | refine ev_aload_nN dX10_isPhrase_72 rfl ?_
      refine ev_getfield dX10_isPhrase_73 fl_RX10_45 (by repeat (first | assumption | exact up_s | refine (up_n (by omega)).trans ?_)) rfl ?_
      refine ev_iload dX10_isPhrase_76 rfl ?_
      refine ev_bald dX10_isPhrase_78 (by repeat (first | assumption | exact up_s | refine (up_n (by omega)).trans ?_)) _ rfl (by omega) (by omega) ?_
      refine ev_if_eqF dX10_isPhrase_79 96 (by decide) (by first | assumption | exact nI_ne0 (by omega) (by omega) | decide) ?_
      refine ev_iload dX10_isPhrase_82 rfl ?_
      refine ev_if_eqF dX10_isPhrase_84 96 (by decide) (by first | assumption | exact nI_ne0 (by omega) (by omega) | decide) ?_
      refine ev_iload dX10_isPhrase_87 rfl ?_
      refine ev_if_eqF dX10_isPhrase_89 96 (by decide) (by first | assumption | exact nI_ne0 (by omega) (by omega) | decide) ?_
      refine ev_iconst dX10_isPhrase_92 ci1 ?_
      refine ev_goto (tgt := 97) dX10_isPhrase_93 (by decide) ?_
      first | refine ev_iaddN dX10_isPhrase_97 ?_ | refine ev_iadd dX10_isPhrase_97 ?_
      refine ev_istore dX10_isPhrase_98 (Nat.le_of_ble_eq_true rfl) ?_
      refine ev_iincN (b := 1) dX10_isPhrase_100 rfl (Nat.le_of_ble_eq_true rfl) ?_
      refine ev_goto (tgt := 9) dX10_isPhrase_103 (by decide) ?_
      refine ev_sub ?_ (ih)
      repeat (first | exact trivial | refine ⟨rfl, ?_⟩)
    · rw [show (if (1 : Nat) = 1 ∧ (if (0 : Nat) = 1 ∧ (0 : Nat) ≠ 0 then 1 else 0) = 0 then 1 else 0) = 1 from by decide, show (if (0 : Nat) = 1 ∧ (0 : Nat) = 1 ∧ (0 : Nat) = 1 then 1 else 0) = 0 from by decide] at ih
      refine ev_iload dX10_isPhrase_9 rfl ?_
      refine ev_bipush dX10_isPhrase_11 bp64 ?_
      refine ev_icmp_geF dX10_isPhrase_13 106 (by decide) (by first | assumption | exact nI_ge (by omega) (by omega) | decide) ?_
      refine ev_iload dX10_isPhrase_16 rfl ?_
      refine ev_bipush dX10_isPhrase_18 bp8 ?_
      refine ev_idivN dX10_isPhrase_20 (by omega) (by omega) (by omega) ?_
      refine ev_iload_n dX10_isPhrase_21 rfl ?_
      refine ev_iload_n dX10_isPhrase_22 rfl ?_
      refine ev_S3 dX10_isPhrase_23 st_RX10_55 na_X10_in (Nat.le_of_ble_eq_true rfl) (Nat.le_of_ble_eq_true rfl) (hi1) ?_
      refine ev_istore dX10_isPhrase_26 (Nat.le_of_ble_eq_true rfl) ?_
      refine ev_iload dX10_isPhrase_28 rfl ?_
      refine ev_bipush dX10_isPhrase_30 bp8 ?_
      refine ev_iremN dX10_isPhrase_32 (by omega) (by omega) (by omega) ?_
      refine ev_iload_n dX10_isPhrase_33 rfl ?_
      refine ev_iload dX10_isPhrase_34 rfl ?_
      refine ev_S3 dX10_isPhrase_36 st_RX10_55 na_X10_in (Nat.le_of_ble_eq_true rfl) (Nat.le_of_ble_eq_true rfl) (hi2) ?_
      refine ev_istore dX10_isPhrase_39 (Nat.le_of_ble_eq_true rfl) ?_
      refine ev_iload dX10_isPhrase_41 rfl ?_
      refine ev_if_eqF dX10_isPhrase_43 67 (by decide) (by first | assumption | exact nI_ne0 (by omega) (by omega) | decide) ?_
      first | refine ev_aload_n dX10_isPhrase_46 rfl ?_ | refine ev_aload_nN dX10_isPhrase_46 rfl ?_
      refine ev_getfield dX10_isPhrase_47 fl_RX10_45 (by repeat (first | assumption | exact up_s | refine (up_n (by omega)).trans ?_)) rfl ?_
      refine ev_iload dX10_isPhrase_50 rfl ?_
      refine ev_bald dX10_isPhrase_52 (by repeat (first | assumption | exact up_s | refine (up_n (by omega)).trans ?_)) _ rfl (by omega) (by omega) ?_
      refine ev_if_eqT (tgt := 63) dX10_isPhrase_53 (by decide) (by first | assumption | exact z_eq (by omega) | decide) ?_
      refine ev_iconst dX10_isPhrase_63 ci1 ?_
      refine ev_goto (tgt := 68) dX10_isPhrase_64 (by decide) ?_
      refine ev_istore dX10_isPhrase_68 (Nat.le_of_ble_eq_true rfl) ?_
      refine ev_iload dX10_isPhrase_70 rfl ?_
      first | refine ev_aload_n dX10_isPhrase_72 rfl ?_ | refine ev_aload_nN dX10_isPhrase_72 rfl ?_
      refine ev_getfield dX10_isPhrase_73 fl_RX10_45 (by repeat (first | assumption | exact up_s | refine (up_n (by omega)).trans ?_)) rfl ?_
      refine ev_iload dX10_isPhrase_76 rfl ?_
      refine ev_bald dX10_isPhrase_78 (by repeat (first | assumption | exact up_s | refine (up_n (by omega)).trans ?_)) _ rfl (by omega) (by omega) ?_
      refine ev_if_eqT (tgt := 96) dX10_isPhrase_79 (by decide) (by first | assumption | exact z_eq (by omega) | decide) ?_
      refine ev_iconst dX10_isPhrase_96 ci0 ?_
      first | refine ev_iaddN dX10_isPhrase_97 ?_ | refine ev_iadd dX10_isPhrase_97 ?_
      refine ev_istore dX10_isPhrase_98 (Nat.le_of_ble_eq_true rfl) ?_
      refine ev_iincN (b := 1) dX10_isPhrase_100 rfl (Nat.le_of_ble_eq_true rfl) ?_
      refine ev_goto (tgt := 9) dX10_isPhrase_103 (by decide) ?_
      refine ev_sub ?_ (ih)
      repeat (first | exact trivial | refine ⟨rfl, ?_⟩)
    · rw [show (if (1 : Nat) = 1 ∧ (if (0 : Nat) = 1 ∧ (0 : Nat) ≠ 1 then 1 else 0) = 0 then 1 else 0) = 1 from by decide, show (if (0 : Nat) = 1 ∧ (0 : Nat) = 1 ∧ (1 : Nat) = 1 then 1 else 0) = 0 from by decide] at ih
      refine ev_iload dX10_isPhrase_9 rfl ?_
      refine ev_bipush dX10_isPhrase_11 bp64 ?_
      refine ev_icmp_geF dX10_isPhrase_13 106 (by decide) (by first | assumption | exact nI_ge (by omega) (by omega) | decide) ?_
      refine ev_iload dX10_isPhrase_16 rfl ?_
      refine ev_bipush dX10_isPhrase_18 bp8 ?_
      refine ev_idivN dX10_isPhrase_20 (by omega) (by omega) (by omega) ?_
      refine ev_iload_n dX10_isPhrase_21 rfl ?_
      refine ev_iload_n dX10_isPhrase_22 rfl ?_
      refine ev_S3 dX10_isPhrase_23 st_RX10_55 na_X10_in (Nat.le_of_ble_eq_true rfl) (Nat.le_of_ble_eq_true rfl) (hi1) ?_
      refine ev_istore dX10_isPhrase_26 (Nat.le_of_ble_eq_true rfl) ?_
      refine ev_iload dX10_isPhrase_28 rfl ?_
      refine ev_bipush dX10_isPhrase_30 bp8 ?_
      refine ev_iremN dX10_isPhrase_32 (by omega) (by omega) (by omega) ?_
      refine ev_iload_n dX10_isPhrase_33 rfl ?_
      refine ev_iload dX10_isPhrase_34 rfl ?_
      refine ev_S3 dX10_isPhrase_36 st_RX10_55 na_X10_in (Nat.le_of_ble_eq_true rfl) (Nat.le_of_ble_eq_true rfl) (hi2) ?_
      refine ev_istore dX10_isPhrase_39 (Nat.le_of_ble_eq_true rfl) ?_
      refine ev_iload dX10_isPhrase_41 rfl ?_
      refine ev_if_eqF dX10_isPhrase_43 67 (by decide) (by first | assumption | exact nI_ne0 (by omega) (by omega) | decide) ?_
      first | refine ev_aload_n dX10_isPhrase_46 rfl ?_ | refine ev_aload_nN dX10_isPhrase_46 rfl ?_
      refine ev_getfield dX10_isPhrase_47 fl_RX10_45 (by repeat (first | assumption | exact up_s | refine (up_n (by omega)).trans ?_)) rfl ?_
      refine ev_iload dX10_isPhrase_50 rfl ?_
      refine ev_bald dX10_isPhrase_52 (by repeat (first | assumption | exact up_s | refine (up_n (by omega)).trans ?_)) _ rfl (by omega) (by omega) ?_
      refine ev_if_eqT (tgt := 63) dX10_isPhrase_53 (by decide) (by first | assumption | exact z_eq (by omega) | decide) ?_
      refine ev_iconst dX10_isPhrase_63 ci1 ?_
      refine ev_goto (tgt := 68) dX10_isPhrase_64 (by decide) ?_
      refine ev_istore dX10_isPhrase_68 (Nat.le_of_ble_eq_true rfl) ?_
      refine ev_iload dX10_isPhrase_70 rfl ?_
      first | refine ev_aload_n dX10_isPhrase_72 rfl ?_ | refine ev_aload_nN dX10_isPhrase_72 rfl ?_
      refine ev_getfield dX10_isPhrase_73 fl_RX10_45 (by repeat (first | assumption | exact up_s | refine (up_n (by omega)).trans ?_)) rfl ?_
      refine ev_iload dX10_isPhrase_76 rfl ?_
      refine ev_bald dX10_isPhrase_78 (by repeat (first | assumption | exact up_s | refine (up_n (by omega)).trans ?_)) _ rfl (by omega) (by omega) ?_
      refine ev_if_eqT (tgt := 96) dX10_isPhrase_79 (by decide) (by first | assumption | exact z_eq (by omega) | decide) ?_
      refine ev_iconst dX10_isPhrase_96 ci0 ?_
      first | refine ev_iaddN dX10_isPhrase_97 ?_ | refine ev_iadd dX10_isPhrase_97 ?_
      refine ev_istore dX10_isPhrase_98 (Nat.le_of_ble_eq_true rfl) ?_
      refine ev_iincN (b := 1) dX10_isPhrase_100 rfl (Nat.le_of_ble_eq_true rfl) ?_
      refine ev_goto (tgt := 9) dX10_isPhrase_103 (by decide) ?_
      refine ev_sub ?_ (ih)
      repeat (first | exact trivial | refine ⟨rfl, ?_⟩)
    · rw [show (if (1 : Nat) = 1 ∧ (if (0 : Nat) = 1 ∧ (1 : Nat) ≠ 0 then 1 else 0) = 0 then 1 else 0) = 1 from by decide, show (if (0 : Nat) = 1 ∧ (1 : Nat) = 1 ∧ (0 : Nat) = 1 then 1 else 0) = 0 from by decide] at ih
      refine ev_iload dX10_isPhrase_9 rfl ?_
      refine ev_bipush dX10_isPhrase_11 bp64 ?_
      refine ev_icmp_geF dX10_isPhrase_13 106 (by decide) (by first | assumption | exact nI_ge (by omega) (by omega) | decide) ?_
      refine ev_iload dX10_isPhrase_16 rfl ?_
      refine ev_bipush dX10_isPhrase_18 bp8 ?_
      refine ev_idivN dX10_isPhrase_20 (by omega) (by omega) (by omega) ?_
      refine ev_iload_n dX10_isPhrase_21 rfl ?_
      refine ev_iload_n dX10_isPhrase_22 rfl ?_
      refine ev_S3 dX10_isPhrase_23 st_RX10_55 na_X10_in (Nat.le_of_ble_eq_true rfl) (Nat.le_of_ble_eq_true rfl) (hi1) ?_
      refine ev_istore dX10_isPhrase_26 (Nat.le_of_ble_eq_true rfl) ?_
      refine ev_iload dX10_isPhrase_28 rfl ?_
      refine ev_bipush dX10_isPhrase_30 bp8 ?_
      refine ev_iremN dX10_isPhrase_32 (by omega) (by omega) (by omega) ?_
      refine ev_iload_n dX10_isPhrase_33 rfl ?_
      refine ev_iload dX10_isPhrase_34 rfl ?_
      refine ev_S3 dX10_isPhrase_36 st_RX10_55 na_X10_in (Nat.le_of_ble_eq_true rfl) (Nat.le_of_ble_eq_true rfl) (hi2) ?_
      refine ev_istore dX10_isPhrase_39 (Nat.le_of_ble_eq_true rfl) ?_
      refine ev_iload dX10_isPhrase_41 rfl ?_
      refine ev_if_eqF dX10_isPhrase_43 67 (by decide) (by first | assumption | exact nI_ne0 (by omega) (by omega) | decide) ?_
      first | refine ev_aload_n dX10_isPhrase_46 rfl ?_ | refine ev_aload_nN dX10_isPhrase_46 rfl ?_
      refine ev_getfield dX10_isPhrase_47 fl_RX10_45 (by repeat (first | assumption | exact up_s | refine (up_n (by omega)).trans ?_)) rfl ?_
      refine ev_iload dX10_isPhrase_50 rfl ?_
      refine ev_bald dX10_isPhrase_52 (by repeat (first | assumption | exact up_s | refine (up_n (by omega)).trans ?_)) _ rfl (by omega) (by omega) ?_
      refine ev_if_eqT (tgt := 63) dX10_isPhrase_53 (by decide) (by first | assumption | exact z_eq (by omega) | decide) ?_
      refine ev_iconst dX10_isPhrase_63 ci1 ?_
      refine ev_goto (tgt := 68) dX10_isPhrase_64 (by decide) ?_
      refine ev_istore dX10_isPhrase_68 (Nat.le_of_ble_eq_true rfl) ?_
      refine ev_iload dX10_isPhrase_70 rfl ?_
      first | refine ev_aload_n dX10_isPhrase_72 rfl ?_ | refine ev_aload_nN dX10_isPhrase_72 rfl ?_
      refine ev_getfield dX10_isPhrase_73 fl_RX10_45 (by repeat (first | assumption | exact up_s | refine (up_n (by omega)).trans ?_)) rfl ?_
      refine ev_iload dX10_isPhrase_76 rfl ?_
      refine ev_bald dX10_isPhrase_78 (by repeat (first | assumption | exact up_s | refine (up_n (by omega)).trans ?_)) _ rfl (by omega) (by omega) ?_
      refine ev_if_eqT (tgt := 96) dX10_isPhrase_79 (by decide) (by first | assumption | exact z_eq (by omega) | decide) ?_
      refine ev_iconst dX10_isPhrase_96 ci0 ?_
      first | refine ev_iaddN dX10_isPhrase_97 ?_ | refine ev_iadd dX10_isPhrase_97 ?_
      refine ev_istore dX10_isPhrase_98 (Nat.le_of_ble_eq_true rfl) ?_
      refine ev_iincN (b := 1) dX10_isPhrase_100 rfl (Nat.le_of_ble_eq_true rfl) ?_
      refine ev_goto (tgt := 9) dX10_isPhrase_103 (by decide) ?_
      refine ev_sub ?_ (ih)
      repeat (first | exact trivial | refine ⟨rfl, ?_⟩)
    · rw [show (if (1 : Nat) = 1 ∧ (if (0 : Nat) = 1 ∧ (1 : Nat) ≠ 1 then 1 else 0) = 0 then 1 else 0) = 1 from by decide, show (if (0 : Nat) = 1 ∧ (1 : Nat) = 1 ∧ (1 : Nat) = 1 then 1 else 0) = 0 from by decide] at ih
      refine ev_iload dX10_isPhrase_9 rfl ?_
      refine ev_bipush dX10_isPhrase_11 bp64 ?_
      refine ev_icmp_geF dX10_isPhrase_13 106 (by decide) (by first | assumption | exact nI_ge (by omega) (by omega) | decide) ?_
      refine ev_iload dX10_isPhrase_16 rfl ?_
      refine ev_bipush dX10_isPhrase_18 bp8 ?_
      refine ev_idivN dX10_isPhrase_20 (by omega) (by omega) (by omega) ?_
      refine ev_iload_n dX10_isPhrase_21 rfl ?_
      refine ev_iload_n dX10_isPhrase_22 rfl ?_
      refine ev_S3 dX10_isPhrase_23 st_RX10_55 na_X10_in (Nat.le_of_ble_eq_true rfl) (Nat.le_of_ble_eq_true rfl) (hi1) ?_
      refine ev_istore dX10_isPhrase_26 (Nat.le_of_ble_eq_true rfl) ?_
      refine ev_iload dX10_isPhrase_28 rfl ?_
      refine ev_bipush dX10_isPhrase_30 bp8 ?_
      refine ev_iremN dX10_isPhrase_32 (by omega) (by omega) (by omega) ?_
      refine ev_iload_n dX10_isPhrase_33 rfl ?_
      refine ev_iload dX10_isPhrase_34 rfl ?_
      refine ev_S3 dX10_isPhrase_36 st_RX10_55 na_X10_in (Nat.le_of_ble_eq_true rfl) (Nat.le_of_ble_eq_true rfl) (hi2) ?_
      refine ev_istore dX10_isPhrase_39 (Nat.le_of_ble_eq_true rfl) ?_
      refine ev_iload dX10_isPhrase_41 rfl ?_
      refine ev_if_eqF dX10_isPhrase_43 67 (by decide) (by first | assumption | exact nI_ne0 (by omega) (by omega) | decide) ?_
      first | refine ev_aload_n dX10_isPhrase_46 rfl ?_ | refine ev_aload_nN dX10_isPhrase_46 rfl ?_
      refine ev_getfield dX10_isPhrase_47 fl_RX10_45 (by repeat (first | assumption | exact up_s | refine (up_n (by omega)).trans ?_)) rfl ?_
      refine ev_iload dX10_isPhrase_50 rfl ?_
      refine ev_bald dX10_isPhrase_52 (by repeat (first | assumption | exact up_s | refine (up_n (by omega)).trans ?_)) _ rfl (by omega) (by omega) ?_
      refine ev_if_eqT (tgt := 63) dX10_isPhrase_53 (by decide) (by first | assumption | exact z_eq (by omega) | decide) ?_
      refine ev_iconst dX10_isPhrase_63 ci1 ?_
      refine ev_goto (tgt := 68) dX10_isPhrase_64 (by decide) ?_
      refine ev_istore dX10_isPhrase_68 (Nat.le_of_ble_eq_true rfl) ?_
      refine ev_iload dX10_isPhrase_70 rfl ?_
      first | refine ev_aload_n dX10_isPhrase_72 rfl ?_ | refine ev_aload_nN dX10_isPhrase_72 rfl ?_
      refine ev_getfield dX10_isPhrase_73 fl_RX10_45 (by repeat (first | assumption | exact up_s | refine (up_n (by omega)).trans ?_)) rfl ?_
      refine ev_iload dX10_isPhrase_76 rfl ?_
      refine ev_bald dX10_isPhrase_78 (by repeat (first | assumption | exact up_s | refine (up_n (by omega)).trans ?_)) _ rfl (by omega) (by omega) ?_
      refine ev_if_eqT (tgt := 96) dX10_isPhrase_79 (by decide) (by first | assumption | exact z_eq (by omega) | decide) ?_
      refine ev_iconst dX10_isPhrase_96 ci0 ?_
      first | refine ev_iaddN dX10_isPhrase_97 ?_ | refine ev_iadd dX10_isPhrase_97 ?_
      refine ev_istore dX10_isPhrase_98 (Nat.le_of_ble_eq_true rfl) ?_
      refine ev_iincN (b := 1) dX10_isPhrase_100 rfl (Nat.le_of_ble_eq_true rfl) ?_
      refine ev_goto (tgt := 9) dX10_isPhrase_103 (by decide) ?_
      refine ev_sub ?_ (ih)
      repeat (first | exact trivial | refine ⟨rfl, ?_⟩)
    · rw [show (if (1 : Nat) = 1 ∧ (if (1 : Nat) = 1 ∧ (0 : Nat) ≠ 0 then 1 else 0) = 0 then 1 else 0) = 1 from by decide, show (if (1 : Nat) = 1 ∧ (0 : Nat) = 1 ∧ (0 : Nat) = 1 then 1 else 0) = 0 from by decide] at ih
      refine ev_iload dX10_isPhrase_9 rfl ?_
      refine ev_bipush dX10_isPhrase_11 bp64 ?_
      refine ev_icmp_geF dX10_isPhrase_13 106 (by decide) (by first | assumption | exact nI_ge (by omega) (by omega) | decide) ?_
      refine ev_iload dX10_isPhrase_16 rfl ?_
      refine ev_bipush dX10_isPhrase_18 bp8 ?_
      refine ev_idivN dX10_isPhrase_20 (by omega) (by omega) (by omega) ?_
      refine ev_iload_n dX10_isPhrase_21 rfl ?_
      refine ev_iload_n dX10_isPhrase_22 rfl ?_
      refine ev_S3 dX10_isPhrase_23 st_RX10_55 na_X10_in (Nat.le_of_ble_eq_true rfl) (Nat.le_of_ble_eq_true rfl) (hi1) ?_
      refine ev_istore dX10_isPhrase_26 (Nat.le_of_ble_eq_true rfl) ?_
      refine ev_iload dX10_isPhrase_28 rfl ?_
      refine ev_bipush dX10_isPhrase_30 bp8 ?_
      refine ev_iremN dX10_isPhrase_32 (by omega) (by omega) (by omega) ?_
      refine ev_iload_n dX10_isPhrase_33 rfl ?_
      refine ev_iload dX10_isPhrase_34 rfl ?_
      refine ev_S3 dX10_isPhrase_36 st_RX10_55 na_X10_in (Nat.le_of_ble_eq_true rfl) (Nat.le_of_ble_eq_true rfl) (hi2) ?_
      refine ev_istore dX10_isPhrase_39 (Nat.le_of_ble_eq_true rfl) ?_
      refine ev_iload dX10_isPhrase_41 rfl ?_
      refine ev_if_eqF dX10_isPhrase_43 67 (by decide) (by first | assumption | exact nI_ne0 (by omega) (by omega) | decide) ?_
      first | refine ev_aload_n dX10_isPhrase_46 rfl ?_ | refine ev_aload_nN dX10_isPhrase_46 rfl ?_
      refine ev_getfield dX10_isPhrase_47 fl_RX10_45 (by repeat (first | assumption | exact up_s | refine (up_n (by omega)).trans ?_)) rfl ?_
      refine ev_iload dX10_isPhrase_50 rfl ?_
      refine ev_bald dX10_isPhrase_52 (by repeat (first | assumption | exact up_s | refine (up_n (by omega)).trans ?_)) _ rfl (by omega) (by omega) ?_
      refine ev_if_eqF dX10_isPhrase_53 63 (by decide) (by first | assumption | exact nI_ne0 (by omega) (by omega) | decide) ?_
      refine ev_iload dX10_isPhrase_56 rfl ?_
      refine ev_iload dX10_isPhrase_58 rfl ?_
      refine ev_icmp_neF dX10_isPhrase_60 67 (by decide) (by first | assumption | exact n_eq (by omega) | decide) ?_
      refine ev_iconst dX10_isPhrase_63 ci1 ?_
      refine ev_goto (tgt := 68) dX10_isPhrase_64 (by decide) ?_
      refine ev_istore dX10_isPhrase_68 (Nat.le_of_ble_eq_true rfl) ?_
      refine ev_iload dX10_isPhrase_70 rfl ?_
      first | refine ev_aload_n dX10_isPhrase_72 rfl ?_ | refine ev_aload_nN dX10_isPhrase_72 rfl ?_
      refine ev_getfield dX10_isPhrase_73 fl_RX10_45 (by repeat (first | assumption | exact up_s | refine (up_n (by omega)).trans ?_)) rfl ?_
      refine ev_iload dX10_isPhrase_76 rfl ?_
      refine ev_bald dX10_isPhrase_78 (by repeat (first | assumption | exact up_s | refine (up_n (by omega)).trans ?_)) _ rfl (by omega) (by omega) ?_
      refine ev_if_eqF dX10_isPhrase_79 96 (by decide) (by first | assumption | exact nI_ne0 (by omega) (by omega) | decide) ?_
      refine ev_iload dX10_isPhrase_82 rfl ?_
      refine ev_if_eqT (tgt := 96) dX10_isPhrase_84 (by decide) (by first | assumption | exact z_eq (by omega) | decide) ?_
      refine ev_iconst dX10_isPhrase_96 ci0 ?_
      first | refine ev_iaddN dX10_isPhrase_97 ?_ | refine ev_iadd dX10_isPhrase_97 ?_
      refine ev_istore dX10_isPhrase_98 (Nat.le_of_ble_eq_true rfl) ?_
      refine ev_iincN (b := 1) dX10_isPhrase_100 rfl (Nat.le_of_ble_eq_true rfl) ?_
      refine ev_goto (tgt := 9) dX10_isPhrase_103 (by decide) ?_
      refine ev_sub ?_ (ih)
      repeat (first | exact trivial | refine ⟨rfl, ?_⟩)
    · rw [show (if (1 : Nat) = 1 ∧ (if (1 : Nat) = 1 ∧ (0 : Nat) ≠ 1 then 1 else 0) = 0 then 1 else 0) = 0 from by decide, show (if (1 : Nat) = 1 ∧ (0 : Nat) = 1 ∧ (1 : Nat) = 1 then 1 else 0) = 0 from by decide] at ih
      refine ev_iload dX10_isPhrase_9 rfl ?_
      refine ev_bipush dX10_isPhrase_11 bp64 ?_
      refine ev_icmp_geF dX10_isPhrase_13 106 (by decide) (by first | assumption | exact nI_ge (by omega) (by omega) | decide) ?_
      refine ev_iload dX10_isPhrase_16 rfl ?_
      refine ev_bipush dX10_isPhrase_18 bp8 ?_
      refine ev_idivN dX10_isPhrase_20 (by omega) (by omega) (by omega) ?_
      refine ev_iload_n dX10_isPhrase_21 rfl ?_
      refine ev_iload_n dX10_isPhrase_22 rfl ?_
      refine ev_S3 dX10_isPhrase_23 st_RX10_55 na_X10_in (Nat.le_of_ble_eq_true rfl) (Nat.le_of_ble_eq_true rfl) (hi1) ?_
      refine ev_istore dX10_isPhrase_26 (Nat.le_of_ble_eq_true rfl) ?_
      refine ev_iload dX10_isPhrase_28 rfl ?_
      refine ev_bipush dX10_isPhrase_30 bp8 ?_
      refine ev_iremN dX10_isPhrase_32 (by omega) (by omega) (by omega) ?_
      refine ev_iload_n dX10_isPhrase_33 rfl ?_
      refine ev_iload dX10_isPhrase_34 rfl ?_
      refine ev_S3 dX10_isPhrase_36 st_RX10_55 na_X10_in (Nat.le_of_ble_eq_true rfl) (Nat.le_of_ble_eq_true rfl) (hi2) ?_
      refine ev_istore dX10_isPhrase_39 (Nat.le_of_ble_eq_true rfl) ?_
      refine ev_iload dX10_isPhrase_41 rfl ?_
      refine ev_if_eqF dX10_isPhrase_43 67 (by decide) (by first | assumption | exact nI_ne0 (by omega) (by omega) | decide) ?_
      first | refine ev_aload_n dX10_isPhrase_46 rfl ?_ | refine ev_aload_nN dX10_isPhrase_46 rfl ?_
      refine ev_getfield dX10_isPhrase_47 fl_RX10_45 (by repeat (first | assumption | exact up_s | refine (up_n (by omega)).trans ?_)) rfl ?_
      refine ev_iload dX10_isPhrase_50 rfl ?_
      refine ev_bald dX10_isPhrase_52 (by repeat (first | assumption | exact up_s | refine (up_n (by omega)).trans ?_)) _ rfl (by omega) (by omega) ?_
      refine ev_if_eqF dX10_isPhrase_53 63 (by decide) (by first | assumption | exact nI_ne0 (by omega) (by omega) | decide) ?_
      refine ev_iload dX10_isPhrase_56 rfl ?_
      refine ev_iload dX10_isPhrase_58 rfl ?_
      refine ev_icmp_neT (tgt := 67) dX10_isPhrase_60 (by decide) (by first | assumption | exact n_ne (by omega) (by omega) (by omega) | decide) ?_
      refine ev_iconst dX10_isPhrase_67 ci0 ?_
      refine ev_istore dX10_isPhrase_68 (Nat.le_of_ble_eq_true rfl) ?_
      refine ev_iload dX10_isPhrase_70 rfl ?_
      first | refine ev_aload_n dX10_isPhrase_72 rfl ?_ | refine ev_aload_nN dX10_isPhrase_72 rfl ?_
      refine ev_getfield dX10_isPhrase_73 fl_RX10_45 (by repeat (first | assumption | exact up_s | refine (up_n (by omega)).trans ?_)) rfl ?_
      refine ev_iload dX10_isPhrase_76 rfl ?_
      refine ev_bald dX10_isPhrase_78 (by repeat (first | assumption | exact up_s | refine (up_n (by omega)).trans ?_)) _ rfl (by omega) (by omega) ?_
      refine ev_if_eqF dX10_isPhrase_79 96 (by decide) (by first | assumption | exact nI_ne0 (by omega) (by omega) | decide) ?_
      refine ev_iload dX10_isPhrase_82 rfl ?_
      refine ev_if_eqT (tgt := 96) dX10_isPhrase_84 (by decide) (by first | assumption | exact z_eq (by omega) | decide) ?_
      refine ev_iconst dX10_isPhrase_96 ci0 ?_
      first | refine ev_iaddN dX10_isPhrase_97 ?_ | refine ev_iadd dX10_isPhrase_97 ?_
      refine ev_istore dX10_isPhrase_98 (Nat.le_of_ble_eq_true rfl) ?_
      refine ev_iincN (b := 1) dX10_isPhrase_100 rfl (Nat.le_of_ble_eq_true rfl) ?_
      refine ev_goto (tgt := 9) dX10_isPhrase_103 (by decide) ?_
      refine ev_sub ?_ (ih)
      repeat (first | exact trivial | refine ⟨rfl, ?_⟩)
    · rw [show (if (1 : Nat) = 1 ∧ (if (1 : Nat) = 1 ∧ (1 : Nat) ≠ 0 then 1 else 0) = 0 then 1 else 0) = 0 from by decide, show (if (1 : Nat) = 1 ∧ (1 : Nat) = 1 ∧ (0 : Nat) = 1 then 1 else 0) = 0 from by decide] at ih
      refine ev_iload dX10_isPhrase_9 rfl ?_
      refine ev_bipush dX10_isPhrase_11 bp64 ?_
      refine ev_icmp_geF dX10_isPhrase_13 106 (by decide) (by first | assumption | exact nI_ge (by omega) (by omega) | decide) ?_
      refine ev_iload dX10_isPhrase_16 rfl ?_
      refine ev_bipush dX10_isPhrase_18 bp8 ?_
      refine ev_idivN dX10_isPhrase_20 (by omega) (by omega) (by omega) ?_
      refine ev_iload_n dX10_isPhrase_21 rfl ?_
      refine ev_iload_n dX10_isPhrase_22 rfl ?_
      refine ev_S3 dX10_isPhrase_23 st_RX10_55 na_X10_in (Nat.le_of_ble_eq_true rfl) (Nat.le_of_ble_eq_true rfl) (hi1) ?_
      refine ev_istore dX10_isPhrase_26 (Nat.le_of_ble_eq_true rfl) ?_
      refine ev_iload dX10_isPhrase_28 rfl ?_
      refine ev_bipush dX10_isPhrase_30 bp8 ?_
      refine ev_iremN dX10_isPhrase_32 (by omega) (by omega) (by omega) ?_
      refine ev_iload_n dX10_isPhrase_33 rfl ?_
      refine ev_iload dX10_isPhrase_34 rfl ?_
      refine ev_S3 dX10_isPhrase_36 st_RX10_55 na_X10_in (Nat.le_of_ble_eq_true rfl) (Nat.le_of_ble_eq_true rfl) (hi2) ?_
      refine ev_istore dX10_isPhrase_39 (Nat.le_of_ble_eq_true rfl) ?_
      refine ev_iload dX10_isPhrase_41 rfl ?_
      refine ev_if_eqF dX10_isPhrase_43 67 (by decide) (by first | assumption | exact nI_ne0 (by omega) (by omega) | decide) ?_
      first | refine ev_aload_n dX10_isPhrase_46 rfl ?_ | refine ev_aload_nN dX10_isPhrase_46 rfl ?_
      refine ev_getfield dX10_isPhrase_47 fl_RX10_45 (by repeat (first | assumption | exact up_s | refine (up_n (by omega)).trans ?_)) rfl ?_
      refine ev_iload dX10_isPhrase_50 rfl ?_
      refine ev_bald dX10_isPhrase_52 (by repeat (first | assumption | exact up_s | refine (up_n (by omega)).trans ?_)) _ rfl (by omega) (by omega) ?_
      refine ev_if_eqF dX10_isPhrase_53 63 (by decide) (by first | assumption | exact nI_ne0 (by omega) (by omega) | decide) ?_
      refine ev_iload dX10_isPhrase_56 rfl ?_
      refine ev_iload dX10_isPhrase_58 rfl ?_
      refine ev_icmp_neT (tgt := 67) dX10_isPhrase_60 (by decide) (by first | assumption | exact n_ne (by omega) (by omega) (by omega) | decide) ?_
      refine ev_iconst dX10_isPhrase_67 ci0 ?_
      refine ev_istore dX10_isPhrase_68 (Nat.le_of_ble_eq_true rfl) ?_
      refine ev_iload dX10_isPhrase_70 rfl ?_
      first | refine ev_aload_n dX10_isPhrase_72 rfl ?_ | refine ev_aload_nN dX10_isPhrase_72 rfl ?_
      refine ev_getfield dX10_isPhrase_73 fl_RX10_45 (by repeat (first | assumption | exact up_s | refine (up_n (by omega)).trans ?_)) rfl ?_
      refine ev_iload dX10_isPhrase_76 rfl ?_
      refine ev_bald dX10_isPhrase_78 (by repeat (first | assumption | exact up_s | refine (up_n (by omega)).trans ?_)) _ rfl (by omega) (by omega) ?_
      refine ev_if_eqF dX10_isPhrase_79 96 (by decide) (by first | assumption | exact nI_ne0 (by omega) (by omega) | decide) ?_
      refine ev_iload dX10_isPhrase_82 rfl ?_
      refine ev_if_eqF dX10_isPhrase_84 96 (by decide) (by first | assumption | exact nI_ne0 (by omega) (by omega) | decide) ?_
      refine ev_iload dX10_isPhrase_87 rfl ?_
      refine ev_if_eqT (tgt := 96) dX10_isPhrase_89 (by decide) (by first | assumption | exact z_eq (by omega) | decide) ?_
      refine ev_iconst dX10_isPhrase_96 ci0 ?_
      first | refine ev_iaddN dX10_isPhrase_97 ?_ | refine ev_iadd dX10_isPhrase_97 ?_
      refine ev_istore dX10_isPhrase_98 (Nat.le_of_ble_eq_true rfl) ?_
      refine ev_iincN (b := 1) dX10_isPhrase_100 rfl (Nat.le_of_ble_eq_true rfl) ?_
      refine ev_goto (tgt := 9) dX10_isPhrase_103 (by decide) ?_
      refine ev_sub ?_ (ih)
      repeat (first | exact trivial | refine ⟨rfl, ?_⟩)
    · rw [show (if (1 : Nat) = 1 ∧ (if (1 : Nat) = 1 ∧ (1 : Nat) ≠ 1 then 1 else 0) = 0 then 1 else 0) = 1 from by decide, show (if (1 : Nat) = 1 ∧ (1 : Nat) = 1 ∧ (1 : Nat) = 1 then 1 else 0) = 1 from by decide] at ih
      refine ev_iload dX10_isPhrase_9 rfl ?_
      refine ev_bipush dX10_isPhrase_11 bp64 ?_
      refine ev_icmp_geF dX10_isPhrase_13 106 (by decide) (by first | assumption | exact nI_ge (by omega) (by omega) | decide) ?_
      refine ev_iload dX10_isPhrase_16 rfl ?_
      refine ev_bipush dX10_isPhrase_18 bp8 ?_
      refine ev_idivN dX10_isPhrase_20 (by omega) (by omega) (by omega) ?_
      refine ev_iload_n dX10_isPhrase_21 rfl ?_
      refine ev_iload_n dX10_isPhrase_22 rfl ?_
      refine ev_S3 dX10_isPhrase_23 st_RX10_55 na_X10_in (Nat.le_of_ble_eq_true rfl) (Nat.le_of_ble_eq_true rfl) (hi1) ?_
      refine ev_istore dX10_isPhrase_26 (Nat.le_of_ble_eq_true rfl) ?_
      refine ev_iload dX10_isPhrase_28 rfl ?_
      refine ev_bipush dX10_isPhrase_30 bp8 ?_
      refine ev_iremN dX10_isPhrase_32 (by omega) (by omega) (by omega) ?_
      refine ev_iload_n dX10_isPhrase_33 rfl ?_
      refine ev_iload dX10_isPhrase_34 rfl ?_
      refine ev_S3 dX10_isPhrase_36 st_RX10_55 na_X10_in (Nat.le_of_ble_eq_true rfl) (Nat.le_of_ble_eq_true rfl) (hi2) ?_
      refine ev_istore dX10_isPhrase_39 (Nat.le_of_ble_eq_true rfl) ?_
      refine ev_iload dX10_isPhrase_41 rfl ?_
      refine ev_if_eqF dX10_isPhrase_43 67 (by decide) (by first | assumption | exact nI_ne0 (by omega) (by omega) | decide) ?_
      first | refine ev_aload_n dX10_isPhrase_46 rfl ?_ | refine ev_aload_nN dX10_isPhrase_46 rfl ?_
      refine ev_getfield dX10_isPhrase_47 fl_RX10_45 (by repeat (first | assumption | exact up_s | refine (up_n (by omega)).trans ?_)) rfl ?_
      refine ev_iload dX10_isPhrase_50 rfl ?_
      refine ev_bald dX10_isPhrase_52 (by repeat (first | assumption | exact up_s | refine (up_n (by omega)).trans ?_)) _ rfl (by omega) (by omega) ?_
      refine ev_if_eqF dX10_isPhrase_53 63 (by decide) (by first | assumption | exact nI_ne0 (by omega) (by omega) | decide) ?_
      refine ev_iload dX10_isPhrase_56 rfl ?_
      refine ev_iload dX10_isPhrase_58 rfl ?_
      refine ev_icmp_neF dX10_isPhrase_60 67 (by decide) (by first | assumption | exact n_eq (by omega) | decide) ?_
      refine ev_iconst dX10_isPhrase_63 ci1 ?_
      refine ev_goto (tgt := 68) dX10_isPhrase_64 (by decide) ?_
      refine ev_istore dX10_isPhrase_68 (Nat.le_of_ble_eq_true rfl) ?_
      refine ev_iload dX10_isPhrase_70 rfl ?_
      first | refine ev_aload_n dX10_isPhrase_72 rfl ?_ | refine ev_aload_nN dX10_isPhrase_72 rfl ?_
      refine ev_getfield dX10_isPhrase_73 fl_RX10_45 (by repeat (first | assumption | exact up_s | refine (up_n (by omega)).trans ?_)) rfl ?_
      refine ev_iload dX10_isPhrase_76 rfl ?_
      refine ev_bald dX10_isPhrase_78 (by repeat (first | assumption | exact up_s | refine (up_n (by omega)).trans ?_)) _ rfl (by omega) (by omega) ?_
      refine ev_if_eqF dX10_isPhrase_79 96 (by decide) (by first | assumption | exact nI_ne0 (by omega) (by omega) | decide) ?_
      refine ev_iload dX10_isPhrase_82 rfl ?_
      refine ev_if_eqF dX10_isPhrase_84 96 (by decide) (by first | assumption | exact nI_ne0 (by omega) (by omega) | decide) ?_
      refine ev_iload dX10_isPhrase_87 rfl ?_
      refine ev_if_eqF dX10_isPhrase_89 96 (by decide) (by first | assumption | exact nI_ne0 (by omega) (by omega) | decide) ?_
      refine ev_iconst dX10_isPhrase_92 ci1 ?_
      refine ev_goto (tgt := 97) dX10_isPhrase_93 (by decide) ?_
      first | refine ev_iaddN dX10_isPhrase_97 ?_ | refine ev_iadd dX10_isPhrase_97 ?_
      refine ev_istore dX10_isPhrase_98 (Nat.le_of_ble_eq_true rfl) ?_
      refine ev_iincN (b := 1) dX10_isPhrase_100 rfl (Nat.le_of_ble_eq_true rfl) ?_
      refine ev_goto (tgt := 9) dX10_isPhrase_103 (by decide) ?_
      refine ev_sub ?_ (ih)
      repeat (first | exact trivial | refine ⟨rfl, ?_⟩)
theorem sumN_ex {f : Nat → Nat} : ∀ k, 0 < sumN f k → ∃ i, i < k ∧ 0 < f i
  | 0, h => absurd h (Nat.lt_irrefl 0)
  | k + 1, h => by
    have h : 0 < sumN f k + f k := h
    by_cases q : 0 < sumN f k
    · obtain ⟨i, h1, h2⟩ := sumN_ex k q
      exact ⟨i, by omega, h2⟩
    · exact ⟨k, by omega, by omega⟩
theorem bI_eq1 {p : Prop} [Decidable p] : bI p = 1 ↔ p := by unfold bI; split <;> simp_all
theorem badF_0 {a b c e k : Nat} : badF J a b c e k = 0 ↔ ((J (k / 8)).testBit (k % 8) = true → ((a ≤ k / 8 ∧ k / 8 ≤ b) ↔ (c ≤ k % 8 ∧ k % 8 ≤ e))) := by
  unfold badF
  by_cases p : (J (k / 8)).testBit (k % 8) = true
  · by_cases q1 : a ≤ k / 8 ∧ k / 8 ≤ b
    · by_cases q2 : c ≤ k % 8 ∧ k % 8 ≤ e
      · rw [bI_t q1, bI_t q2]
        exact ⟨fun _ _ => ⟨fun _ => q2, fun _ => q1⟩, fun _ => if_neg (fun z => z.2 rfl)⟩
      · rw [bI_t q1, bI_f q2, if_pos ⟨jm_1.mpr p, by decide⟩]
        exact ⟨fun z => absurd z (by decide), fun z => absurd ((z p).mp q1) q2⟩
    · by_cases q2 : c ≤ k % 8 ∧ k % 8 ≤ e
      · rw [bI_f q1, bI_t q2, if_pos ⟨jm_1.mpr p, by decide⟩]
        exact ⟨fun z => absurd z (by decide), fun z => absurd ((z p).mpr q2) q1⟩
      · rw [bI_f q1, bI_f q2]
        exact ⟨fun _ _ => ⟨fun z => absurd z q1, fun z => absurd z q2⟩, fun _ => if_neg (fun z => z.2 rfl)⟩
  · rw [if_neg (fun z => p (jm_1.mp z.1))]
    exact ⟨fun _ z => absurd z p, fun _ => rfl⟩
theorem not_bit {s j : Nat} (hs : s < 256) : (255 - s).testBit j = true ↔ j < 8 ∧ ¬ s.testBit j = true := by
  have e := Nat.testBit_two_pow_sub_succ (n := 8) (x := s) hs j
  rw [show 2 ^ 8 - (s + 1) = 255 - s by omega] at e
  rw [e, Bool.and_eq_true, decide_eq_true_eq]
  simp
theorem isPh_iff {l0 a b c e : Nat} (hJ : ∀ i, J i < 256) (hz : ∀ i, l0 ≤ i → J i = 0) (hl0 : l0 ≤ 8) (hc : c ≤ e) (he : e < 8) : (alF (badF J a b c e) 64 = 1 ∧ 0 < sumN (insF J a b c e) 64) ↔ isPh J l0 a b c e = true := by
  have hsp : spF c (e + 1 - c) < 256 := spF_lt (by omega)
  have sb : ∀ j, (spF c (e + 1 - c)).testBit j = true ↔ c ≤ j ∧ j ≤ e := fun j => by rw [spF_bit]; omega
  have hI := fun j => (ioF_bit (J := J) (a := a) (b := b) (j := j) l0).1
  have hO := fun j => (ioF_bit (J := J) (a := a) (b := b) (j := j) l0).2
  have hlt := (ioF_lt hJ a b l0).1
  have hx : ∀ x y, (J x).testBit y = true → x < l0 ∧ y < 8 := fun x y h => by
    refine ⟨Nat.lt_of_not_le fun z => ?_, Nat.lt_of_not_le fun z => ?_⟩
    · rw [hz x z, Nat.zero_testBit] at h; exact absurd h (by decide)
    · exact absurd (hJ x) (Nat.not_lt.mpr (Nat.le_trans (Nat.pow_le_pow_right (by decide) z : 2 ^ 8 ≤ 2 ^ y) (Nat.ge_two_pow_of_testBit h)))
  unfold isPh
  rw [decide_eq_true_eq, alF_iff]
  generalize spF c (e + 1 - c) = sp at hsp sb ⊢
  generalize (ioF J a b l0).1 = I at hI hlt ⊢
  generalize (ioF J a b l0).2 = O at hO ⊢
  constructor
  · rintro ⟨h1, h2⟩
    have good : ∀ x y, (J x).testBit y = true → ((a ≤ x ∧ x ≤ b) ↔ (c ≤ y ∧ y ≤ e)) := fun x y h => by
      obtain ⟨x1, y1⟩ := hx x y h
      have := badF_0.mp (h1 (8 * x + y) (by omega))
      rw [show (8 * x + y) / 8 = x by omega, show (8 * x + y) % 8 = y by omega] at this
      exact this h
    obtain ⟨k, k1, k2⟩ := sumN_ex 64 h2
    have hk : jm J k = 1 ∧ bI (a ≤ k / 8 ∧ k / 8 ≤ b) = 1 ∧ bI (c ≤ k % 8 ∧ k % 8 ≤ e) = 1 := by
      refine Classical.byContradiction fun z => ?_
      unfold insF at k2
      rw [if_neg z] at k2
      exact absurd k2 (Nat.lt_irrefl 0)
    obtain ⟨k3, k4, k5⟩ := hk
    rw [jm_1] at k3
    rw [bI_eq1] at k4 k5
    refine ⟨fun z => ?_, bits_0 fun j hj => ?_, bits_0 fun j hj => ?_⟩
    · have hb := (hI (k % 8)).mpr ⟨k / 8, (hx _ _ k3).1, k4, k3⟩
      rw [z, Nat.zero_testBit] at hb
      exact absurd hb (by decide)
    · rw [Nat.testBit_and, Bool.and_eq_true, not_bit hsp, hI, sb] at hj
      obtain ⟨⟨i, i1, i2, i3⟩, j1, j2⟩ := hj
      exact j2 ((good i j i3).mp i2)
    · rw [Nat.testBit_and, Bool.and_eq_true, hO, sb] at hj
      obtain ⟨⟨i, i1, i2, i3⟩, j2⟩ := hj
      exact i2 ((good i j i3).mpr j2)
  · rintro ⟨h1, h2, h3⟩
    have in1 : ∀ j, I.testBit j = true → c ≤ j ∧ j ≤ e := fun j hj => by
      refine (sb j).mp (Classical.byContradiction fun z => ?_)
      obtain ⟨i, i1, i2, i3⟩ := (hI j).mp hj
      have hb : (I &&& (255 - sp)).testBit j = true := by
        rw [Nat.testBit_and, Bool.and_eq_true, not_bit hsp]
        exact ⟨hj, (hx i j i3).2, z⟩
      rw [h2, Nat.zero_testBit] at hb
      exact absurd hb (by decide)
    have out1 : ∀ j, O.testBit j = true → ¬ (c ≤ j ∧ j ≤ e) := fun j hj z => by
      have hb : (O &&& sp).testBit j = true := by
        rw [Nat.testBit_and, Bool.and_eq_true]
        exact ⟨hj, (sb j).mpr z⟩
      rw [h3, Nat.zero_testBit] at hb
      exact absurd hb (by decide)
    refine ⟨fun k hk => badF_0.mpr fun h => ?_, ?_⟩
    · obtain ⟨x1, y1⟩ := hx _ _ h
      by_cases z : a ≤ k / 8 ∧ k / 8 ≤ b
      · exact ⟨fun _ => in1 _ ((hI _).mpr ⟨_, x1, z, h⟩), fun _ => z⟩
      · exact ⟨fun y => absurd y z, fun y => absurd y (out1 _ ((hO _).mpr ⟨_, x1, z, h⟩))⟩
    · have hex : ∃ j, I.testBit j = true := Classical.byContradiction fun z => h1 (bits_0 fun j hj => z ⟨j, hj⟩)
      obtain ⟨j, hj⟩ := hex
      obtain ⟨i, i1, i2, i3⟩ := (hI j).mp hj
      obtain ⟨x1, y1⟩ := hx i j i3
      refine sumN_pos (i := 8 * i + j) 64 (by omega) ?_
      have e1 : jm J (8 * i + j) = 1 := by rw [jm_at y1, if_pos i3]
      unfold insF
      rw [show (8 * i + j) / 8 = i by omega, show (8 * i + j) % 8 = j by omega, if_pos ⟨e1, bI_t i2, bI_t (in1 j hj)⟩]
      decide
theorem mm_isPhrase {l0 : Nat} (hJ : ∀ i, J i < 256) (hz : ∀ i, l0 ≤ i → J i = 0) (hl0 : l0 ≤ 8) (g31 : h 31 = MO made F th) (g43 : h 43 = aZ 64 (cut J R)) {a b c e : Nat} (ha : a < 8) (hb : b < 8) (hc : c ≤ e) (he : e < 8) : Ev (d + 1) MX10_isPhrase 0 (lv_args 0 [.ref 31, .int (nI a), .int (nI b), .int (nI c), .int (nI e)]) [] n h (.inl (some (.int (nI (bI (isPh J l0 a b c e = true))))), n, h, 0, 0) := by
  have e9 : bI (isPh J l0 a b c e = true) = bI (alF (badF J a b c e) 64 = 1 ∧ 0 < sumN (insF J a b c e) 64) := by
    by_cases z : isPh J l0 a b c e = true
    · rw [bI_t z, bI_t ((isPh_iff hJ hz hl0 hc he).mpr z)]
    · rw [bI_f z, bI_f (fun y => z ((isPh_iff hJ hz hl0 hc he).mp y))]
  rw [e9]
  refine ev_iconst dX10_isPhrase_0 ci1 ?_
  refine ev_istore dX10_isPhrase_1 (Nat.le_of_ble_eq_true rfl) ?_
  refine ev_iconst dX10_isPhrase_3 ci0 ?_
  refine ev_istore dX10_isPhrase_4 (Nat.le_of_ble_eq_true rfl) ?_
  refine ev_iconst dX10_isPhrase_6 ci0 ?_
  refine ev_istore dX10_isPhrase_7 (Nat.le_of_ble_eq_true rfl) ?_
  refine ev_sub ?_ (lm_ip g31 g43 ha hb (by omega) he 64 0 (by omega))
  repeat (first | exact trivial | refine ⟨rfl, ?_⟩)
end MI
