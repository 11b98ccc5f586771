/-! the model finds what is joined: beside, free -/
abbrev besD (J : Nat → Nat) (k c : Nat) : Prop := c ≠ k ∧ jm J c = 1 ∧ btw (c / 8) (k / 8) < 2 ∧ btw (c % 8) (k % 8) < 2
def besF (J : Nat → Nat) (k : Nat) : Nat → Nat
  | 0 => 0
  | c + 1 => if besF J k c = 1 then 1 else if besD J k c then 1 else 0
theorem besF_01 (J : Nat → Nat) (k : Nat) : ∀ c, besF J k c = 0 ∨ besF J k c = 1
  | 0 => Or.inl rfl
  | c + 1 => by
    unfold besF
    split
    · exact Or.inr rfl
    · split
      · exact Or.inr rfl
      · exact Or.inl rfl
theorem besF_iff (J : Nat → Nat) (k : Nat) : ∀ n, besF J k n = 1 ↔ ∃ c, c < n ∧ besP J k c
  | 0 => ⟨fun c => absurd c (show ¬ (0 : Nat) = 1 by decide), fun ⟨c, q, _⟩ => absurd q (Nat.not_lt_zero _)⟩
  | n + 1 => by
    have ih := besF_iff J k n
    unfold besF
    by_cases q : besF J k n = 1
    · rw [if_pos q]
      obtain ⟨c, c1, c2⟩ := ih.mp q
      exact ⟨fun _ => ⟨c, by omega, c2⟩, fun _ => rfl⟩
    · rw [if_neg q]
      by_cases q2 : besD J k n
      · rw [if_pos q2]
        exact ⟨fun _ => ⟨n, by omega, q2⟩, fun _ => rfl⟩
      · rw [if_neg q2]
        refine ⟨fun c => absurd c (by decide), fun ⟨c, c1, c2⟩ => ?_⟩
        by_cases e : c = n
        · subst e; exact absurd c2 q2
        · exact absurd (ih.mpr ⟨c, by omega, c2⟩) q
def alF (f : Nat → Nat) : Nat → Nat
  | 0 => 1
  | n + 1 => if alF f n = 1 ∧ f n = 0 then 1 else 0
theorem alF_01 (f : Nat → Nat) : ∀ n, alF f n = 0 ∨ alF f n = 1
  | 0 => Or.inr rfl
  | n + 1 => by
    unfold alF
    split
    · exact Or.inr rfl
    · exact Or.inl rfl
theorem alF_iff (f : Nat → Nat) : ∀ n, alF f n = 1 ↔ ∀ x, x < n → f x = 0
  | 0 => ⟨fun _ x q => absurd q (Nat.not_lt_zero _), fun _ => rfl⟩
  | n + 1 => by
    have ih := alF_iff f n
    unfold alF
    constructor
    · intro c x hx
      split at c
      · next q =>
        by_cases e : x = n
        · subst e; exact q.2
        · exact ih.mp q.1 x (by omega)
      · exact absurd c (by decide)
    · intro c
      rw [if_pos ⟨ih.mpr fun x hx => c x (by omega), c n (by omega)⟩]
section MF
variable {d n : Nat} {h h' : Hp} {made th : Nat} {F : Nat → Nat} {J R : Nat → Nat}
theorem cut_lt {c : Nat} (hc : c < 64) : cut J R c = jm J c := if_pos hc
theorem lm_be (g31 : h 31 = MO made F th) (g43 : h 43 = aZ 64 (cut J R)) {k : Nat} (hk : k < 64) : ∀ m c, c + m = 64 → Ev (d + 1) MX10_isBeside 4 [(0, .ref 31), (1, .int (nI k)), (2, .int (nI (besF J k c))), (3, .int (nI c))] [] n h (.inl (some (.int (nI (besF J k 64)))), n, h, 0, 0) := by
  intro m
  induction m with
  | zero =>
    intro c hc
    have e : c = 64 := by omega
    subst e
    refine ev_iload_n dX10_isBeside_4 rfl ?_
    refine ev_bipush dX10_isBeside_5 bp64 ?_
    refine ev_icmp_geT (tgt := 70) dX10_isBeside_7 (by decide) (by first | assumption | exact nI_le (by omega) (by omega) | decide) ?_
    refine ev_iload_n dX10_isBeside_70 rfl ?_
    exact ev_zreturnE dX10_isBeside_71 rfl (z01 (besF_01 J k 64)) rfl
  | succ m ih =>
    intro c hc
    have ih := ih (c + 1) (by omega)
    have ec := cut_lt (J := J) (R := R) (show c < 64 by omega)
    have j01 := jm_01 J c
    have b01 := besF_01 J k c
    by_cases q0 : besF J k c = 1
    · rw [show besF J k (c + 1) = 1 from if_pos q0] at ih
      refine ev_iload_n dX10_isBeside_4 rfl ?_
      refine ev_bipush dX10_isBeside_5 bp64 ?_
      refine ev_icmp_geF dX10_isBeside_7 70 (by decide) (by first | assumption | exact nI_ge (by omega) (by omega) | decide) ?_
      refine ev_iload_n dX10_isBeside_10 rfl ?_
      refine ev_if_neT (tgt := 58) dX10_isBeside_11 (by decide) (by first | assumption | exact nI_ne0 (by omega) (by omega) | decide) ?_
      refine ev_iconst dX10_isBeside_58 ci1 ?_
      refine ev_goto (tgt := 63) dX10_isBeside_59 (by decide) ?_
      refine ev_istore_n dX10_isBeside_63 (Nat.le_of_ble_eq_true rfl) ?_
      refine ev_iincN (b := 1) dX10_isBeside_64 rfl (Nat.le_of_ble_eq_true rfl) ?_
      refine ev_goto (tgt := 4) dX10_isBeside_67 (by decide) ?_
      refine ev_sub ?_ (ih)
      repeat (first | exact trivial | refine ⟨rfl, ?_⟩)
    · have ex : besF J k (c + 1) = if besD J k c then 1 else 0 := if_neg q0
      by_cases q1 : c = k
      · rw [ex, if_neg (fun z => z.1 q1)] at ih
        refine ev_iload_n dX10_isBeside_4 rfl ?_
        refine ev_bipush dX10_isBeside_5 bp64 ?_
        refine ev_icmp_geF dX10_isBeside_7 70 (by decide) (by first | assumption | exact nI_ge (by omega) (by omega) | decide) ?_
        refine ev_iload_n dX10_isBeside_10 rfl ?_
        refine ev_if_neF dX10_isBeside_11 58 (by decide) (by first | assumption | exact z_eq (by omega) | decide) ?_
        refine ev_iload_n dX10_isBeside_14 rfl ?_
        refine ev_iload_n dX10_isBeside_15 rfl ?_
        refine ev_icmp_eqT (tgt := 62) dX10_isBeside_16 (by decide) (by first | assumption | exact n_eq (by omega) | decide) ?_
        refine ev_iconst dX10_isBeside_62 ci0 ?_
        refine ev_istore_n dX10_isBeside_63 (Nat.le_of_ble_eq_true rfl) ?_
        refine ev_iincN (b := 1) dX10_isBeside_64 rfl (Nat.le_of_ble_eq_true rfl) ?_
        refine ev_goto (tgt := 4) dX10_isBeside_67 (by decide) ?_
        refine ev_sub ?_ (ih)
        repeat (first | exact trivial | refine ⟨rfl, ?_⟩)
      · by_cases q2 : jm J c = 1
        · have hb1 : btw (c / 8) (k / 8) < 64 := by unfold btw; split <;> omega
          have hb2 : btw (c % 8) (k % 8) < 64 := by unfold btw; split <;> omega
          by_cases q3 : btw (c / 8) (k / 8) < 2
          · by_cases q4 : btw (c % 8) (k % 8) < 2
            · rw [ex, if_pos ⟨q1, q2, q3, q4⟩] at ih
              refine ev_iload_n dX10_isBeside_4 rfl ?_
              refine ev_bipush dX10_isBeside_5 bp64 ?_
              refine ev_icmp_geF dX10_isBeside_7 70 (by decide) (by first | assumption | exact nI_ge (by omega) (by omega) | decide) ?_
              refine ev_iload_n dX10_isBeside_10 rfl ?_
              refine ev_if_neF dX10_isBeside_11 58 (by decide) (by first | assumption | exact z_eq (by omega) | decide) ?_
              refine ev_iload_n dX10_isBeside_14 rfl ?_
              refine ev_iload_n dX10_isBeside_15 rfl ?_
              refine ev_icmp_eqF dX10_isBeside_16 62 (by decide) (by first | assumption | exact n_ne (by omega) (by omega) (by omega) | decide) ?_
              first | refine ev_aload_n dX10_isBeside_19 rfl ?_ | refine ev_aload_nN dX10_isBeside_19 rfl ?_
              refine ev_getfield dX10_isBeside_20 fl_RX10_45 (by repeat (first | assumption | exact up_s | refine (up_n (by omega)).trans ?_)) rfl ?_
              refine ev_iload_n dX10_isBeside_23 rfl ?_
              refine ev_bald dX10_isBeside_24 (by repeat (first | assumption | exact up_s | refine (up_n (by omega)).trans ?_)) _ rfl (by omega) (by omega) ?_
              refine ev_if_eqF dX10_isBeside_25 62 (by decide) (by first | assumption | exact nI_ne0 (by omega) (by omega) | decide) ?_
              refine ev_iload_n dX10_isBeside_28 rfl ?_
              refine ev_bipush dX10_isBeside_29 bp8 ?_
              refine ev_idivN dX10_isBeside_31 (by omega) (by omega) (by omega) ?_
              refine ev_iload_n dX10_isBeside_32 rfl ?_
              refine ev_bipush dX10_isBeside_33 bp8 ?_
              refine ev_idivN dX10_isBeside_35 (by omega) (by omega) (by omega) ?_
              refine ev_S2 dX10_isBeside_36 st_RX10_107 na_X10_between (Nat.le_of_ble_eq_true rfl) (Nat.le_of_ble_eq_true rfl) (mm_between (show c / 8 < 2 ^ 31 by omega) (show k / 8 < 2 ^ 31 by omega)) ?_
              refine ev_iconst dX10_isBeside_39 ci2 ?_
              refine ev_icmp_geF dX10_isBeside_40 62 (by decide) (by first | assumption | exact nI_ge (by omega) (by omega) | decide) ?_
              refine ev_iload_n dX10_isBeside_43 rfl ?_
              refine ev_bipush dX10_isBeside_44 bp8 ?_
              refine ev_iremN dX10_isBeside_46 (by omega) (by omega) (by omega) ?_
              refine ev_iload_n dX10_isBeside_47 rfl ?_
              refine ev_bipush dX10_isBeside_48 bp8 ?_
              refine ev_iremN dX10_isBeside_50 (by omega) (by omega) (by omega) ?_
              refine ev_S2 dX10_isBeside_51 st_RX10_107 na_X10_between (Nat.le_of_ble_eq_true rfl) (Nat.le_of_ble_eq_true rfl) (mm_between (show c % 8 < 2 ^ 31 by omega) (show k % 8 < 2 ^ 31 by omega)) ?_
              refine ev_iconst dX10_isBeside_54 ci2 ?_
              refine ev_icmp_geF dX10_isBeside_55 62 (by decide) (by first | assumption | exact nI_ge (by omega) (by omega) | decide) ?_
              refine ev_iconst dX10_isBeside_58 ci1 ?_
              refine ev_goto (tgt := 63) dX10_isBeside_59 (by decide) ?_
              refine ev_istore_n dX10_isBeside_63 (Nat.le_of_ble_eq_true rfl) ?_
              refine ev_iincN (b := 1) dX10_isBeside_64 rfl (Nat.le_of_ble_eq_true rfl) ?_
              refine ev_goto (tgt := 4) dX10_isBeside_67 (by decide) ?_
              refine ev_sub ?_ (ih)
              repeat (first | exact trivial | refine ⟨rfl, ?_⟩)
            · rw [ex, if_neg (fun z => q4 z.2.2.2)] at ih
              refine ev_iload_n dX10_isBeside_4 rfl ?_
              refine ev_bipush dX10_isBeside_5 bp64 ?_
              refine ev_icmp_geF dX10_isBeside_7 70 (by decide) (by first | assumption | exact nI_ge (by omega) (by omega) | decide) ?_
              refine ev_iload_n dX10_isBeside_10 rfl ?_
              refine ev_if_neF dX10_isBeside_11 58 (by decide) (by first | assumption | exact z_eq (by omega) | decide) ?_
              refine ev_iload_n dX10_isBeside_14 rfl ?_
              refine ev_iload_n dX10_isBeside_15 rfl ?_
              refine ev_icmp_eqF dX10_isBeside_16 62 (by decide) (by first | assumption | exact n_ne (by omega) (by omega) (by omega) | decide) ?_
              first | refine ev_aload_n dX10_isBeside_19 rfl ?_ | refine ev_aload_nN dX10_isBeside_19 rfl ?_
              refine ev_getfield dX10_isBeside_20 fl_RX10_45 (by repeat (first | assumption | exact up_s | refine (up_n (by omega)).trans ?_)) rfl ?_
              refine ev_iload_n dX10_isBeside_23 rfl ?_
              refine ev_bald dX10_isBeside_24 (by repeat (first | assumption | exact up_s | refine (up_n (by omega)).trans ?_)) _ rfl (by omega) (by omega) ?_
              refine ev_if_eqF dX10_isBeside_25 62 (by decide) (by first | assumption | exact nI_ne0 (by omega) (by omega) | decide) ?_
              refine ev_iload_n dX10_isBeside_28 rfl ?_
              refine ev_bipush dX10_isBeside_29 bp8 ?_
              refine ev_idivN dX10_isBeside_31 (by omega) (by omega) (by omega) ?_
              refine ev_iload_n dX10_isBeside_32 rfl ?_
              refine ev_bipush dX10_isBeside_33 bp8 ?_
              refine ev_idivN dX10_isBeside_35 (by omega) (by omega) (by omega) ?_
              refine ev_S2 dX10_isBeside_36 st_RX10_107 na_X10_between (Nat.le_of_ble_eq_true rfl) (Nat.le_of_ble_eq_true rfl) (mm_between (show c / 8 < 2 ^ 31 by omega) (show k / 8 < 2 ^ 31 by omega)) ?_
              refine ev_iconst dX10_isBeside_39 ci2 ?_
              refine ev_icmp_geF dX10_isBeside_40 62 (by decide) (by first | assumption | exact nI_ge (by omega) (by omega) | decide) ?_
              refine ev_iload_n dX10_isBeside_43 rfl ?_
              refine ev_bipush dX10_isBeside_44 bp8 ?_
              refine ev_iremN dX10_isBeside_46 (by omega) (by omega) (by omega) ?_
              refine ev_iload_n dX10_isBeside_47 rfl ?_
              refine ev_bipush dX10_isBeside_48 bp8 ?_
              refine ev_iremN dX10_isBeside_50 (by omega) (by omega) (by omega) ?_
              refine ev_S2 dX10_isBeside_51 st_RX10_107 na_X10_between (Nat.le_of_ble_eq_true rfl) (Nat.le_of_ble_eq_true rfl) (mm_between (show c % 8 < 2 ^ 31 by omega) (show k % 8 < 2 ^ 31 by omega)) ?_
              refine ev_iconst dX10_isBeside_54 ci2 ?_
              refine ev_icmp_geT (tgt := 62) dX10_isBeside_55 (by decide) (by first | assumption | exact nI_le (by omega) (by omega) | decide) ?_
              refine ev_iconst dX10_isBeside_62 ci0 ?_
              refine ev_istore_n dX10_isBeside_63 (Nat.le_of_ble_eq_true rfl) ?_
              refine ev_iincN (b := 1) dX10_isBeside_64 rfl (Nat.le_of_ble_eq_true rfl) ?_
              refine ev_goto (tgt := 4) dX10_isBeside_67 (by decide) ?_
              refine ev_sub ?_ (ih)
              repeat (first | exact trivial | refine ⟨rfl, ?_⟩)
          · rw [ex, if_neg (fun z => q3 z.2.2.1)] at ih
            refine ev_iload_n dX10_isBeside_4 rfl ?_
            refine ev_bipush dX10_isBeside_5 bp64 ?_
            refine ev_icmp_geF dX10_isBeside_7 70 (by decide) (by first | assumption | exact nI_ge (by omega) (by omega) | decide) ?_
            refine ev_iload_n dX10_isBeside_10 rfl ?_
            refine ev_if_neF dX10_isBeside_11 58 (by decide) (by first | assumption | exact z_eq (by omega) | decide) ?_
            refine ev_iload_n dX10_isBeside_14 rfl ?_
            refine ev_iload_n dX10_isBeside_15 rfl ?_
            refine ev_icmp_eqF dX10_isBeside_16 62 (by decide) (by first | assumption | exact n_ne (by omega) (by omega) (by omega) | decide) ?_
            first | refine ev_aload_n dX10_isBeside_19 rfl ?_ | refine ev_aload_nN dX10_isBeside_19 rfl ?_
            refine ev_getfield dX10_isBeside_20 fl_RX10_45 (by repeat (first | assumption | exact up_s | refine (up_n (by omega)).trans ?_)) rfl ?_
            refine ev_iload_n dX10_isBeside_23 rfl ?_
            refine ev_bald dX10_isBeside_24 (by repeat (first | assumption | exact up_s | refine (up_n (by omega)).trans ?_)) _ rfl (by omega) (by omega) ?_
            refine ev_if_eqF dX10_isBeside_25 62 (by decide) (by first | assumption | exact nI_ne0 (by omega) (by omega) | decide) ?_
            refine ev_iload_n dX10_isBeside_28 rfl ?_
            refine ev_bipush dX10_isBeside_29 bp8 ?_
            refine ev_idivN dX10_isBeside_31 (by omega) (by omega) (by omega) ?_
            refine ev_iload_n dX10_isBeside_32 rfl ?_
            refine ev_bipush dX10_isBeside_33 bp8 ?_
            refine ev_idivN dX10_isBeside_35 (by omega) (by omega) (by omega) ?_
            refine ev_S2 dX10_isBeside_36 st_RX10_107 na_X10_between (Nat.le_of_ble_eq_true rfl) (Nat.le_of_ble_eq_true rfl) (mm_between (show c / 8 < 2 ^ 31 by omega) (show k / 8 < 2 ^ 31 by omega)) ?_
            refine ev_iconst dX10_isBeside_39 ci2 ?_
            refine ev_icmp_geT (tgt := 62) dX10_isBeside_40 (by decide) (by first | assumption | exact nI_le (by omega) (by omega) | decide) ?_
            refine ev_iconst dX10_isBeside_62 ci0 ?_
            refine ev_istore_n dX10_isBeside_63 (Nat.le_of_ble_eq_true rfl) ?_
            refine ev_iincN (b := 1) dX10_isBeside_64 rfl (Nat.le_of_ble_eq_true rfl) ?_
            refine ev_goto (tgt := 4) dX10_isBeside_67 (by decide) ?_
            refine ev_sub ?_ (ih)
            repeat (first | exact trivial | refine ⟨rfl, ?_⟩)
        · rw [ex, if_neg (fun z => q2 z.2.1)] at ih
          refine ev_iload_n dX10_isBeside_4 rfl ?_
          refine ev_bipush dX10_isBeside_5 bp64 ?_
          refine ev_icmp_geF dX10_isBeside_7 70 (by decide) (by first | assumption | exact nI_ge (by omega) (by omega) | decide) ?_
          refine ev_iload_n dX10_isBeside_10 rfl ?_
          refine ev_if_neF dX10_isBeside_11 58 (by decide) (by first | assumption | exact z_eq (by omega) | decide) ?_
          refine ev_iload_n dX10_isBeside_14 rfl ?_
          refine ev_iload_n dX10_isBeside_15 rfl ?_
          refine ev_icmp_eqF dX10_isBeside_16 62 (by decide) (by first | assumption | exact n_ne (by omega) (by omega) (by omega) | decide) ?_
          first | refine ev_aload_n dX10_isBeside_19 rfl ?_ | refine ev_aload_nN dX10_isBeside_19 rfl ?_
          refine ev_getfield dX10_isBeside_20 fl_RX10_45 (by repeat (first | assumption | exact up_s | refine (up_n (by omega)).trans ?_)) rfl ?_
          refine ev_iload_n dX10_isBeside_23 rfl ?_
          refine ev_bald dX10_isBeside_24 (by repeat (first | assumption | exact up_s | refine (up_n (by omega)).trans ?_)) _ rfl (by omega) (by omega) ?_
          refine ev_if_eqT (tgt := 62) dX10_isBeside_25 (by decide) (by first | assumption | exact z_eq (by omega) | decide) ?_
          refine ev_iconst dX10_isBeside_62 ci0 ?_
          refine ev_istore_n dX10_isBeside_63 (Nat.le_of_ble_eq_true rfl) ?_
          refine ev_iincN (b := 1) dX10_isBeside_64 rfl (Nat.le_of_ble_eq_true rfl) ?_
          refine ev_goto (tgt := 4) dX10_isBeside_67 (by decide) ?_
          refine ev_sub ?_ (ih)
          repeat (first | exact trivial | refine ⟨rfl, ?_⟩)
theorem mm_isBeside (g31 : h 31 = MO made F th) (g43 : h 43 = aZ 64 (cut J R)) {k : Nat} (hk : k < 64) : Ev (d + 1) MX10_isBeside 0 (lv_args 0 [.ref 31, .int (nI k)]) [] n h (.inl (some (.int (nI (besF J k 64)))), n, h, 0, 0) := by
  refine ev_iconst dX10_isBeside_0 ci0 ?_
  refine ev_istore_n dX10_isBeside_1 (Nat.le_of_ble_eq_true rfl) ?_
  refine ev_iconst dX10_isBeside_2 ci0 ?_
  refine ev_istore_n dX10_isBeside_3 (Nat.le_of_ble_eq_true rfl) ?_
  refine ev_sub ?_ (lm_be g31 g43 hk 64 0 (by omega))
  repeat (first | exact trivial | refine ⟨rfl, ?_⟩)
theorem lm_fr (g31 : h 31 = MO made F th) (g43 : h 43 = aZ 64 (cut J R)) {k : Nat} (hk : k < 64) : ∀ m x, x + m = 8 → Ev d MX10_isFree 7 [(0, .ref 31), (1, .int (nI k)), (2, .int (nI (alF (fun x => jm J (8 * (k / 8) + x)) x))), (3, .int (nI (alF (fun x => jm J (8 * x + k % 8)) x))), (4, .int (nI x))] [] n h (.inl (some (.int (nI (bI (alF (fun x => jm J (8 * (k / 8) + x)) 8 = 1 ∨ alF (fun x => jm J (8 * x + k % 8)) 8 = 1))))), n, h, 0, 0) := by
  intro m
  induction m with
  | zero =>
    intro x hx
    have e : x = 8 := by omega
    subst e
    have a01 := alF_01 (fun x => jm J (8 * (k / 8) + x)) 8
    have b01 := alF_01 (fun x => jm J (8 * x + k % 8)) 8
    by_cases q1 : alF (fun x => jm J (8 * (k / 8) + x)) 8 = 1
    · rw [bI_t (Or.inl q1)]
      refine ev_iload dX10_isFree_7 rfl ?_
      refine ev_bipush dX10_isFree_9 bp8 ?_
      refine ev_icmp_geT (tgt := 76) dX10_isFree_11 (by decide) (by first | assumption | exact nI_le (by omega) (by omega) | decide) ?_
      refine ev_iload_n dX10_isFree_76 rfl ?_
      refine ev_if_neT (tgt := 84) dX10_isFree_77 (by decide) (by first | assumption | exact nI_ne0 (by omega) (by omega) | decide) ?_
      refine ev_iconst dX10_isFree_84 ci1 ?_
      refine ev_goto (tgt := 89) dX10_isFree_85 (by decide) ?_
      exact ev_zreturnE dX10_isFree_89 rfl (by first | exact Or.inl rfl | exact Or.inr rfl | assumption | exact z01 (bI_01 _) | exact z01 (by omega)) (by rfl)
    · by_cases q2 : alF (fun x => jm J (8 * x + k % 8)) 8 = 1
      · rw [bI_t (Or.inr q2)]
        refine ev_iload dX10_isFree_7 rfl ?_
        refine ev_bipush dX10_isFree_9 bp8 ?_
        refine ev_icmp_geT (tgt := 76) dX10_isFree_11 (by decide) (by first | assumption | exact nI_le (by omega) (by omega) | decide) ?_
        refine ev_iload_n dX10_isFree_76 rfl ?_
        refine ev_if_neF dX10_isFree_77 84 (by decide) (by first | assumption | exact z_eq (by omega) | decide) ?_
        refine ev_iload_n dX10_isFree_80 rfl ?_
        refine ev_if_eqF dX10_isFree_81 88 (by decide) (by first | assumption | exact nI_ne0 (by omega) (by omega) | decide) ?_
        refine ev_iconst dX10_isFree_84 ci1 ?_
        refine ev_goto (tgt := 89) dX10_isFree_85 (by decide) ?_
        exact ev_zreturnE dX10_isFree_89 rfl (by first | exact Or.inl rfl | exact Or.inr rfl | assumption | exact z01 (bI_01 _) | exact z01 (by omega)) (by rfl)
      · rw [bI_f (fun z => z.elim q1 q2)]
        refine ev_iload dX10_isFree_7 rfl ?_
        refine ev_bipush dX10_isFree_9 bp8 ?_
        refine ev_icmp_geT (tgt := 76) dX10_isFree_11 (by decide) (by first | assumption | exact nI_le (by omega) (by omega) | decide) ?_
        refine ev_iload_n dX10_isFree_76 rfl ?_
        refine ev_if_neF dX10_isFree_77 84 (by decide) (by first | assumption | exact z_eq (by omega) | decide) ?_
        refine ev_iload_n dX10_isFree_80 rfl ?_
        refine ev_if_eqT (tgt := 88) dX10_isFree_81 (by decide) (by first | assumption | exact z_eq (by omega) | decide) ?_
        refine ev_iconst dX10_isFree_88 ci0 ?_
        exact ev_zreturnE dX10_isFree_89 rfl (by first | exact Or.inl rfl | exact Or.inr rfl | assumption | exact z01 (bI_01 _) | exact z01 (by omega)) (by rfl)
  | succ m ih =>
    intro x hx
    have ih := ih (x + 1) (by omega)
    have a01 := alF_01 (fun x => jm J (8 * (k / 8) + x)) x
    have b01 := alF_01 (fun x => jm J (8 * x + k % 8)) x
    have ea : alF (fun x => jm J (8 * (k / 8) + x)) (x + 1) = if alF (fun x => jm J (8 * (k / 8) + x)) x = 1 ∧ jm J (8 * (k / 8) + x) = 0 then 1 else 0 := rfl
    have eb : alF (fun x => jm J (8 * x + k % 8)) (x + 1) = if alF (fun x => jm J (8 * x + k % 8)) x = 1 ∧ jm J (8 * x + k % 8) = 0 then 1 else 0 := rfl
    rw [ea, eb] at ih
    clear ea eb
    generalize alF (fun x => jm J (8 * (k / 8) + x)) x = a at ih a01 ⊢
    generalize alF (fun x => jm J (8 * x + k % 8)) x = b at ih b01 ⊢
    have c1 : cut J R (k / 8 * 8 + x) = jm J (8 * (k / 8) + x) := by rw [cut_lt (by omega), Nat.mul_comm]
    have c2 : cut J R (8 * x + k % 8) = jm J (8 * x + k % 8) := cut_lt (by omega)
    have j1 := jm_01 J (8 * (k / 8) + x)
    have j2 := jm_01 J (8 * x + k % 8)
    generalize jm J (8 * (k / 8) + x) = p at ih c1 j1
    generalize jm J (8 * x + k % 8) = q at ih c2 j2
    rcases a01 with rfl | rfl
    · rw [if_neg (by omega)] at ih
      rcases b01 with rfl | rfl
      · rw [if_neg (by omega)] at ih
        refine ev_iload dX10_isFree_7 rfl ?_
        refine ev_bipush dX10_isFree_9 bp8 ?_
        refine ev_icmp_geF dX10_isFree_11 76 (by decide) (by first | assumption | exact nI_ge (by omega) (by omega) | decide) ?_
        refine ev_iload_n dX10_isFree_14 rfl ?_
        refine ev_if_eqT (tgt := 40) dX10_isFree_15 (by decide) (by first | assumption | exact z_eq (by omega) | decide) ?_
        refine ev_iconst dX10_isFree_40 ci0 ?_
        refine ev_istore_n dX10_isFree_41 (Nat.le_of_ble_eq_true rfl) ?_
        refine ev_iload_n dX10_isFree_42 rfl ?_
        refine ev_if_eqT (tgt := 68) dX10_isFree_43 (by decide) (by first | assumption | exact z_eq (by omega) | decide) ?_
        refine ev_iconst dX10_isFree_68 ci0 ?_
        refine ev_istore_n dX10_isFree_69 (Nat.le_of_ble_eq_true rfl) ?_
        refine ev_iincN (b := 1) dX10_isFree_70 rfl (Nat.le_of_ble_eq_true rfl) ?_
        refine ev_goto (tgt := 7) dX10_isFree_73 (by decide) ?_
        refine ev_sub ?_ (ih)
        repeat (first | exact trivial | refine ⟨rfl, ?_⟩)
      · rcases j2 with rfl | rfl
        · rw [if_pos ⟨rfl, rfl⟩] at ih
          refine ev_iload dX10_isFree_7 rfl ?_
          refine ev_bipush dX10_isFree_9 bp8 ?_
          refine ev_icmp_geF dX10_isFree_11 76 (by decide) (by first | assumption | exact nI_ge (by omega) (by omega) | decide) ?_
          refine ev_iload_n dX10_isFree_14 rfl ?_
          refine ev_if_eqT (tgt := 40) dX10_isFree_15 (by decide) (by first | assumption | exact z_eq (by omega) | decide) ?_
          refine ev_iconst dX10_isFree_40 ci0 ?_
          refine ev_istore_n dX10_isFree_41 (Nat.le_of_ble_eq_true rfl) ?_
          refine ev_iload_n dX10_isFree_42 rfl ?_
          refine ev_if_eqF dX10_isFree_43 68 (by decide) (by first | assumption | exact nI_ne0 (by omega) (by omega) | decide) ?_
          first | refine ev_aload_n dX10_isFree_46 rfl ?_ | refine ev_aload_nN dX10_isFree_46 rfl ?_
          refine ev_getfield dX10_isFree_47 fl_RX10_45 (by repeat (first | assumption | exact up_s | refine (up_n (by omega)).trans ?_)) rfl ?_
          refine ev_bipush dX10_isFree_50 bp8 ?_
          refine ev_iload dX10_isFree_52 rfl ?_
          first | refine ev_imulN dX10_isFree_54 ?_ | refine ev_imul dX10_isFree_54 ?_
          refine ev_iload_n dX10_isFree_55 rfl ?_
          refine ev_bipush dX10_isFree_56 bp8 ?_
          refine ev_iremN dX10_isFree_58 (by omega) (by omega) (by omega) ?_
          first | refine ev_iaddN dX10_isFree_59 ?_ | refine ev_iadd dX10_isFree_59 ?_
          refine ev_bald dX10_isFree_60 (by repeat (first | assumption | exact up_s | refine (up_n (by omega)).trans ?_)) _ rfl (by omega) (by omega) ?_
          refine ev_if_neF dX10_isFree_61 68 (by decide) (by first | assumption | exact z_eq (by omega) | decide) ?_
          refine ev_iconst dX10_isFree_64 ci1 ?_
          refine ev_goto (tgt := 69) dX10_isFree_65 (by decide) ?_
          refine ev_istore_n dX10_isFree_69 (Nat.le_of_ble_eq_true rfl) ?_
          refine ev_iincN (b := 1) dX10_isFree_70 rfl (Nat.le_of_ble_eq_true rfl) ?_
          refine ev_goto (tgt := 7) dX10_isFree_73 (by decide) ?_
          refine ev_sub ?_ (ih)
          repeat (first | exact trivial | refine ⟨rfl, ?_⟩)
        · rw [if_neg (by omega)] at ih
          refine ev_iload dX10_isFree_7 rfl ?_
          refine ev_bipush dX10_isFree_9 bp8 ?_
          refine ev_icmp_geF dX10_isFree_11 76 (by decide) (by first | assumption | exact nI_ge (by omega) (by omega) | decide) ?_
          refine ev_iload_n dX10_isFree_14 rfl ?_
          refine ev_if_eqT (tgt := 40) dX10_isFree_15 (by decide) (by first | assumption | exact z_eq (by omega) | decide) ?_
          refine ev_iconst dX10_isFree_40 ci0 ?_
          refine ev_istore_n dX10_isFree_41 (Nat.le_of_ble_eq_true rfl) ?_
          refine ev_iload_n dX10_isFree_42 rfl ?_
          refine ev_if_eqF dX10_isFree_43 68 (by decide) (by first | assumption | exact nI_ne0 (by omega) (by omega) | decide) ?_
          first | refine ev_aload_n dX10_isFree_46 rfl ?_ | refine ev_aload_nN dX10_isFree_46 rfl ?_
          refine ev_getfield dX10_isFree_47 fl_RX10_45 (by repeat (first | assumption | exact up_s | refine (up_n (by omega)).trans ?_)) rfl ?_
          refine ev_bipush dX10_isFree_50 bp8 ?_
          refine ev_iload dX10_isFree_52 rfl ?_
          first | refine ev_imulN dX10_isFree_54 ?_ | refine ev_imul dX10_isFree_54 ?_
          refine ev_iload_n dX10_isFree_55 rfl ?_
          refine ev_bipush dX10_isFree_56 bp8 ?_
          refine ev_iremN dX10_isFree_58 (by omega) (by omega) (by omega) ?_
          first | refine ev_iaddN dX10_isFree_59 ?_ | refine ev_iadd dX10_isFree_59 ?_
          refine ev_bald dX10_isFree_60 (by repeat (first | assumption | exact up_s | refine (up_n (by omega)).trans ?_)) _ rfl (by omega) (by omega) ?_
          refine ev_if_neT (tgt := 68) dX10_isFree_61 (by decide) (by first | assumption | exact nI_ne0 (by omega) (by omega) | decide) ?_
          refine ev_iconst dX10_isFree_68 ci0 ?_
          refine ev_istore_n dX10_isFree_69 (Nat.le_of_ble_eq_true rfl) ?_
          refine ev_iincN (b := 1) dX10_isFree_70 rfl (Nat.le_of_ble_eq_true rfl) ?_
          refine ev_goto (tgt := 7) dX10_isFree_73 (by decide) ?_
          refine ev_sub ?_ (ih)
          repeat (first | exact trivial | refine ⟨rfl, ?_⟩)
    · rcases j1 with rfl | rfl
      · rw [if_pos ⟨rfl, rfl⟩] at ih
        rcases b01 with rfl | rfl
        · rw [if_neg (by omega)] at ih
          refine ev_iload dX10_isFree_7 rfl ?_
          refine ev_bipush dX10_isFree_9 bp8 ?_
          refine ev_icmp_geF dX10_isFree_11 76 (by decide) (by first | assumption | exact nI_ge (by omega) (by omega) | decide) ?_
          refine ev_iload_n dX10_isFree_14 rfl ?_
          refine ev_if_eqF dX10_isFree_15 40 (by decide) (by first | assumption | exact nI_ne0 (by omega) (by omega) | decide) ?_
          first | refine ev_aload_n dX10_isFree_18 rfl ?_ | refine ev_aload_nN dX10_isFree_18 rfl ?_
          refine ev_getfield dX10_isFree_19 fl_RX10_45 (by repeat (first | assumption | exact up_s | refine (up_n (by omega)).trans ?_)) rfl ?_
          refine ev_iload_n dX10_isFree_22 rfl ?_
          refine ev_bipush dX10_isFree_23 bp8 ?_
          refine ev_idivN dX10_isFree_25 (by omega) (by omega) (by omega) ?_
          refine ev_bipush dX10_isFree_26 bp8 ?_
          first | refine ev_imulN dX10_isFree_28 ?_ | refine ev_imul dX10_isFree_28 ?_
          refine ev_iload dX10_isFree_29 rfl ?_
          first | refine ev_iaddN dX10_isFree_31 ?_ | refine ev_iadd dX10_isFree_31 ?_
          refine ev_bald dX10_isFree_32 (by repeat (first | assumption | exact up_s | refine (up_n (by omega)).trans ?_)) _ rfl (by omega) (by omega) ?_
          refine ev_if_neF dX10_isFree_33 40 (by decide) (by first | assumption | exact z_eq (by omega) | decide) ?_
          refine ev_iconst dX10_isFree_36 ci1 ?_
          refine ev_goto (tgt := 41) dX10_isFree_37 (by decide) ?_
          refine ev_istore_n dX10_isFree_41 (Nat.le_of_ble_eq_true rfl) ?_
          refine ev_iload_n dX10_isFree_42 rfl ?_
          refine ev_if_eqT (tgt := 68) dX10_isFree_43 (by decide) (by first | assumption | exact z_eq (by omega) | decide) ?_
          refine ev_iconst dX10_isFree_68 ci0 ?_
          refine ev_istore_n dX10_isFree_69 (Nat.le_of_ble_eq_true rfl) ?_
          refine ev_iincN (b := 1) dX10_isFree_70 rfl (Nat.le_of_ble_eq_true rfl) ?_
          refine ev_goto (tgt := 7) dX10_isFree_73 (by decide) ?_
          refine ev_sub ?_ (ih)
          repeat (first | exact trivial | refine ⟨rfl, ?_⟩)
        · rcases j2 with rfl | rfl
          · rw [if_pos ⟨rfl, rfl⟩] at ih
            refine ev_iload dX10_isFree_7 rfl ?_
            refine ev_bipush dX10_isFree_9 bp8 ?_
            refine ev_icmp_geF dX10_isFree_11 76 (by decide) (by first | assumption | exact nI_ge (by omega) (by omega) | decide) ?_
            refine ev_iload_n dX10_isFree_14 rfl ?_
            refine ev_if_eqF dX10_isFree_15 40 (by decide) (by first | assumption | exact nI_ne0 (by omega) (by omega) | decide) ?_
            first | refine ev_aload_n dX10_isFree_18 rfl ?_ | refine ev_aload_nN dX10_isFree_18 rfl ?_
            refine ev_getfield dX10_isFree_19 fl_RX10_45 (by repeat (first | assumption | exact up_s | refine (up_n (by omega)).trans ?_)) rfl ?_
            refine ev_iload_n dX10_isFree_22 rfl ?_
            refine ev_bipush dX10_isFree_23 bp8 ?_
            refine ev_idivN dX10_isFree_25 (by omega) (by omega) (by omega) ?_
            refine ev_bipush dX10_isFree_26 bp8 ?_
            first | refine ev_imulN dX10_isFree_28 ?_ | refine ev_imul dX10_isFree_28 ?_
            refine ev_iload dX10_isFree_29 rfl ?_
            first | refine ev_iaddN dX10_isFree_31 ?_ | refine ev_iadd dX10_isFree_31 ?_
            refine ev_bald dX10_isFree_32 (by repeat (first | assumption | exact up_s | refine (up_n (by omega)).trans ?_)) _ rfl (by omega) (by omega) ?_
            refine ev_if_neF dX10_isFree_33 40 (by decide) (by first | assumption | exact z_eq (by omega) | decide) ?_
            refine ev_iconst dX10_isFree_36 ci1 ?_
            refine ev_goto (tgt := 41) dX10_isFree_37 (by decide) ?_
            refine ev_istore_n dX10_isFree_41 (Nat.le_of_ble_eq_true rfl) ?_
            refine ev_iload_n dX10_isFree_42 rfl ?_
            refine ev_if_eqF dX10_isFree_43 68 (by decide) (by first | assumption | exact nI_ne0 (by omega) (by omega) | decide) ?_
            first | refine ev_aload_n dX10_isFree_46 rfl ?_ | refine ev_aload_nN dX10_isFree_46 rfl ?_
            refine ev_getfield dX10_isFree_47 fl_RX10_45 (by repeat (first | assumption | exact up_s | refine (up_n (by omega)).trans ?_)) rfl ?_
            refine ev_bipush dX10_isFree_50 bp8 ?_
            refine ev_iload dX10_isFree_52 rfl ?_
            first | refine ev_imulN dX10_isFree_54 ?_ | refine ev_imul dX10_isFree_54 ?_
            refine ev_iload_n dX10_isFree_55 rfl ?_
            refine ev_bipush dX10_isFree_56 bp8 ?_
            refine ev_iremN dX10_isFree_58 (by omega) (by omega) (by omega) ?_
            first | refine ev_iaddN dX10_isFree_59 ?_ | refine ev_iadd dX10_isFree_59 ?_
            refine ev_bald dX10_isFree_60 (by repeat (first | assumption | exact up_s | refine (up_n (by omega)).trans ?_)) _ rfl (by omega) (by omega) ?_
            refine ev_if_neF dX10_isFree_61 68 (by decide) (by first | assumption | exact z_eq (by omega) | decide) ?_
            refine ev_iconst dX10_isFree_64 ci1 ?_
            refine ev_goto (tgt := 69) dX10_isFree_65 (by decide) ?_
            refine ev_istore_n dX10_isFree_69 (Nat.le_of_ble_eq_true rfl) ?_
            refine ev_iincN (b := 1) dX10_isFree_70 rfl (Nat.le_of_ble_eq_true rfl) ?_
            refine ev_goto (tgt := 7) dX10_isFree_73 (by decide) ?_
            refine ev_sub ?_ (ih)
            repeat (first | exact trivial | refine ⟨rfl, ?_⟩)
          · rw [if_neg (by omega)] at ih
            refine ev_iload dX10_isFree_7 rfl ?_
            refine ev_bipush dX10_isFree_9 bp8 ?_
            refine ev_icmp_geF dX10_isFree_11 76 (by decide) (by first | assumption | exact nI_ge (by omega) (by omega) | decide) ?_
            refine ev_iload_n dX10_isFree_14 rfl ?_
            refine ev_if_eqF dX10_isFree_15 40 (by decide) (by first | assumption | exact nI_ne0 (by omega) (by omega) | decide) ?_
            first | refine ev_aload_n dX10_isFree_18 rfl ?_ | refine ev_aload_nN dX10_isFree_18 rfl ?_
            refine ev_getfield dX10_isFree_19 fl_RX10_45 (by repeat (first | assumption | exact up_s | refine (up_n (by omega)).trans ?_)) rfl ?_
            refine ev_iload_n dX10_isFree_22 rfl ?_
            refine ev_bipush dX10_isFree_23 bp8 ?_
            refine ev_idivN dX10_isFree_25 (by omega) (by omega) (by omega) ?_
            refine ev_bipush dX10_isFree_26 bp8 ?_
            first | refine ev_imulN dX10_isFree_28 ?_ | refine ev_imul dX10_isFree_28 ?_
            refine ev_iload dX10_isFree_29 rfl ?_
            first | refine ev_iaddN dX10_isFree_31 ?_ | refine ev_iadd dX10_isFree_31 ?_
            refine ev_bald dX10_isFree_32 (by repeat (first | assumption | exact up_s | refine (up_n (by omega)).trans ?_)) _ rfl (by omega) (by omega) ?_
            refine ev_if_neF dX10_isFree_33 40 (by decide) (by first | assumption | exact z_eq (by omega) | decide) ?_
            refine ev_iconst dX10_isFree_36 ci1 ?_
            refine ev_goto (tgt := 41) dX10_isFree_37 (by decide) ?_
            refine ev_istore_n dX10_isFree_41 (Nat.le_of_ble_eq_true rfl) ?_
            refine ev_iload_n dX10_isFree_42 rfl ?_
            refine ev_if_eqF dX10_isFree_43 68 (by decide) (by first | assumption | exact nI_ne0 (by omega) (by omega) | decide) ?_
            first | refine ev_aload_n dX10_isFree_46 rfl ?_ | refine ev_aload_nN dX10_isFree_46 rfl ?_
            refine ev_getfield dX10_isFree_47 fl_RX10_45 (by repeat (first | assumption | exact up_s | refine (up_n (by omega)).trans ?_)) rfl ?_
            refine ev_bipush dX10_isFree_50 bp8 ?_
            refine ev_iload dX10_isFree_52 rfl ?_
            first | refine ev_imulN dX10_isFree_54 ?_ | refine ev_imul dX10_isFree_54 ?_
            refine ev_iload_n dX10_isFree_55 rfl ?_
            refine ev_bipush dX10_isFree_56 bp8 ?_
            refine ev_iremN dX10_isFree_58 (by omega) (by omega) (by omega) ?_
            first | refine ev_iaddN dX10_isFree_59 ?_ | refine ev_iadd dX10_isFree_59 ?_
            refine ev_bald dX10_isFree_60 (by repeat (first | assumption | exact up_s | refine (up_n (by omega)).trans ?_)) _ rfl (by omega) (by omega) ?_
            refine ev_if_neT (tgt := 68) dX10_isFree_61 (by decide) (by first | assumption | exact nI_ne0 (by omega) (by omega) | decide) ?_
            refine ev_iconst dX10_isFree_68 ci0 ?_
            refine ev_istore_n dX10_isFree_69 (Nat.le_of_ble_eq_true rfl) ?_
            refine ev_iincN (b := 1) dX10_isFree_70 rfl (Nat.le_of_ble_eq_true rfl) ?_
            refine ev_goto (tgt := 7) dX10_isFree_73 (by decide) ?_
            refine ev_sub ?_ (ih)
            repeat (first | exact trivial | refine ⟨rfl, ?_⟩)
      · rw [if_neg (by omega)] at ih
        rcases b01 with rfl | rfl
        · rw [if_neg (by omega)] at ih
          refine ev_iload dX10_isFree_7 rfl ?_
          refine ev_bipush dX10_isFree_9 bp8 ?_
          refine ev_icmp_geF dX10_isFree_11 76 (by decide) (by first | assumption | exact nI_ge (by omega) (by omega) | decide) ?_
          refine ev_iload_n dX10_isFree_14 rfl ?_
          refine ev_if_eqF dX10_isFree_15 40 (by decide) (by first | assumption | exact nI_ne0 (by omega) (by omega) | decide) ?_
          first | refine ev_aload_n dX10_isFree_18 rfl ?_ | refine ev_aload_nN dX10_isFree_18 rfl ?_
          refine ev_getfield dX10_isFree_19 fl_RX10_45 (by repeat (first | assumption | exact up_s | refine (up_n (by omega)).trans ?_)) rfl ?_
          refine ev_iload_n dX10_isFree_22 rfl ?_
          refine ev_bipush dX10_isFree_23 bp8 ?_
          refine ev_idivN dX10_isFree_25 (by omega) (by omega) (by omega) ?_
          refine ev_bipush dX10_isFree_26 bp8 ?_
          first | refine ev_imulN dX10_isFree_28 ?_ | refine ev_imul dX10_isFree_28 ?_
          refine ev_iload dX10_isFree_29 rfl ?_
          first | refine ev_iaddN dX10_isFree_31 ?_ | refine ev_iadd dX10_isFree_31 ?_
          refine ev_bald dX10_isFree_32 (by repeat (first | assumption | exact up_s | refine (up_n (by omega)).trans ?_)) _ rfl (by omega) (by omega) ?_
          refine ev_if_neT (tgt := 40) dX10_isFree_33 (by decide) (by first | assumption | exact nI_ne0 (by omega) (by omega) | decide) ?_
          refine ev_iconst dX10_isFree_40 ci0 ?_
          refine ev_istore_n dX10_isFree_41 (Nat.le_of_ble_eq_true rfl) ?_
          refine ev_iload_n dX10_isFree_42 rfl ?_
          refine ev_if_eqT (tgt := 68) dX10_isFree_43 (by decide) (by first | assumption | exact z_eq (by omega) | decide) ?_
          refine ev_iconst dX10_isFree_68 ci0 ?_
          refine ev_istore_n dX10_isFree_69 (Nat.le_of_ble_eq_true rfl) ?_
          refine ev_iincN (b := 1) dX10_isFree_70 rfl (Nat.le_of_ble_eq_true rfl) ?_
          refine ev_goto (tgt := 7) dX10_isFree_73 (by decide) ?_
          refine ev_sub ?_ (ih)
          repeat (first | exact trivial | refine ⟨rfl, ?_⟩)
        · rcases j2 with rfl | rfl
          · rw [if_pos ⟨rfl, rfl⟩] at ih
            refine ev_iload dX10_isFree_7 rfl ?_
            refine ev_bipush dX10_isFree_9 bp8 ?_
            refine ev_icmp_geF dX10_isFree_11 76 (by decide) (by first | assumption | exact nI_ge (by omega) (by omega) | decide) ?_
            refine ev_iload_n dX10_isFree_14 rfl ?_
            refine ev_if_eqF dX10_isFree_15 40 (by decide) (by first | assumption | exact nI_ne0 (by omega) (by omega) | decide) ?_
            first | refine ev_aload_n dX10_isFree_18 rfl ?_ | refine ev_aload_nN dX10_isFree_18 rfl ?_
            refine ev_getfield dX10_isFree_19 fl_RX10_45 (by repeat (first | assumption | exact up_s | refine (up_n (by omega)).trans ?_)) rfl ?_
            refine ev_iload_n dX10_isFree_22 rfl ?_
            refine ev_bipush dX10_isFree_23 bp8 ?_
            refine ev_idivN dX10_isFree_25 (by omega) (by omega) (by omega) ?_
            refine ev_bipush dX10_isFree_26 bp8 ?_
            first | refine ev_imulN dX10_isFree_28 ?_ | refine ev_imul dX10_isFree_28 ?_
            refine ev_iload dX10_isFree_29 rfl ?_
            first | refine ev_iaddN dX10_isFree_31 ?_ | refine ev_iadd dX10_isFree_31 ?_
            refine ev_bald dX10_isFree_32 (by repeat (first | assumption | exact up_s | refine (up_n (by omega)).trans ?_)) _ rfl (by omega) (by omega) ?_
            refine ev_if_neT (tgt := 40) dX10_isFree_33 (by decide) (by first | assumption | exact nI_ne0 (by omega) (by omega) | decide) ?_
            refine ev_iconst dX10_isFree_40 ci0 ?_
            refine ev_istore_n dX10_isFree_41 (Nat.le_of_ble_eq_true rfl) ?_
            refine ev_iload_n dX10_isFree_42 rfl ?_
            refine ev_if_eqF dX10_isFree_43 68 (by decide) (by first | assumption | exact nI_ne0 (by omega) (by omega) | decide) ?_
            first | refine ev_aload_n dX10_isFree_46 rfl ?_ | refine ev_aload_nN dX10_isFree_46 rfl ?_
            refine ev_getfield dX10_isFree_47 fl_RX10_45 (by repeat (first | assumption | exact up_s | refine (up_n (by omega)).trans ?_)) rfl ?_
            refine ev_bipush dX10_isFree_50 bp8 ?_
            refine ev_iload dX10_isFree_52 rfl ?_
            first | refine ev_imulN dX10_isFree_54 ?_ | refine ev_imul dX10_isFree_54 ?_
            refine ev_iload_n dX10_isFree_55 rfl ?_
            refine ev_bipush dX10_isFree_56 bp8 ?_
            refine ev_iremN dX10_isFree_58 (by omega) (by omega) (by omega) ?_
            first | refine ev_iaddN dX10_isFree_59 ?_ | refine ev_iadd dX10_isFree_59 ?_
            refine ev_bald dX10_isFree_60 (by repeat (first | assumption | exact up_s | refine (up_n (by omega)).trans ?_)) _ rfl (by omega) (by omega) ?_
            refine ev_if_neF dX10_isFree_61 68 (by decide) (by first | assumption | exact z_eq (by omega) | decide) ?_
            refine ev_iconst dX10_isFree_64 ci1 ?_
            refine ev_goto (tgt := 69) dX10_isFree_65 (by decide) ?_
            refine ev_istore_n dX10_isFree_69 (Nat.le_of_ble_eq_true rfl) ?_
            refine ev_iincN (b := 1) dX10_isFree_70 rfl (Nat.le_of_ble_eq_true rfl) ?_
            refine ev_goto (tgt := 7) dX10_isFree_73 (by decide) ?_
            refine ev_sub ?_ (ih)
            repeat (first | exact trivial | refine ⟨rfl, ?_⟩)
          · rw [if_neg (by omega)] at ih
            refine ev_iload dX10_isFree_7 rfl ?_
            refine ev_bipush dX10_isFree_9 bp8 ?_
            refine ev_icmp_geF dX10_isFree_11 76 (by decide) (by first | assumption | exact nI_ge (by omega) (by omega) | decide) ?_
            refine ev_iload_n dX10_isFree_14 rfl ?_
            refine ev_if_eqF dX10_isFree_15 40 (by decide) (by first | assumption | exact nI_ne0 (by omega) (by omega) | decide) ?_
            first | refine ev_aload_n dX10_isFree_18 rfl ?_ | refine ev_aload_nN dX10_isFree_18 rfl ?_
            refine ev_getfield dX10_isFree_19 fl_RX10_45 (by repeat (first | assumption | exact up_s | refine (up_n (by omega)).trans ?_)) rfl ?_
            refine ev_iload_n dX10_isFree_22 rfl ?_
            refine ev_bipush dX10_isFree_23 bp8 ?_
            refine ev_idivN dX10_isFree_25 (by omega) (by omega) (by omega) ?_
            refine ev_bipush dX10_isFree_26 bp8 ?_
            first | refine ev_imulN dX10_isFree_28 ?_ | refine ev_imul dX10_isFree_28 ?_
            refine ev_iload dX10_isFree_29 rfl ?_
            first | refine ev_iaddN dX10_isFree_31 ?_ | refine ev_iadd dX10_isFree_31 ?_
            refine ev_bald dX10_isFree_32 (by repeat (first | assumption | exact up_s | refine (up_n (by omega)).trans ?_)) _ rfl (by omega) (by omega) ?_
            refine ev_if_neT (tgt := 40) dX10_isFree_33 (by decide) (by first | assumption | exact nI_ne0 (by omega) (by omega) | decide) ?_
            refine ev_iconst dX10_isFree_40 ci0 ?_
            refine ev_istore_n dX10_isFree_41 (Nat.le_of_ble_eq_true rfl) ?_
            refine ev_iload_n dX10_isFree_42 rfl ?_
            refine ev_if_eqF dX10_isFree_43 68 (by decide) (by first | assumption | exact nI_ne0 (by omega) (by omega) | decide) ?_
            first | refine ev_aload_n dX10_isFree_46 rfl ?_ | refine ev_aload_nN dX10_isFree_46 rfl ?_
            refine ev_getfield dX10_isFree_47 fl_RX10_45 (by repeat (first | assumption | exact up_s | refine (up_n (by omega)).trans ?_)) rfl ?_
            refine ev_bipush dX10_isFree_50 bp8 ?_
            refine ev_iload dX10_isFree_52 rfl ?_
            first | refine ev_imulN dX10_isFree_54 ?_ | refine ev_imul dX10_isFree_54 ?_
            refine ev_iload_n dX10_isFree_55 rfl ?_
            refine ev_bipush dX10_isFree_56 bp8 ?_
            refine ev_iremN dX10_isFree_58 (by omega) (by omega) (by omega) ?_
            first | refine ev_iaddN dX10_isFree_59 ?_ | refine ev_iadd dX10_isFree_59 ?_
            refine ev_bald dX10_isFree_60 (by repeat (first | assumption | exact up_s | refine (up_n (by omega)).trans ?_)) _ rfl (by omega) (by omega) ?_
            refine ev_if_neT (tgt := 68) dX10_isFree_61 (by decide) (by first | assumption | exact nI_ne0 (by omega) (by omega) | decide) ?_
            refine ev_iconst dX10_isFree_68 ci0 ?_
            refine ev_istore_n dX10_isFree_69 (Nat.le_of_ble_eq_true rfl) ?_
            refine ev_iincN (b := 1) dX10_isFree_70 rfl (Nat.le_of_ble_eq_true rfl) ?_
            refine ev_goto (tgt := 7) dX10_isFree_73 (by decide) ?_
            refine ev_sub ?_ (ih)
            repeat (first | exact trivial | refine ⟨rfl, ?_⟩)
theorem mm_isFree (g31 : h 31 = MO made F th) (g43 : h 43 = aZ 64 (cut J R)) {k : Nat} (hk : k < 64) : Ev d MX10_isFree 0 (lv_args 0 [.ref 31, .int (nI k)]) [] n h (.inl (some (.int (nI (bI (alF (fun x => jm J (8 * (k / 8) + x)) 8 = 1 ∨ alF (fun x => jm J (8 * x + k % 8)) 8 = 1))))), n, h, 0, 0) := by
  refine ev_iconst dX10_isFree_0 ci1 ?_
  refine ev_istore_n dX10_isFree_1 (Nat.le_of_ble_eq_true rfl) ?_
  refine ev_iconst dX10_isFree_2 ci1 ?_
  refine ev_istore_n dX10_isFree_3 (Nat.le_of_ble_eq_true rfl) ?_
  refine ev_iconst dX10_isFree_4 ci0 ?_
  refine ev_istore dX10_isFree_5 (Nat.le_of_ble_eq_true rfl) ?_
  refine ev_sub ?_ (lm_fr g31 g43 hk 8 0 (by omega))
  repeat (first | exact trivial | refine ⟨rfl, ?_⟩)
end MF
