/-! the model runs a round -/
abbrev QX (h : Hp) (Sh F : Nat → Nat) (R : Nat → Int) : Hp := NX (va_up h 38 (aI 480 Sh)) F R
theorem QX_NX {h : Hp} {Sh F F' : Nat → Nat} {R R' : Nat → Int} : NX (QX h Sh F R) F' R' = QX h Sh F' R' := by
  show va_up (va_up (QX h Sh F R) 41 (aI 15 F')) 40 (aR 15 R') = _
  rw [NX_F, NX_R]
theorem QX_S {h : Hp} {Sh F : Nat → Nat} {R : Nat → Int} (Sh' : Nat → Nat) : va_up (QX h Sh F R) 38 (aI 480 Sh') = QX h Sh' F R := by
  show va_up (va_up (va_up (va_up h 38 (aI 480 Sh)) 41 (aI 15 F)) 40 (aR 15 R)) 38 (aI 480 Sh') = _
  rw [up_c (k := 40) (by omega), up_c (k := 41) (by omega), up_u]
theorem QX_38 {h : Hp} {Sh F : Nat → Nat} {R : Nat → Int} : QX h Sh F R 38 = aI 480 Sh := (NX_o (by omega)).trans up_s
theorem QX_o {h : Hp} {Sh F : Nat → Nat} {R : Nat → Int} {a : Nat} (q : a ≠ 38 ∧ a ≠ 40 ∧ a ≠ 41) : QX h Sh F R a = h a := (NX_o q.2).trans (up_n q.1)
section MU
variable {d n : Nat} {h h' : Hp} {made th : Nat} {t : Nat → Nat} {l : Nat → Nat → Nat} {w : Nat → Nat → Nat → Nat} {S : Nat → Nat → Nat} {W : Nat → Nat} {F : Nat → Nat}
theorem lm_rp (q : WF made t l w S W) (g31 : h 31 = MO made F th) (ga : MA h made t l w S W) {sh : Nat → Nat} (g38 : h 38 = aI 480 sh) (hs : SB sh) {o9 : Out} (K : Ev (d + 3) MX10_round 46 [(0, .ref 31), (1, .int (nI made))] [] n (va_up h 39 (aL 480 (raF t l w sh made))) o9) :
    ∀ k i, i + k = made → Ev (d + 3) MX10_round 11 [(0, .ref 31), (1, .int (nI i))] [] n (va_up h 39 (aL 480 (raF t l w sh i))) o9 := by
  have hm := q.1
  obtain ⟨lo, b3, c3⟩ := ga.2.2.1
  obtain ⟨wo, b4, c4⟩ := ga.2.2.2.1
  obtain ⟨go, b5, c5⟩ := ga.2.2.2.2.1
  intro k
  induction k with
  | zero =>
    intro i hi
    have e : i = made := by omega
    subst e
    refine ev_iload_n dX10_round_11 rfl ?_
    first | refine ev_aload_n dX10_round_12 rfl ?_ | refine ev_aload_nN dX10_round_12 rfl ?_
    refine ev_getfield dX10_round_13 fl_RX10_52 (by repeat (first | assumption | exact up_s | refine (up_n (by omega)).trans ?_)) rfl ?_
    refine ev_icmp_geT (tgt := 46) dX10_round_16 (by decide) (by first | assumption | exact nI_le (by omega) (by omega) | decide) ?_
    refine ev_sub ?_ (K)
    repeat (first | exact trivial | refine ⟨rfl, ?_⟩)
  | succ k ih =>
    intro i hi
    have ih := ih (i + 1) (by omega)
    clear K
    have him : i < made := by omega
    rcases q.2.1 i with ht | ht
    · have e1 : raF t l w sh (i + 1) = raF t l w sh i := if_neg (by omega)
      rw [e1] at ih
      have eg : go i = 1 := (c5 i (by omega)).trans (if_pos ⟨him, ht⟩)
      refine ev_iload_n dX10_round_11 rfl ?_
      first | refine ev_aload_n dX10_round_12 rfl ?_ | refine ev_aload_nN dX10_round_12 rfl ?_
      refine ev_getfield dX10_round_13 fl_RX10_52 (by repeat (first | assumption | exact up_s | refine (up_n (by omega)).trans ?_)) rfl ?_
      refine ev_icmp_geF dX10_round_16 46 (by decide) (by first | assumption | exact nI_ge (by omega) (by omega) | decide) ?_
      first | refine ev_aload_n dX10_round_19 rfl ?_ | refine ev_aload_nN dX10_round_19 rfl ?_
      refine ev_getfield dX10_round_20 fl_RX10_22 (by repeat (first | assumption | exact up_s | refine (up_n (by omega)).trans ?_)) rfl ?_
      refine ev_iload_n dX10_round_23 rfl ?_
      refine ev_bald dX10_round_24 (by repeat (first | assumption | exact up_s | refine (up_n (by omega)).trans ?_)) _ rfl (by omega) (by omega) ?_
      refine ev_if_neT (tgt := 40) dX10_round_25 (by decide) (by first | assumption | exact nI_ne0 (by omega) (by omega) | decide) ?_
      refine ev_iincN (b := 1) dX10_round_40 rfl (Nat.le_of_ble_eq_true rfl) ?_
      refine ev_goto (tgt := 11) dX10_round_43 (by decide) ?_
      refine ev_sub ?_ (ih)
      repeat (first | exact trivial | refine ⟨rfl, ?_⟩)
    · have e1 : raF t l w sh (i + 1) = anO sh (240 * 1) (w 1 i) (l 1 i) (w 0 i) (l 0 i) (anO sh (240 * 0) (w 0 i) (l 0 i) (w 1 i) (l 1 i) (raF t l w sh i)) := if_pos ht
      rw [e1] at ih
      clear e1
      have eg : go i = 0 := (c5 i (by omega)).trans (if_neg (by omega))
      refine ev_iload_n dX10_round_11 rfl ?_
      first | refine ev_aload_n dX10_round_12 rfl ?_ | refine ev_aload_nN dX10_round_12 rfl ?_
      refine ev_getfield dX10_round_13 fl_RX10_52 (by repeat (first | assumption | exact up_s | refine (up_n (by omega)).trans ?_)) rfl ?_
      refine ev_icmp_geF dX10_round_16 46 (by decide) (by first | assumption | exact nI_ge (by omega) (by omega) | decide) ?_
      first | refine ev_aload_n dX10_round_19 rfl ?_ | refine ev_aload_nN dX10_round_19 rfl ?_
      refine ev_getfield dX10_round_20 fl_RX10_22 (by repeat (first | assumption | exact up_s | refine (up_n (by omega)).trans ?_)) rfl ?_
      refine ev_iload_n dX10_round_23 rfl ?_
      refine ev_bald dX10_round_24 (by repeat (first | assumption | exact up_s | refine (up_n (by omega)).trans ?_)) _ rfl (by omega) (by omega) ?_
      refine ev_if_neF dX10_round_25 40 (by decide) (by first | assumption | exact z_eq (by omega) | decide) ?_
      first | refine ev_aload_n dX10_round_28 rfl ?_ | refine ev_aload_nN dX10_round_28 rfl ?_
      refine ev_iconst dX10_round_29 ci0 ?_
      refine ev_iload_n dX10_round_30 rfl ?_
      refine ev_V2v dX10_round_31 st_RX10_100 na_X10_adds (Nat.le_of_ble_eq_true rfl) (Nat.le_of_ble_eq_true rfl) (by repeat (first | assumption | exact up_s | refine (up_n (by omega)).trans ?_)) rfl (mm_adds (D := 0) q g31 b3 c3 b4 c4 g38 hs him (by omega)) ?_
      first | refine ev_aload_n dX10_round_34 rfl ?_ | refine ev_aload_nN dX10_round_34 rfl ?_
      refine ev_iconst dX10_round_35 ci1 ?_
      refine ev_iload_n dX10_round_36 rfl ?_
      refine ev_V2v dX10_round_37 st_RX10_100 na_X10_adds (Nat.le_of_ble_eq_true rfl) (Nat.le_of_ble_eq_true rfl) (by repeat (first | assumption | exact up_s | refine (up_n (by omega)).trans ?_)) rfl (mm_adds (D := 1) q g31 b3 c3 b4 c4 g38 hs him (by omega)) ?_
      refine ev_iincN (b := 1) dX10_round_40 rfl (Nat.le_of_ble_eq_true rfl) ?_
      refine ev_goto (tgt := 11) dX10_round_43 (by decide) ?_
      refine ev_sub ?_ (ih)
      repeat (first | exact trivial | refine ⟨rfl, ?_⟩)
theorem lm_ri {P G : Nat → Nat} {R : Nat → Int} (g31 : h 31 = MO made F th) (hP : SB P) (hG : ∀ k, k < 15 → G k ≤ 1000000) {r z : Nat} (hr : r + 15 ≤ 480) {o9 : Out} (K : Ev d MX10_round 115 [(0, .ref 31), (1, .int (nI (z + rsN G r P 15))), (2, .int (nI r))] [] n (QX h (rsS G r 15 P) G R) o9) :
    ∀ k x, x + k = 15 → Ev d MX10_round 64 [(0, .ref 31), (1, .int (nI (z + rsN G r P x))), (2, .int (nI r)), (3, .int (nI x))] [] n (QX h (rsS G r x P) G R) o9 := by
  intro k
  induction k with
  | zero =>
    intro x hx
    have e : x = 15 := by omega
    subst e
    refine ev_iload_n dX10_round_64 rfl ?_
    refine ev_bipush dX10_round_65 bp15 ?_
    refine ev_icmp_geT (tgt := 115) dX10_round_67 (by decide) (by first | assumption | exact nI_le (by omega) (by omega) | decide) ?_
    refine ev_sub ?_ (K)
    repeat (first | exact trivial | refine ⟨rfl, ?_⟩)
  | succ k ih =>
    intro x hx
    have ih := ih (x + 1) (by omega)
    clear K
    have s1 := rsS_SB (b := r) hG hP x (by omega) (r + x)
    have s2 := hG x (by omega)
    have e1 : rsS G r (x + 1) P = va_up (rsS G r x P) (r + x) (G x) := rfl
    by_cases q : rsS G r x P (r + x) = G x
    · have e2 : z + rsN G r P (x + 1) = z + rsN G r P x + 0 := by show z + (_ + ite _ _ _) = _; rw [if_pos q]; rfl
      rw [e1, e2, ← QX_S (h := h) (Sh := rsS G r x P)] at ih
      refine ev_iload_n dX10_round_64 rfl ?_
      refine ev_bipush dX10_round_65 bp15 ?_
      refine ev_icmp_geF dX10_round_67 115 (by decide) (by first | assumption | exact nI_ge (by omega) (by omega) | decide) ?_
      refine ev_iload_n dX10_round_70 rfl ?_
      first | refine ev_aload_n dX10_round_71 rfl ?_ | refine ev_aload_nN dX10_round_71 rfl ?_
      refine ev_getfield dX10_round_72 fl_RX10_29 (by repeat (first | assumption | exact up_s | refine (up_n (by omega)).trans ?_)) rfl ?_
      refine ev_iload_n dX10_round_75 rfl ?_
      refine ev_iload_n dX10_round_76 rfl ?_
      first | refine ev_iaddN dX10_round_77 ?_ | refine ev_iadd dX10_round_77 ?_
      refine ev_iald dX10_round_78 (by repeat (first | assumption | exact up_s | refine (up_n (by omega)).trans ?_)) _ rfl (by omega) (by omega) ?_
      first | refine ev_aload_n dX10_round_79 rfl ?_ | refine ev_aload_nN dX10_round_79 rfl ?_
      refine ev_getfield dX10_round_80 fl_RX10_39 (by repeat (first | assumption | exact up_s | refine (up_n (by omega)).trans ?_)) rfl ?_
      refine ev_iload_n dX10_round_83 rfl ?_
      refine ev_iald dX10_round_84 (by repeat (first | assumption | exact up_s | refine (up_n (by omega)).trans ?_)) _ rfl (by omega) (by omega) ?_
      refine ev_icmp_eqT (tgt := 92) dX10_round_85 (by decide) (by first | assumption | exact n_eq (by omega) | decide) ?_
      refine ev_iconst dX10_round_92 ci0 ?_
      first | refine ev_iaddN dX10_round_93 ?_ | refine ev_iadd dX10_round_93 ?_
      refine ev_istore_n dX10_round_94 (Nat.le_of_ble_eq_true rfl) ?_
      first | refine ev_aload_n dX10_round_95 rfl ?_ | refine ev_aload_nN dX10_round_95 rfl ?_
      refine ev_getfield dX10_round_96 fl_RX10_29 (by repeat (first | assumption | exact up_s | refine (up_n (by omega)).trans ?_)) rfl ?_
      refine ev_iload_n dX10_round_99 rfl ?_
      refine ev_iload_n dX10_round_100 rfl ?_
      first | refine ev_iaddN dX10_round_101 ?_ | refine ev_iadd dX10_round_101 ?_
      first | refine ev_aload_n dX10_round_102 rfl ?_ | refine ev_aload_nN dX10_round_102 rfl ?_
      refine ev_getfield dX10_round_103 fl_RX10_39 (by repeat (first | assumption | exact up_s | refine (up_n (by omega)).trans ?_)) rfl ?_
      refine ev_iload_n dX10_round_106 rfl ?_
      refine ev_iald dX10_round_107 (by repeat (first | assumption | exact up_s | refine (up_n (by omega)).trans ?_)) _ rfl (by omega) (by omega) ?_
      refine ev_iast dX10_round_108 (by omega) (by repeat (first | assumption | exact up_s | refine (up_n (by omega)).trans ?_)) _ _ rfl rfl (by omega) (by omega) ?_
      refine ev_iincN (b := 1) dX10_round_109 rfl (Nat.le_of_ble_eq_true rfl) ?_
      refine ev_goto (tgt := 64) dX10_round_112 (by decide) ?_
      refine ev_sub ?_ (ih)
      repeat (first | exact trivial | refine ⟨rfl, ?_⟩)
    · have e2 : z + rsN G r P (x + 1) = z + rsN G r P x + 1 := by show z + (_ + ite _ _ _) = _; rw [if_neg q]; omega
      rw [e1, e2, ← QX_S (h := h) (Sh := rsS G r x P)] at ih
      refine ev_iload_n dX10_round_64 rfl ?_
      refine ev_bipush dX10_round_65 bp15 ?_
      refine ev_icmp_geF dX10_round_67 115 (by decide) (by first | assumption | exact nI_ge (by omega) (by omega) | decide) ?_
      refine ev_iload_n dX10_round_70 rfl ?_
      first | refine ev_aload_n dX10_round_71 rfl ?_ | refine ev_aload_nN dX10_round_71 rfl ?_
      refine ev_getfield dX10_round_72 fl_RX10_29 (by repeat (first | assumption | exact up_s | refine (up_n (by omega)).trans ?_)) rfl ?_
      refine ev_iload_n dX10_round_75 rfl ?_
      refine ev_iload_n dX10_round_76 rfl ?_
      first | refine ev_iaddN dX10_round_77 ?_ | refine ev_iadd dX10_round_77 ?_
      refine ev_iald dX10_round_78 (by repeat (first | assumption | exact up_s | refine (up_n (by omega)).trans ?_)) _ rfl (by omega) (by omega) ?_
      first | refine ev_aload_n dX10_round_79 rfl ?_ | refine ev_aload_nN dX10_round_79 rfl ?_
      refine ev_getfield dX10_round_80 fl_RX10_39 (by repeat (first | assumption | exact up_s | refine (up_n (by omega)).trans ?_)) rfl ?_
      refine ev_iload_n dX10_round_83 rfl ?_
      refine ev_iald dX10_round_84 (by repeat (first | assumption | exact up_s | refine (up_n (by omega)).trans ?_)) _ rfl (by omega) (by omega) ?_
      refine ev_icmp_eqF dX10_round_85 92 (by decide) (by first | assumption | exact n_ne (by omega) (by omega) (by omega) | decide) ?_
      refine ev_iconst dX10_round_88 ci1 ?_
      refine ev_goto (tgt := 93) dX10_round_89 (by decide) ?_
      first | refine ev_iaddN dX10_round_93 ?_ | refine ev_iadd dX10_round_93 ?_
      refine ev_istore_n dX10_round_94 (Nat.le_of_ble_eq_true rfl) ?_
      first | refine ev_aload_n dX10_round_95 rfl ?_ | refine ev_aload_nN dX10_round_95 rfl ?_
      refine ev_getfield dX10_round_96 fl_RX10_29 (by repeat (first | assumption | exact up_s | refine (up_n (by omega)).trans ?_)) rfl ?_
      refine ev_iload_n dX10_round_99 rfl ?_
      refine ev_iload_n dX10_round_100 rfl ?_
      first | refine ev_iaddN dX10_round_101 ?_ | refine ev_iadd dX10_round_101 ?_
      first | refine ev_aload_n dX10_round_102 rfl ?_ | refine ev_aload_nN dX10_round_102 rfl ?_
      refine ev_getfield dX10_round_103 fl_RX10_39 (by repeat (first | assumption | exact up_s | refine (up_n (by omega)).trans ?_)) rfl ?_
      refine ev_iload_n dX10_round_106 rfl ?_
      refine ev_iald dX10_round_107 (by repeat (first | assumption | exact up_s | refine (up_n (by omega)).trans ?_)) _ rfl (by omega) (by omega) ?_
      refine ev_iast dX10_round_108 (by omega) (by repeat (first | assumption | exact up_s | refine (up_n (by omega)).trans ?_)) _ _ rfl rfl (by omega) (by omega) ?_
      refine ev_iincN (b := 1) dX10_round_109 rfl (Nat.le_of_ble_eq_true rfl) ?_
      refine ev_goto (tgt := 64) dX10_round_112 (by decide) ?_
      refine ev_sub ?_ (ih)
      repeat (first | exact trivial | refine ⟨rfl, ?_⟩)
theorem lm_rr {P C : Nat → Nat} (g31 : h 31 = MO made F th) (g39 : h 39 = aL 480 C) (hC : ∀ k, C k ≤ 3000000000) (hP : SB P) :
    ∀ k y (G : Nat → Nat) (R : Nat → Int), y + k = 32 → ∃ G' R', Ev (d + 1) MX10_round 50 [(0, .ref 31), (1, .int (nI (apN C 0 P y))), (2, .int (nI (15 * y)))] [] n (QX h (apS C 0 y P) G R) (.inl (some (.int (nI (apN C 0 P 32)))), n, QX h (apS C 0 32 P) G' R', 0, 0) := by
  intro k
  induction k with
  | zero =>
    intro y G R hy
    have e : y = 32 := by omega
    subst e
    refine ⟨G, R, ?_⟩
    refine ev_iload_n dX10_round_50 rfl ?_
    refine ev_sipush dX10_round_51 sp480 ?_
    refine ev_icmp_geT (tgt := 121) dX10_round_54 (by decide) (by first | assumption | exact nI_le (by omega) (by omega) | decide) ?_
    refine ev_iload_n dX10_round_121 rfl ?_
    exact ev_ireturnE dX10_round_122 rfl (by rfl)
  | succ k ih =>
    intro y G R hy
    have e31 : QX h (apS C 0 y P) G R 31 = MO made F th := (QX_o (by omega)).trans g31
    obtain ⟨R1, rn⟩ := mm_renews (d := d) (n := n) (h := QX h (apS C 0 y P) G R) (r := 15 * y) e31 ((QX_o (by omega)).trans g39) hC (by omega) NX_41 NX_40
    obtain ⟨G2, R2, ih⟩ := ih (y + 1) (apF (fun x => C (15 * y + x))) R1 (by omega)
    rw [QX_NX] at rn
    refine ⟨G2, R2, ?_⟩
    have e1 : apN C 0 P (y + 1) = apN C 0 P y + rsN (apF (fun x => C (15 * y + x))) (15 * y) (apS C 0 y P) 15 := rfl
    have e2 : apS C 0 (y + 1) P = rsS (apF (fun x => C (15 * y + x))) (15 * y) 15 (apS C 0 y P) := rfl
    have e3 : 15 * (y + 1) = 15 * y + 15 := by omega
    rw [e1, e2, e3] at ih
    clear e1 e2 e3
    have hi := lm_ri (d := d + 1) (n := n) (h := h) (R := R1) (P := apS C 0 y P) (G := apF (fun x => C (15 * y + x))) (r := 15 * y) (z := apN C 0 P y) (o9 := (.inl (some (.int (nI (apN C 0 P 32)))), n, QX h (apS C 0 32 P) G2 R2, 0, 0)) g31 (apS_SB hP y) (fun k hk => apF_le _ hk) (by omega) (by
      refine ev_iincN (b := 15) dX10_round_115 rfl (Nat.le_of_ble_eq_true rfl) ?_
      refine ev_goto (tgt := 50) dX10_round_118 (by decide) ?_
      refine ev_sub ?_ (ih)
      repeat (first | exact trivial | refine ⟨rfl, ?_⟩)
      ) 15 0 (by omega)
    clear ih
    refine ev_iload_n dX10_round_50 rfl ?_
    refine ev_sipush dX10_round_51 sp480 ?_
    refine ev_icmp_geF dX10_round_54 121 (by decide) (by first | assumption | exact nI_ge (by omega) (by omega) | decide) ?_
    first | refine ev_aload_n dX10_round_57 rfl ?_ | refine ev_aload_nN dX10_round_57 rfl ?_
    refine ev_iload_n dX10_round_58 rfl ?_
    refine ev_V1v dX10_round_59 st_RX10_103 na_X10_renews (Nat.le_of_ble_eq_true rfl) (Nat.le_of_ble_eq_true rfl) (by repeat (first | assumption | exact up_s | refine (up_n (by omega)).trans ?_)) rfl (rn) ?_
    refine ev_iconst dX10_round_62 ci0 ?_
    refine ev_istore_n dX10_round_63 (Nat.le_of_ble_eq_true rfl) ?_
    refine ev_sub ?_ (hi)
    repeat (first | exact trivial | refine ⟨rfl, ?_⟩)
theorem mm_round (q : WF made t l w S W) (g : MS h th made t l w S W) : ∃ h', Ev (d + 3) MX10_round 0 (lv_args 0 [.ref 31]) [] n h (.inl (some (.int (nI (apN (roC t l w S made 0) 0 (S 0) 16 + apN (roC t l w S made 1) 0 (S 1) 16)))), n, h', 0, 0) ∧ MS h' 0 made t l w (nwS (roC t l w S made) S) W ∧ Fm h h' := by
  obtain ⟨⟨F, g31⟩, ga⟩ := g
  obtain ⟨sh0, b7, c7⟩ := ga.2.2.2.2.2.2.1
  obtain ⟨C, b8⟩ := ga.2.2.2.2.2.2.2.1
  obtain ⟨R, b9⟩ := ga.2.2.2.2.2.2.2.2.1
  obtain ⟨G, b10⟩ := ga.2.2.2.2.2.2.2.2.2.1
  obtain ⟨sh, hsh⟩ : ∃ sh : Nat → Nat, sh = fun c => if c < 480 then sh0 c else 0 := ⟨_, rfl⟩
  have gs : RX sh S := fun D c hD hc => by
    rw [hsh]
    show (if 240 * D + c < 480 then sh0 (240 * D + c) else 0) = _
    rw [if_pos (by omega)]
    exact c7 D c hD hc
  have hs : SB sh := fun c => by
    by_cases z : c < 480
    · have e := gs (c / 240) (c % 240) (by omega) (by omega)
      rw [show 240 * (c / 240) + c % 240 = c by omega] at e
      rw [e]
      exact q.2.2.2.2.1 (c / 240) (by omega) (c % 240)
    · rw [hsh]
      show (if c < 480 then sh0 c else 0) ≤ _
      rw [if_neg z]; omega
  have rx : RX (raF t l w sh made) (roC t l w S made) := raF_RX q gs made (Nat.le_refl _)
  rw [← RX_apN rx gs]
  have g1 : MA (va_up h 31 (MO made F 0)) made t l w S W := MA_31 ga
  have g2 : MA (va_up (va_up h 31 (MO made F 0)) 38 (aI 480 sh)) made t l w S W := MA_sh g1 gs
  have g3 : MA (va_up (va_up (va_up h 31 (MO made F 0)) 38 (aI 480 sh)) 39 (aL 480 (raF t l w sh made))) made t l w S W := MA_39 g2
  have e31 : va_up (va_up h 31 (MO made F 0)) 38 (aI 480 sh) 31 = MO made F 0 := (up_n (by omega)).trans up_s
  obtain ⟨G', R', rr⟩ := lm_rr (d := d + 2) (n := n) (F := F) (th := 0) (made := made) (P := sh) (h := va_up (va_up (va_up h 31 (MO made F 0)) 38 (aI 480 sh)) 39 (aL 480 (raF t l w sh made))) ((up_n (by omega)).trans e31) up_s (raF_le q sh) hs 32 0 G R (by omega)
  have e50 : QX (va_up (va_up (va_up h 31 (MO made F 0)) 38 (aI 480 sh)) 39 (aL 480 (raF t l w sh made))) (apS (raF t l w sh made) 0 0 sh) G R = va_up (va_up (va_up h 31 (MO made F 0)) 38 (aI 480 sh)) 39 (aL 480 (raF t l w sh made)) := by
    show NX (va_up (va_up (va_up (va_up h 31 (MO made F 0)) 38 (aI 480 sh)) 39 (aL 480 (raF t l w sh made))) 38 (aI 480 sh)) G R = _
    rw [show va_up (va_up (va_up (va_up h 31 (MO made F 0)) 38 (aI 480 sh)) 39 (aL 480 (raF t l w sh made))) 38 (aI 480 sh) = va_up (va_up (va_up h 31 (MO made F 0)) 38 (aI 480 sh)) 39 (aL 480 (raF t l w sh made)) from up_id ((up_n (by omega)).trans up_s)]
    exact NX_id ((up_n (by omega)).trans ((up_n (by omega)).trans ((up_n (by omega)).trans b10))) ((up_n (by omega)).trans ((up_n (by omega)).trans ((up_n (by omega)).trans b9)))
  rw [e50] at rr
  have rp := lm_rp (d := d) (n := n) (h := va_up (va_up h 31 (MO made F 0)) 38 (aI 480 sh)) (F := F) (th := 0) (o9 := (.inl (some (.int (nI (apN (raF t l w sh made) 0 sh 32)))), n, QX (va_up (va_up (va_up h 31 (MO made F 0)) 38 (aI 480 sh)) 39 (aL 480 (raF t l w sh made))) (apS (raF t l w sh made) 0 32 sh) G' R', 0, 0)) q e31 g2 up_s hs (by
    refine ev_iconst dX10_round_46 ci0 ?_
    refine ev_istore_n dX10_round_47 (Nat.le_of_ble_eq_true rfl) ?_
    refine ev_iconst dX10_round_48 ci0 ?_
    refine ev_istore_n dX10_round_49 (Nat.le_of_ble_eq_true rfl) ?_
    refine ev_sub ?_ (rr)
    repeat (first | exact trivial | refine ⟨rfl, ?_⟩)
    ) made 0 (by omega)
  clear rr
  refine ⟨QX (va_up (va_up (va_up h 31 (MO made F 0)) 38 (aI 480 sh)) 39 (aL 480 (raF t l w sh made))) (apS (raF t l w sh made) 0 32 sh) G' R', ?_, ⟨⟨F, (QX_o (by omega)).trans ((up_n (by omega)).trans e31)⟩, ?_⟩, Fm_up (Fm_up (Fm_up (Fm_up (Fm_up (Fm_up Fm_rfl (by omega)) (by omega)) (by omega)) (by omega)) (by omega)) (by omega)⟩
  · refine ev_ext (a := 38) (t := 0) (len := 480) (f := fun k => nI (sh0 k)) (f2 := fun k => nI (sh k)) (by omega) b7 (fun j hj => by rw [hsh]; show nI (sh0 j) = nI (if j < 480 then sh0 j else 0); rw [if_pos hj]) ?_
    have g31' : va_up h 38 (aI 480 sh) 31 = MO made F th := (up_n (by omega)).trans g31
    first | refine ev_aload_n dX10_round_0 rfl ?_ | refine ev_aload_nN dX10_round_0 rfl ?_
    refine ev_iconst dX10_round_1 ci0 ?_
    refine ev_putfield dX10_round_2 fl_RX10_48 (fit_10_17 _) (fun q => absurd q (by decide)) (by repeat (first | assumption | exact up_s | refine (up_n (by omega)).trans ?_)) (Nat.le_of_ble_eq_true rfl) ?_
    refine ev_heap (h2 := va_up (va_up h 31 (MO made F 0)) 38 (aI 480 sh)) (up_c (by omega)) ?_
    first | refine ev_aload_n dX10_round_5 rfl ?_ | refine ev_aload_nN dX10_round_5 rfl ?_
    refine ev_V0v dX10_round_6 st_RX10_84 na_X10_clears (Nat.le_of_ble_eq_true rfl) (Nat.le_of_ble_eq_true rfl) (by repeat (first | assumption | exact up_s | refine (up_n (by omega)).trans ?_)) rfl (mm_clears (C := C) (F := F) (th := 0) (made := made) e31 ((up_n (by omega)).trans ((up_n (by omega)).trans b8))) ?_
    refine ev_iconst dX10_round_9 ci0 ?_
    refine ev_istore_n dX10_round_10 (Nat.le_of_ble_eq_true rfl) ?_
    refine ev_sub ?_ (rp)
    repeat (first | exact trivial | refine ⟨rfl, ?_⟩)
  · obtain ⟨⟨a1, b1, c1⟩, ⟨a2, b2, c2⟩, ⟨a3, b3, c3⟩, ⟨a4, b4, c4⟩, ⟨a5, b5, c5⟩, ⟨a6, b6, c6⟩, -, ⟨a8, b8⟩, -, -, ⟨a11, b11⟩, ⟨a12, b12⟩⟩ := g3
    exact ⟨⟨a1, (QX_o (by omega)).trans b1, c1⟩, ⟨a2, (QX_o (by omega)).trans b2, c2⟩, ⟨a3, (QX_o (by omega)).trans b3, c3⟩, ⟨a4, (QX_o (by omega)).trans b4, c4⟩, ⟨a5, (QX_o (by omega)).trans b5, c5⟩, ⟨a6, (QX_o (by omega)).trans b6, c6⟩, ⟨_, QX_38, RX_apS rx⟩, ⟨a8, (QX_o (by omega)).trans b8⟩, ⟨R', NX_40⟩, ⟨G', NX_41⟩, ⟨a11, (QX_o (by omega)).trans b11⟩, ⟨a12, (QX_o (by omega)).trans b12⟩⟩
end MU
