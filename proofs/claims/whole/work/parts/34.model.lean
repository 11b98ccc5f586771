/-! the model: its state, what it is asked first -/
abbrev MO (made : Nat) (F : Nat → Nat) (th : Nat) : va_E := .inr (10, [.ref 32, .ref 33, .int (nI made), .ref 34, .ref 35, .ref 36, .ref 37, .ref 38, .ref 39, .ref 40, .ref 41, .ref 42, .ref 43, .int (nI (F 0)), .int (nI (F 1)), .int (nI (F 2)), .int (nI (F 3)), .int (nI th)])
def Fm (h h' : Hp) : Prop := ∀ a, a < 31 ∨ 43 < a → h' a = h a
theorem Fm_rfl {h : Hp} : Fm h h := fun _ _ => rfl
theorem Fm_trans {h h1 h2 : Hp} (a : Fm h h1) (b : Fm h1 h2) : Fm h h2 := fun x q => (b x q).trans (a x q)
theorem Fm_up {h h1 : Hp} {k : Nat} {e : va_E} (a : Fm h h1) (hk : 31 ≤ k ∧ k ≤ 43) : Fm h (va_up h1 k e) := fun x q => (up_n (by omega)).trans (a x q)
/-- what is well in a state -/
def WF (made : Nat) (t : Nat → Nat) (l : Nat → Nat → Nat) (w : Nat → Nat → Nat → Nat) (S : Nat → Nat → Nat) (W : Nat → Nat) : Prop := made ≤ 20 ∧ (∀ i, t i = 0 ∨ t i = 1) ∧ (∀ D i, D < 2 → i ≤ made → l D i ≤ 8) ∧ (∀ D i j, D < 2 → i ≤ made → j < l D i → w D i j < 15) ∧ (∀ D, D < 2 → SB (S D)) ∧ ∀ k, W k ≤ 9
theorem GS_WF {h : Hp} {made : Nat} {t : Nat → Nat} {l : Nat → Nat → Nat} {w : Nat → Nat → Nat → Nat} {S : Nat → Nat → Nat} {W : Nat → Nat} (g : GS h made t l w S W) : WF made t l w S W := by
  have hp : ∀ D i, D < 2 → i ≤ made → l D i ≤ 8 ∧ ∀ j, j < l D i → w D i j < 15 := fun D i hD hi => by
    have hs : ∃ p t', Pr h p t' (l 0 i) (w 0 i) (l 1 i) (w 1 i) := by
      by_cases q : i < made
      · exact ⟨_, _, GS_Pr g q⟩
      · have e : i = made := by omega
        subst e
        exact ⟨_, _, g.2.2.2.1⟩
    obtain ⟨p, t', hs⟩ := hs
    have hq := Pr_side hs (show D ≤ 1 by omega)
    exact ⟨hq.2.2.1, hq.2.2.2⟩
  refine ⟨g.2.1.2.2.1, g.2.1.2.2.2.2.1, fun D i hD hi => (hp D i hD hi).1, fun D i j hD hi hj => (hp D i hD hi).2 j hj, fun D hD => ?_, g.2.2.1.2.2.2.2.2.1.2.2⟩
  rcases (show D = 0 ∨ D = 1 by omega) with rfl | rfl
  · exact g.2.2.1.2.2.2.2.2.2.1
  · exact g.2.2.1.2.2.2.2.2.2.2
def MA (h : Hp) (made : Nat) (t : Nat → Nat) (l : Nat → Nat → Nat) (w : Nat → Nat → Nat → Nat) (S : Nat → Nat → Nat) (W : Nat → Nat) : Prop :=
  (∃ dd, h 32 = aI 2 dd ∧ ∀ D, D < 2 → dd D = l D made) ∧ (∃ dr, h 33 = aI 16 dr ∧ ∀ D j, D < 2 → j < l D made → dr (8 * D + j) = w D made j) ∧
  (∃ lo, h 34 = aI 40 lo ∧ ∀ D i, D < 2 → i < made → lo (2 * i + D) = l D i) ∧ (∃ wo, h 35 = aI 320 wo ∧ ∀ D i j, D < 2 → i < made → j < l D i → wo (16 * i + 8 * D + j) = w D i j) ∧
  (∃ go, h 36 = aZ 20 go ∧ ∀ i, i < 20 → go i = if i < made ∧ t i = 0 then 1 else 0) ∧ (∃ ww, h 37 = aI 5 ww ∧ ∀ k, k < 5 → ww k = W k) ∧
  (∃ sh, h 38 = aI 480 sh ∧ ∀ D c, D < 2 → c < 240 → sh (240 * D + c) = S D c) ∧ (∃ C, h 39 = aL 480 C) ∧ (∃ R, h 40 = aR 15 R) ∧ (∃ F, h 41 = aI 15 F) ∧ (∃ L, h 42 = aI 64 L) ∧ ∃ J, h 43 = aZ 64 J
def MS (h : Hp) (th made : Nat) (t : Nat → Nat) (l : Nat → Nat → Nat) (w : Nat → Nat → Nat → Nat) (S : Nat → Nat → Nat) (W : Nat → Nat) : Prop := (∃ F, h 31 = MO made F th) ∧ MA h made t l w S W
section MM
variable {d n : Nat} {h h' : Hp} {made th : Nat} {t : Nat → Nat} {l : Nat → Nat → Nat} {w : Nat → Nat → Nat → Nat} {S : Nat → Nat → Nat} {W : Nat → Nat} {F : Nat → Nat}
theorem MA_cg (e : ∀ a, 32 ≤ a → a ≤ 43 → h' a = h a) (g : MA h made t l w S W) : MA h' made t l w S W := by
  obtain ⟨⟨a1, b1, c1⟩, ⟨a2, b2, c2⟩, ⟨a3, b3, c3⟩, ⟨a4, b4, c4⟩, ⟨a5, b5, c5⟩, ⟨a6, b6, c6⟩, ⟨a7, b7, c7⟩, ⟨a8, b8⟩, ⟨a9, b9⟩, ⟨a10, b10⟩, ⟨a11, b11⟩, ⟨a12, b12⟩⟩ := g
  exact ⟨⟨a1, (e _ (by omega) (by omega)).trans b1, c1⟩, ⟨a2, (e _ (by omega) (by omega)).trans b2, c2⟩, ⟨a3, (e _ (by omega) (by omega)).trans b3, c3⟩, ⟨a4, (e _ (by omega) (by omega)).trans b4, c4⟩, ⟨a5, (e _ (by omega) (by omega)).trans b5, c5⟩, ⟨a6, (e _ (by omega) (by omega)).trans b6, c6⟩, ⟨a7, (e _ (by omega) (by omega)).trans b7, c7⟩, ⟨a8, (e _ (by omega) (by omega)).trans b8⟩, ⟨a9, (e _ (by omega) (by omega)).trans b9⟩, ⟨a10, (e _ (by omega) (by omega)).trans b10⟩, ⟨a11, (e _ (by omega) (by omega)).trans b11⟩, ⟨a12, (e _ (by omega) (by omega)).trans b12⟩⟩
theorem MS_cg (e : ∀ a, 31 ≤ a → a ≤ 43 → h' a = h a) (g : MS h th made t l w S W) : MS h' th made t l w S W := by
  obtain ⟨⟨F, f⟩, a⟩ := g
  exact ⟨⟨F, (e _ (by omega) (by omega)).trans f⟩, MA_cg (fun a q1 q2 => e a (by omega) q2) a⟩
theorem MA_31 {e : va_E} (g : MA h made t l w S W) : MA (va_up h 31 e) made t l w S W := MA_cg (fun a q1 q2 => up_n (by omega)) g
theorem mm_thrown (g : h 31 = MO made F th) : Ev d MX10_thrown 0 (lv_args 0 [.ref 31]) [] n h (.inl (some (.int (nI th))), n, h, 0, 0) := by
  first | refine ev_aload_n dX10_thrown_0 rfl ?_ | refine ev_aload_nN dX10_thrown_0 rfl ?_
  refine ev_getfield dX10_thrown_1 fl_RX10_48 (by repeat (first | assumption | exact up_s | refine (up_n (by omega)).trans ?_)) rfl ?_
  exact ev_ireturnE dX10_thrown_4 rfl (by rfl)
theorem mm_inT {j lo hi : Nat} (h1 : lo ≤ j) (h2 : j ≤ hi) (h3 : hi < 2 ^ 31) : Ev d MX10_in 0 (lv_args 0 [.int (nI j), .int (nI lo), .int (nI hi)]) [] n h (.inl (some (.int (nI 1))), n, h, 0, 0) := by
  refine ev_iload_n dX10_in_0 rfl ?_
  refine ev_iload_n dX10_in_1 rfl ?_
  refine ev_icmp_ltF dX10_in_2 14 (by decide) (by first | assumption | exact nI_nlt (by omega) (by omega) | decide) ?_
  refine ev_iload_n dX10_in_5 rfl ?_
  refine ev_iload_n dX10_in_6 rfl ?_
  refine ev_icmp_gtF dX10_in_7 14 (by decide) (by first | assumption | exact nI_nlt (by omega) (by omega) | decide) ?_
  refine ev_iconst dX10_in_10 ci1 ?_
  refine ev_goto (tgt := 15) dX10_in_11 (by decide) ?_
  exact ev_zreturnE dX10_in_15 rfl (by first | exact Or.inl rfl | exact Or.inr rfl | assumption | exact z01 (bI_01 _) | exact z01 (by omega)) (by rfl)
theorem mm_inG {j lo hi : Nat} (h2 : hi < j) (h3 : j < 2 ^ 31) (h4 : lo ≤ j) : Ev d MX10_in 0 (lv_args 0 [.int (nI j), .int (nI lo), .int (nI hi)]) [] n h (.inl (some (.int (nI 0))), n, h, 0, 0) := by
  refine ev_iload_n dX10_in_0 rfl ?_
  refine ev_iload_n dX10_in_1 rfl ?_
  refine ev_icmp_ltF dX10_in_2 14 (by decide) (by first | assumption | exact nI_nlt (by omega) (by omega) | decide) ?_
  refine ev_iload_n dX10_in_5 rfl ?_
  refine ev_iload_n dX10_in_6 rfl ?_
  refine ev_icmp_gtT (tgt := 14) dX10_in_7 (by decide) (by first | assumption | exact nI_lt (by omega) (by omega) | decide) ?_
  refine ev_iconst dX10_in_14 ci0 ?_
  exact ev_zreturnE dX10_in_15 rfl (by first | exact Or.inl rfl | exact Or.inr rfl | assumption | exact z01 (bI_01 _) | exact z01 (by omega)) (by rfl)
theorem mm_inL {j lo hi : Nat} (h1 : j < lo) (h3 : lo < 2 ^ 31) : Ev d MX10_in 0 (lv_args 0 [.int (nI j), .int (nI lo), .int (nI hi)]) [] n h (.inl (some (.int (nI 0))), n, h, 0, 0) := by
  refine ev_iload_n dX10_in_0 rfl ?_
  refine ev_iload_n dX10_in_1 rfl ?_
  refine ev_icmp_ltT (tgt := 14) dX10_in_2 (by decide) (by first | assumption | exact nI_lt (by omega) (by omega) | decide) ?_
  refine ev_iconst dX10_in_14 ci0 ?_
  exact ev_zreturnE dX10_in_15 rfl (by first | exact Or.inl rfl | exact Or.inr rfl | assumption | exact z01 (bI_01 _) | exact z01 (by omega)) (by rfl)
theorem mm_inF {x : Int32} {N : Nat} (hN : 0 < N) (hN2 : N < 2 ^ 31) (hx : ¬ inN x N) : Ev d MX10_in 0 (lv_args 0 [.int x, .int (nI 0), .int (nI (N - 1))]) [] n h (.inl (some (.int (nI 0))), n, h, 0, 0) := by
  rcases inN_not hx with q | ⟨j, q1, q2, rfl⟩
  · refine ev_iload_n dX10_in_0 rfl ?_
    refine ev_iload_n dX10_in_1 rfl ?_
    refine ev_icmp_ltT (tgt := 14) dX10_in_2 (by decide) (by rw [← nI_z]; exact q) ?_
    refine ev_iconst dX10_in_14 ci0 ?_
    exact ev_zreturnE dX10_in_15 rfl (by first | exact Or.inl rfl | exact Or.inr rfl | assumption | exact z01 (bI_01 _) | exact z01 (by omega)) (by rfl)
  · exact mm_inG (by omega) q2 (by omega)
theorem mm_goesT (g : h 31 = MO made F th) : Ev d MX10_goes 0 (lv_args 0 [.ref 31, .int (nI 1), .int (nI 1), .int (nI 1)]) [] n h (.inl (some (.int (nI 1))), n, va_up h 31 (MO made F 0), 0, 0) := by
  first | refine ev_aload_n dX10_goes_0 rfl ?_ | refine ev_aload_nN dX10_goes_0 rfl ?_
  refine ev_iload_n dX10_goes_1 rfl ?_
  refine ev_if_neT (tgt := 9) dX10_goes_2 (by decide) (by first | assumption | exact nI_ne0 (by omega) (by omega) | decide) ?_
  refine ev_iload_n dX10_goes_9 rfl ?_
  refine ev_if_neT (tgt := 17) dX10_goes_10 (by decide) (by first | assumption | exact nI_ne0 (by omega) (by omega) | decide) ?_
  refine ev_iload_n dX10_goes_17 rfl ?_
  refine ev_if_neT (tgt := 25) dX10_goes_18 (by decide) (by first | assumption | exact nI_ne0 (by omega) (by omega) | decide) ?_
  refine ev_iconst dX10_goes_25 ci0 ?_
  refine ev_putfield dX10_goes_26 fl_RX10_48 (fit_10_17 _) (fun q => absurd q (by decide)) (by repeat (first | assumption | exact up_s | refine (up_n (by omega)).trans ?_)) (Nat.le_of_ble_eq_true rfl) ?_
  first | refine ev_aload_n dX10_goes_29 rfl ?_ | refine ev_aload_nN dX10_goes_29 rfl ?_
  refine ev_getfield dX10_goes_30 fl_RX10_48 (by repeat (first | assumption | exact up_s | refine (up_n (by omega)).trans ?_)) rfl ?_
  refine ev_if_neF dX10_goes_33 40 (by decide) (by first | assumption | exact z_eq (by omega) | decide) ?_
  refine ev_iconst dX10_goes_36 ci1 ?_
  refine ev_goto (tgt := 41) dX10_goes_37 (by decide) ?_
  exact ev_zreturnE dX10_goes_41 rfl (by first | exact Or.inl rfl | exact Or.inr rfl | assumption | exact z01 (bI_01 _) | exact z01 (by omega)) (by rfl)
theorem mm_goes1 (g : h 31 = MO made F th) {b c : Int32} : Ev d MX10_goes 0 (lv_args 0 [.ref 31, .int (nI 0), .int b, .int c]) [] n h (.inl (some (.int (nI 0))), n, va_up h 31 (MO made F 1), 0, 0) := by
  first | refine ev_aload_n dX10_goes_0 rfl ?_ | refine ev_aload_nN dX10_goes_0 rfl ?_
  refine ev_iload_n dX10_goes_1 rfl ?_
  refine ev_if_neF dX10_goes_2 9 (by decide) (by first | assumption | exact z_eq (by omega) | decide) ?_
  refine ev_iconst dX10_goes_5 ci1 ?_
  refine ev_goto (tgt := 26) dX10_goes_6 (by decide) ?_
  refine ev_putfield dX10_goes_26 fl_RX10_48 (fit_10_17 _) (fun q => absurd q (by decide)) (by repeat (first | assumption | exact up_s | refine (up_n (by omega)).trans ?_)) (Nat.le_of_ble_eq_true rfl) ?_
  first | refine ev_aload_n dX10_goes_29 rfl ?_ | refine ev_aload_nN dX10_goes_29 rfl ?_
  refine ev_getfield dX10_goes_30 fl_RX10_48 (by repeat (first | assumption | exact up_s | refine (up_n (by omega)).trans ?_)) rfl ?_
  refine ev_if_neT (tgt := 40) dX10_goes_33 (by decide) (by first | assumption | exact nI_ne0 (by omega) (by omega) | decide) ?_
  refine ev_iconst dX10_goes_40 ci0 ?_
  exact ev_zreturnE dX10_goes_41 rfl (by first | exact Or.inl rfl | exact Or.inr rfl | assumption | exact z01 (bI_01 _) | exact z01 (by omega)) (by rfl)
theorem mm_goes2 (g : h 31 = MO made F th) {c : Int32} : Ev d MX10_goes 0 (lv_args 0 [.ref 31, .int (nI 1), .int (nI 0), .int c]) [] n h (.inl (some (.int (nI 0))), n, va_up h 31 (MO made F 2), 0, 0) := by
  first | refine ev_aload_n dX10_goes_0 rfl ?_ | refine ev_aload_nN dX10_goes_0 rfl ?_
  refine ev_iload_n dX10_goes_1 rfl ?_
  refine ev_if_neT (tgt := 9) dX10_goes_2 (by decide) (by first | assumption | exact nI_ne0 (by omega) (by omega) | decide) ?_
  refine ev_iload_n dX10_goes_9 rfl ?_
  refine ev_if_neF dX10_goes_10 17 (by decide) (by first | assumption | exact z_eq (by omega) | decide) ?_
  refine ev_iconst dX10_goes_13 ci2 ?_
  refine ev_goto (tgt := 26) dX10_goes_14 (by decide) ?_
  refine ev_putfield dX10_goes_26 fl_RX10_48 (fit_10_17 _) (fun q => absurd q (by decide)) (by repeat (first | assumption | exact up_s | refine (up_n (by omega)).trans ?_)) (Nat.le_of_ble_eq_true rfl) ?_
  first | refine ev_aload_n dX10_goes_29 rfl ?_ | refine ev_aload_nN dX10_goes_29 rfl ?_
  refine ev_getfield dX10_goes_30 fl_RX10_48 (by repeat (first | assumption | exact up_s | refine (up_n (by omega)).trans ?_)) rfl ?_
  refine ev_if_neT (tgt := 40) dX10_goes_33 (by decide) (by first | assumption | exact nI_ne0 (by omega) (by omega) | decide) ?_
  refine ev_iconst dX10_goes_40 ci0 ?_
  exact ev_zreturnE dX10_goes_41 rfl (by first | exact Or.inl rfl | exact Or.inr rfl | assumption | exact z01 (bI_01 _) | exact z01 (by omega)) (by rfl)
theorem mm_isThereT (g : h 31 = MO made F th) {go : Nat → Nat} (gg : h 36 = aZ 20 go) (hg : ∀ i, i < 20 → go i = if i < made ∧ t i = 0 then 1 else 0) (hm : made ≤ 20) {i : Nat} (hi : i < made) (ht : t i = 1) : Ev (d + 1) MX10_isThere 0 (lv_args 0 [.ref 31, .int (nI i)]) [] n h (.inl (some (.int (nI 1))), n, h, 0, 0) := by
  have e1 : go i = 0 := (hg i (by omega)).trans (if_neg (by omega))
  refine ev_iload_n dX10_isThere_0 rfl ?_
  refine ev_iconst dX10_isThere_1 ci0 ?_
  first | refine ev_aload_n dX10_isThere_2 rfl ?_ | refine ev_aload_nN dX10_isThere_2 rfl ?_
  refine ev_getfield dX10_isThere_3 fl_RX10_52 (by repeat (first | assumption | exact up_s | refine (up_n (by omega)).trans ?_)) rfl ?_
  refine ev_iconst dX10_isThere_6 ci1 ?_
  first | refine ev_isubN dX10_isThere_7 (by omega) ?_ | refine ev_isub dX10_isThere_7 ?_
  refine ev_S3 dX10_isThere_8 st_RX10_55 na_X10_in (Nat.le_of_ble_eq_true rfl) (Nat.le_of_ble_eq_true rfl) (mm_inT (by omega) (show i ≤ made - 1 by omega) (by omega)) ?_
  refine ev_if_eqF dX10_isThere_11 27 (by decide) (by first | assumption | exact nI_ne0 (by omega) (by omega) | decide) ?_
  first | refine ev_aload_n dX10_isThere_14 rfl ?_ | refine ev_aload_nN dX10_isThere_14 rfl ?_
  refine ev_getfield dX10_isThere_15 fl_RX10_22 (by repeat (first | assumption | exact up_s | refine (up_n (by omega)).trans ?_)) rfl ?_
  refine ev_iload_n dX10_isThere_18 rfl ?_
  refine ev_bald dX10_isThere_19 (by repeat (first | assumption | exact up_s | refine (up_n (by omega)).trans ?_)) _ rfl (by omega) (by omega) ?_
  refine ev_if_neF dX10_isThere_20 27 (by decide) (by first | assumption | exact z_eq (by omega) | decide) ?_
  refine ev_iconst dX10_isThere_23 ci1 ?_
  refine ev_goto (tgt := 28) dX10_isThere_24 (by decide) ?_
  exact ev_zreturnE dX10_isThere_28 rfl (by first | exact Or.inl rfl | exact Or.inr rfl | assumption | exact z01 (bI_01 _) | exact z01 (by omega)) (by rfl)
theorem mm_isThereF (g : h 31 = MO made F th) {go : Nat → Nat} (gg : h 36 = aZ 20 go) (hg : ∀ i, i < 20 → go i = if i < made ∧ t i = 0 then 1 else 0) (hm : made ≤ 20) (ht : ∀ i, t i = 0 ∨ t i = 1) {x : Int32} (hx : ¬ itIs x made t) : Ev (d + 1) MX10_isThere 0 (lv_args 0 [.ref 31, .int x]) [] n h (.inl (some (.int (nI 0))), n, h, 0, 0) := by
  by_cases hm0 : made = 0
  · subst hm0
    have hin : Ev d MX10_in 0 (lv_args 0 [.int x, .int (nI 0), .int (nI 0 - nI 1)]) [] n h (.inl (some (.int (nI 0))), n, h, 0, 0) := by
      rcases itIs_not ht hx with q | ⟨i, q1, q2, rfl⟩ | ⟨i, q1, -⟩
      · exact ev_iload_n dX10_in_0 rfl (ev_iload_n dX10_in_1 rfl (ev_icmp_ltT (tgt := 14) dX10_in_2 (by decide) (by rw [← nI_z]; exact q) (ev_iconst dX10_in_14 ci0 (ev_zreturnE dX10_in_15 rfl (Or.inl rfl) rfl))))
      · have e9 : nI 0 - nI 1 < nI i := by
          have e8 : nI 0 - nI 1 = -1 := by decide +kernel
          rw [e8]
          exact Int32.lt_of_lt_of_le (show (-1 : Int32) < 0 by decide) (nI_pos' (by omega))
        exact ev_iload_n dX10_in_0 rfl (ev_iload_n dX10_in_1 rfl (ev_icmp_ltF dX10_in_2 14 (by decide) (nI_nlt (by omega) (by omega)) (ev_iload_n dX10_in_5 rfl (ev_iload_n dX10_in_6 rfl (ev_icmp_gtT (tgt := 14) dX10_in_7 (by decide) e9 (ev_iconst dX10_in_14 ci0 (ev_zreturnE dX10_in_15 rfl (Or.inl rfl) rfl)))))))
      · exact absurd q1 (Nat.not_lt_zero _)
    refine ev_iload_n dX10_isThere_0 rfl ?_
    refine ev_iconst dX10_isThere_1 ci0 ?_
    first | refine ev_aload_n dX10_isThere_2 rfl ?_ | refine ev_aload_nN dX10_isThere_2 rfl ?_
    refine ev_getfield dX10_isThere_3 fl_RX10_52 (by repeat (first | assumption | exact up_s | refine (up_n (by omega)).trans ?_)) rfl ?_
    refine ev_iconst dX10_isThere_6 ci1 ?_
    first | refine ev_isubN dX10_isThere_7 (by omega) ?_ | refine ev_isub dX10_isThere_7 ?_
    refine ev_S3 dX10_isThere_8 st_RX10_55 na_X10_in (Nat.le_of_ble_eq_true rfl) (Nat.le_of_ble_eq_true rfl) (hin) ?_
    refine ev_if_eqT (tgt := 27) dX10_isThere_11 (by decide) (by first | assumption | exact z_eq (by omega) | decide) ?_
    refine ev_iconst dX10_isThere_27 ci0 ?_
    exact ev_zreturnE dX10_isThere_28 rfl (by first | exact Or.inl rfl | exact Or.inr rfl | assumption | exact z01 (bI_01 _) | exact z01 (by omega)) (by rfl)
  · rcases itIs_not ht hx with q | ⟨i, q1, q2, rfl⟩ | ⟨i, q1, q2, rfl⟩
    · refine ev_iload_n dX10_isThere_0 rfl ?_
      refine ev_iconst dX10_isThere_1 ci0 ?_
      first | refine ev_aload_n dX10_isThere_2 rfl ?_ | refine ev_aload_nN dX10_isThere_2 rfl ?_
      refine ev_getfield dX10_isThere_3 fl_RX10_52 (by repeat (first | assumption | exact up_s | refine (up_n (by omega)).trans ?_)) rfl ?_
      refine ev_iconst dX10_isThere_6 ci1 ?_
      first | refine ev_isubN dX10_isThere_7 (by omega) ?_ | refine ev_isub dX10_isThere_7 ?_
      refine ev_S3 dX10_isThere_8 st_RX10_55 na_X10_in (Nat.le_of_ble_eq_true rfl) (Nat.le_of_ble_eq_true rfl) (mm_inF (N := made) (by omega) (by omega) (fun ⟨j, c1, c2⟩ => absurd q (by rw [c2, nI_z]; exact nI_nlt (by omega) (by omega)))) ?_
      refine ev_if_eqT (tgt := 27) dX10_isThere_11 (by decide) (by first | assumption | exact z_eq (by omega) | decide) ?_
      refine ev_iconst dX10_isThere_27 ci0 ?_
      exact ev_zreturnE dX10_isThere_28 rfl (by first | exact Or.inl rfl | exact Or.inr rfl | assumption | exact z01 (bI_01 _) | exact z01 (by omega)) (by rfl)
    · refine ev_iload_n dX10_isThere_0 rfl ?_
      refine ev_iconst dX10_isThere_1 ci0 ?_
      first | refine ev_aload_n dX10_isThere_2 rfl ?_ | refine ev_aload_nN dX10_isThere_2 rfl ?_
      refine ev_getfield dX10_isThere_3 fl_RX10_52 (by repeat (first | assumption | exact up_s | refine (up_n (by omega)).trans ?_)) rfl ?_
      refine ev_iconst dX10_isThere_6 ci1 ?_
      first | refine ev_isubN dX10_isThere_7 (by omega) ?_ | refine ev_isub dX10_isThere_7 ?_
      refine ev_S3 dX10_isThere_8 st_RX10_55 na_X10_in (Nat.le_of_ble_eq_true rfl) (Nat.le_of_ble_eq_true rfl) (mm_inG (show made - 1 < i by omega) q2 (by omega)) ?_
      refine ev_if_eqT (tgt := 27) dX10_isThere_11 (by decide) (by first | assumption | exact z_eq (by omega) | decide) ?_
      refine ev_iconst dX10_isThere_27 ci0 ?_
      exact ev_zreturnE dX10_isThere_28 rfl (by first | exact Or.inl rfl | exact Or.inr rfl | assumption | exact z01 (bI_01 _) | exact z01 (by omega)) (by rfl)
    · have e1 : go i = 1 := (hg i (by omega)).trans (if_pos ⟨q1, q2⟩)
      refine ev_iload_n dX10_isThere_0 rfl ?_
      refine ev_iconst dX10_isThere_1 ci0 ?_
      first | refine ev_aload_n dX10_isThere_2 rfl ?_ | refine ev_aload_nN dX10_isThere_2 rfl ?_
      refine ev_getfield dX10_isThere_3 fl_RX10_52 (by repeat (first | assumption | exact up_s | refine (up_n (by omega)).trans ?_)) rfl ?_
      refine ev_iconst dX10_isThere_6 ci1 ?_
      first | refine ev_isubN dX10_isThere_7 (by omega) ?_ | refine ev_isub dX10_isThere_7 ?_
      refine ev_S3 dX10_isThere_8 st_RX10_55 na_X10_in (Nat.le_of_ble_eq_true rfl) (Nat.le_of_ble_eq_true rfl) (mm_inT (by omega) (show i ≤ made - 1 by omega) (by omega)) ?_
      refine ev_if_eqF dX10_isThere_11 27 (by decide) (by first | assumption | exact nI_ne0 (by omega) (by omega) | decide) ?_
      first | refine ev_aload_n dX10_isThere_14 rfl ?_ | refine ev_aload_nN dX10_isThere_14 rfl ?_
      refine ev_getfield dX10_isThere_15 fl_RX10_22 (by repeat (first | assumption | exact up_s | refine (up_n (by omega)).trans ?_)) rfl ?_
      refine ev_iload_n dX10_isThere_18 rfl ?_
      refine ev_bald dX10_isThere_19 (by repeat (first | assumption | exact up_s | refine (up_n (by omega)).trans ?_)) _ rfl (by omega) (by omega) ?_
      refine ev_if_neT (tgt := 27) dX10_isThere_20 (by decide) (by first | assumption | exact nI_ne0 (by omega) (by omega) | decide) ?_
      refine ev_iconst dX10_isThere_27 ci0 ?_
      exact ev_zreturnE dX10_isThere_28 rfl (by first | exact Or.inl rfl | exact Or.inr rfl | assumption | exact z01 (bI_01 _) | exact z01 (by omega)) (by rfl)
theorem mm_longOf (g : h 31 = MO made F th) {lo : Nat → Nat} (gg : h 34 = aI 40 lo) {i D : Nat} (hi : i < 20) (hD : D < 2) : Ev d MX10_longOf 0 (lv_args 0 [.ref 31, .int (nI i), .int (nI D)]) [] n h (.inl (some (.int (nI (lo (2 * i + D))))), n, h, 0, 0) := by
  first | refine ev_aload_n dX10_longOf_0 rfl ?_ | refine ev_aload_nN dX10_longOf_0 rfl ?_
  refine ev_getfield dX10_longOf_1 fl_RX10_16 (by repeat (first | assumption | exact up_s | refine (up_n (by omega)).trans ?_)) rfl ?_
  refine ev_iconst dX10_longOf_4 ci2 ?_
  refine ev_iload_n dX10_longOf_5 rfl ?_
  first | refine ev_imulN dX10_longOf_6 ?_ | refine ev_imul dX10_longOf_6 ?_
  refine ev_iload_n dX10_longOf_7 rfl ?_
  first | refine ev_iaddN dX10_longOf_8 ?_ | refine ev_iadd dX10_longOf_8 ?_
  refine ev_iald dX10_longOf_9 (by repeat (first | assumption | exact up_s | refine (up_n (by omega)).trans ?_)) _ rfl (by omega) (by omega) ?_
  exact ev_ireturnE dX10_longOf_10 rfl (by rfl)
theorem mm_wordAt (g : h 31 = MO made F th) {wo : Nat → Nat} (gg : h 35 = aI 320 wo) {i D j : Nat} (hi : i < 20) (hD : D < 2) (hj : j < 8) : Ev d MX10_wordAt 0 (lv_args 0 [.ref 31, .int (nI i), .int (nI D), .int (nI j)]) [] n h (.inl (some (.int (nI (wo (16 * i + 8 * D + j))))), n, h, 0, 0) := by
  first | refine ev_aload_n dX10_wordAt_0 rfl ?_ | refine ev_aload_nN dX10_wordAt_0 rfl ?_
  refine ev_getfield dX10_wordAt_1 fl_RX10_19 (by repeat (first | assumption | exact up_s | refine (up_n (by omega)).trans ?_)) rfl ?_
  refine ev_bipush dX10_wordAt_4 bp16 ?_
  refine ev_iload_n dX10_wordAt_6 rfl ?_
  first | refine ev_imulN dX10_wordAt_7 ?_ | refine ev_imul dX10_wordAt_7 ?_
  refine ev_bipush dX10_wordAt_8 bp8 ?_
  refine ev_iload_n dX10_wordAt_10 rfl ?_
  first | refine ev_imulN dX10_wordAt_11 ?_ | refine ev_imul dX10_wordAt_11 ?_
  first | refine ev_iaddN dX10_wordAt_12 ?_ | refine ev_iadd dX10_wordAt_12 ?_
  refine ev_iload_n dX10_wordAt_13 rfl ?_
  first | refine ev_iaddN dX10_wordAt_14 ?_ | refine ev_iadd dX10_wordAt_14 ?_
  refine ev_iald dX10_wordAt_15 (by repeat (first | assumption | exact up_s | refine (up_n (by omega)).trans ?_)) _ rfl (by omega) (by omega) ?_
  exact ev_ireturnE dX10_wordAt_16 rfl (by rfl)
theorem mm_at {D x o : Nat} : Ev d MX10_at 0 (lv_args 0 [.int (nI D), .int (nI x), .int (nI o)]) [] n h (.inl (some (.int (nI (240 * D + 15 * x + o)))), n, h, 0, 0) := by
  refine ev_sipush dX10_at_0 sp240 ?_
  refine ev_iload_n dX10_at_3 rfl ?_
  first | refine ev_imulN dX10_at_4 ?_ | refine ev_imul dX10_at_4 ?_
  refine ev_bipush dX10_at_5 bp15 ?_
  refine ev_iload_n dX10_at_7 rfl ?_
  first | refine ev_imulN dX10_at_8 ?_ | refine ev_imul dX10_at_8 ?_
  first | refine ev_iaddN dX10_at_9 ?_ | refine ev_iadd dX10_at_9 ?_
  refine ev_iload_n dX10_at_10 rfl ?_
  first | refine ev_iaddN dX10_at_11 ?_ | refine ev_iadd dX10_at_11 ?_
  exact ev_ireturnE dX10_at_12 rfl (by rfl)
end MM
