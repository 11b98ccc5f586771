/-! the class from outside: what changes it -/
section M9F
variable {d n : Nat} {h h' : Hp} {made : Nat} {t t' : Nat → Nat} {l l' : Nat → Nat → Nat} {w w' : Nat → Nat → Nat → Nat} {S : Nat → Nat → Nat} {W : Nat → Nat}
theorem GS_draft (g : GS h made t l w S W) (e : ∀ a, a < pp made + 1 ∨ pp made + 4 < a → h' a = h a) (hl : ∀ D i, i < made → l' D i = l D i) (hw : ∀ D i, i < made → w' D i = w D i) (hp : Pr h' (pp made) 0 (l' 0 made) (w' 0 made) (l' 1 made) (w' 1 made)) : GS h' made t l' w' S W := by
  obtain ⟨g1, ⟨c1, c2, c3, c4, c5, c6⟩, ⟨k1, k2, k3, k4, k5, k6, k7⟩, g4, ⟨a0, a1, B, E, J, x1, x2, x3, x4⟩, ⟨C1, F1, y1, y2⟩, ⟨P, N, A, z1, z2⟩, ⟨C2, F2, R2, u1, u2, u3⟩, ⟨C3, F3, R3, v1, v2, v3⟩⟩ := g
  have hm := pp_gap made
  refine ⟨(e _ (by omega)).trans g1, ⟨(e _ (by omega)).trans c1, (e _ (by omega)).trans c2, c3, c4, c5, fun i hi => ?_⟩, ⟨(e _ (by omega)).trans k1, (e _ (by omega)).trans k2, (e _ (by omega)).trans k3, (e _ (by omega)).trans k4, (e _ (by omega)).trans k5, ⟨(e _ (by omega)).trans k6.1, (e _ (by omega)).trans k6.2.1, k6.2.2⟩, k7⟩, hp,
    ⟨a0, a1, B, E, J, (e _ (by omega)).trans x1, (e _ (by omega)).trans x2, (e _ (by omega)).trans x3, (e _ (by omega)).trans x4⟩, ⟨C1, F1, (e _ (by omega)).trans y1, (e _ (by omega)).trans y2⟩, ⟨P, N, A, (e _ (by omega)).trans z1, (e _ (by omega)).trans z2⟩, ⟨C2, F2, R2, (e _ (by omega)).trans u1, (e _ (by omega)).trans u2, (e _ (by omega)).trans u3⟩, ⟨C3, F3, R3, (e _ (by omega)).trans v1, (e _ (by omega)).trans v2, (e _ (by omega)).trans v3⟩⟩
  rw [hl 0 i hi, hl 1 i hi, hw 0 i hi, hw 1 i hi]
  exact Pr_cg (fun k hk => e _ (by have := pp_inj (show i ≠ made by omega); omega)) (c6 i hi)
/-- one more word in a draft -/
def lP (l : Nat → Nat → Nat) (D made v : Nat) : Nat → Nat → Nat := fun D' i => if D' = D ∧ i = made then v else l D' i
def wP (w : Nat → Nat → Nat → Nat) (D made k v : Nat) : Nat → Nat → Nat → Nat := fun D' i => if D' = D ∧ i = made then va_up (w D made) k v else w D' i
theorem Sn_app {a len v : Nat} {w0 : Nat → Nat} (g : Sn h a len w0) (hl : len < 8) (hv : v < 15) : Sn (va_up (va_up h (a + 1) (aI 8 (va_up w0 len v))) a (.inr (6, [.ref (a + 1), .int (nI (len + 1))]))) a (len + 1) (va_up w0 len v) :=
  ⟨up_s, (up_n (by omega)).trans up_s, by omega, fun j hj => by
    unfold va_up
    split
    · exact hv
    · exact g.2.2.2 j (by omega)⟩
theorem m9_putT (g : GS h made t l w S W) {D x : Nat} (hD : D < 2) (hx : x < 15) (hl : l D made < 8) : ∃ h', Ev (d + 3) MX9_put 0 (lv_args 0 [.ref 2, .int (nI D), .int (nI x)]) [] n h (.inl (some (.int (nI (l D made + 1)))), n, h', 0, 0) ∧ GS h' made t (lP l D made (l D made + 1)) (wP w D made (l D made) x) S W ∧ Fr h h' := by
  have g1 := g.1
  have hp := g.2.2.2.1
  have hp1 := hp.1
  have hm := pp_gap made
  have hs := Pr_side hp (show D ≤ 1 by omega)
  have hs1 := hs.1
  have ha := Sn_app hs hl hx
  have e2 : bI (8 ≤ l D made) = 0 := bI_f (by omega)
  refine ⟨va_up (va_up h (pp made + 1 + 2 * D + 1) (aI 8 (va_up (w D made) (l D made) x))) (pp made + 1 + 2 * D) (.inr (6, [.ref (pp made + 1 + 2 * D + 1), .int (nI (l D made + 1))])), ?_, GS_draft g (fun a q => (up_n (by omega)).trans (up_n (by omega))) (fun D' i hi => if_neg (by omega)) (fun D' i hi => if_neg (by omega)) ?_, Fr_up (Fr_up Fr_rfl (by omega)) (by omega)⟩
  · refine ev_iload_n dX9_put_0 rfl ?_
    refine ev_S1 dX9_put_1 st_RX9_51 na_X9_isSide (Nat.le_of_ble_eq_true rfl) (Nat.le_of_ble_eq_true rfl) (m9_isSideT hD) ?_
    refine ev_if_eqF dX9_put_4 14 (by decide) (by first | assumption | exact nI_ne0 (by omega) (by omega) | decide) ?_
    refine ev_iload_n dX9_put_7 rfl ?_
    refine ev_S1 dX9_put_8 st_RX9_55 na_X9_isWord (Nat.le_of_ble_eq_true rfl) (Nat.le_of_ble_eq_true rfl) (m9_isWordT hx) ?_
    refine ev_if_neT (tgt := 24) dX9_put_11 (by decide) (by first | assumption | exact nI_ne0 (by omega) (by omega) | decide) ?_
    first | refine ev_aload_n dX9_put_24 rfl ?_ | refine ev_aload_nN dX9_put_24 rfl ?_
    refine ev_getfield dX9_put_25 fl_RX9_47 (by repeat (first | assumption | exact up_s | refine (up_n (by omega)).trans ?_)) rfl ?_
    refine ev_iload_n dX9_put_28 rfl ?_
    refine ev_V1 dX9_put_29 st_RX9_65 na_X7_ofSide (Nat.le_of_ble_eq_true rfl) (Nat.le_of_ble_eq_true rfl) (by repeat (first | assumption | exact up_s | refine (up_n (by omega)).trans ?_)) rfl (m7_of hp (show D ≤ 1 by omega)) ?_
    first | refine ev_astore_n dX9_put_32 (Nat.le_of_ble_eq_true rfl) ?_ | refine ev_astore_nN dX9_put_32 (Nat.le_of_ble_eq_true rfl) ?_
    first | refine ev_aload_n dX9_put_33 rfl ?_ | refine ev_aload_nN dX9_put_33 rfl ?_
    refine ev_V0 dX9_put_34 st_RX9_69 na_X6_isFull (Nat.le_of_ble_eq_true rfl) (Nat.le_of_ble_eq_true rfl) (by repeat (first | assumption | exact up_s | refine (up_n (by omega)).trans ?_)) rfl (m6_isFull hs) ?_
    refine ev_if_eqT (tgt := 50) dX9_put_37 (by decide) (by first | assumption | exact z_eq (by omega) | decide) ?_
    first | refine ev_aload_n dX9_put_50 rfl ?_ | refine ev_aload_nN dX9_put_50 rfl ?_
    refine ev_iload_n dX9_put_51 rfl ?_
    refine ev_V1v dX9_put_52 st_RX9_80 na_X6_append (Nat.le_of_ble_eq_true rfl) (Nat.le_of_ble_eq_true rfl) (by repeat (first | assumption | exact up_s | refine (up_n (by omega)).trans ?_)) rfl (m6_append hs (by omega) hl x) ?_
    first | refine ev_aload_n dX9_put_55 rfl ?_ | refine ev_aload_nN dX9_put_55 rfl ?_
    refine ev_V0 dX9_put_56 st_RX9_84 na_X6_length (Nat.le_of_ble_eq_true rfl) (Nat.le_of_ble_eq_true rfl) (by repeat (first | assumption | exact up_s | refine (up_n (by omega)).trans ?_)) rfl (m6_length ha) ?_
    exact ev_ireturnE dX9_put_59 rfl (by rfl)
  · rcases (show D = 0 ∨ D = 1 by omega) with rfl | rfl
    · refine ⟨(up_n (by omega)).trans ((up_n (by omega)).trans hp.1), ?_, ?_⟩
      · rw [show lP l 0 made (l 0 made + 1) 0 made = l 0 made + 1 from if_pos ⟨rfl, rfl⟩, show wP w 0 made (l 0 made) x 0 made = va_up (w 0 made) (l 0 made) x from if_pos ⟨rfl, rfl⟩]
        exact ha
      · rw [show lP l 0 made (l 0 made + 1) 1 made = l 1 made from if_neg (by omega), show wP w 0 made (l 0 made) x 1 made = w 1 made from if_neg (by omega)]
        exact Sn_up (Sn_up hp.2.2 (by omega) (by omega)) (by omega) (by omega)
    · refine ⟨(up_n (by omega)).trans ((up_n (by omega)).trans hp.1), ?_, ?_⟩
      · rw [show lP l 1 made (l 1 made + 1) 0 made = l 0 made from if_neg (by omega), show wP w 1 made (l 1 made) x 0 made = w 0 made from if_neg (by omega)]
        exact Sn_up (Sn_up hp.2.1 (by omega) (by omega)) (by omega) (by omega)
      · rw [show lP l 1 made (l 1 made + 1) 1 made = l 1 made + 1 from if_pos ⟨rfl, rfl⟩, show wP w 1 made (l 1 made) x 1 made = va_up (w 1 made) (l 1 made) x from if_pos ⟨rfl, rfl⟩]
        exact ha
theorem m9_put1 {x y : Int32} (hx : ¬ inN x 2 ∨ ¬ inN y 15) : Ev (d + 3) MX9_put 0 (lv_args 0 [.ref 2, .int x, .int y]) [] n h (.inr IOE, n, h, 1, 6) := by
  by_cases q : inN x 2
  · obtain ⟨D, hD, rfl⟩ := q
    have q2 := hx.resolve_left (fun c => c ⟨D, hD, rfl⟩)
    refine ev_iload_n dX9_put_0 rfl ?_
    refine ev_S1 dX9_put_1 st_RX9_51 na_X9_isSide (Nat.le_of_ble_eq_true rfl) (Nat.le_of_ble_eq_true rfl) (m9_isSideT hD) ?_
    refine ev_if_eqF dX9_put_4 14 (by decide) (by first | assumption | exact nI_ne0 (by omega) (by omega) | decide) ?_
    refine ev_iload_n dX9_put_7 rfl ?_
    refine ev_S1 dX9_put_8 st_RX9_55 na_X9_isWord (Nat.le_of_ble_eq_true rfl) (Nat.le_of_ble_eq_true rfl) (m9_isWordF q2) ?_
    refine ev_if_neF dX9_put_11 24 (by decide) (by first | assumption | exact z_eq (by omega) | decide) ?_
    exact ev_throwS th_X9_put_14 (Nat.le_of_ble_eq_true rfl) rfl
  · refine ev_iload_n dX9_put_0 rfl ?_
    refine ev_S1 dX9_put_1 st_RX9_51 na_X9_isSide (Nat.le_of_ble_eq_true rfl) (Nat.le_of_ble_eq_true rfl) (m9_isSideF q) ?_
    refine ev_if_eqT (tgt := 14) dX9_put_4 (by decide) (by first | assumption | exact z_eq (by omega) | decide) ?_
    exact ev_throwS th_X9_put_14 (Nat.le_of_ble_eq_true rfl) rfl
theorem m9_put2 (g : GS h made t l w S W) {D x : Nat} (hD : D < 2) (hx : x < 15) (hl : 8 ≤ l D made) : Ev (d + 3) MX9_put 0 (lv_args 0 [.ref 2, .int (nI D), .int (nI x)]) [] n h (.inr "java/lang/IllegalStateException", n, h, 1, 6) := by
  have g1 := g.1
  have hp := g.2.2.2.1
  have hp1 := hp.1
  have hs := Pr_side hp (show D ≤ 1 by omega)
  have hs1 := hs.1
  have e2 : bI (8 ≤ l D made) = 1 := bI_t hl
  refine ev_iload_n dX9_put_0 rfl ?_
  refine ev_S1 dX9_put_1 st_RX9_51 na_X9_isSide (Nat.le_of_ble_eq_true rfl) (Nat.le_of_ble_eq_true rfl) (m9_isSideT hD) ?_
  refine ev_if_eqF dX9_put_4 14 (by decide) (by first | assumption | exact nI_ne0 (by omega) (by omega) | decide) ?_
  refine ev_iload_n dX9_put_7 rfl ?_
  refine ev_S1 dX9_put_8 st_RX9_55 na_X9_isWord (Nat.le_of_ble_eq_true rfl) (Nat.le_of_ble_eq_true rfl) (m9_isWordT hx) ?_
  refine ev_if_neT (tgt := 24) dX9_put_11 (by decide) (by first | assumption | exact nI_ne0 (by omega) (by omega) | decide) ?_
  first | refine ev_aload_n dX9_put_24 rfl ?_ | refine ev_aload_nN dX9_put_24 rfl ?_
  refine ev_getfield dX9_put_25 fl_RX9_47 (by repeat (first | assumption | exact up_s | refine (up_n (by omega)).trans ?_)) rfl ?_
  refine ev_iload_n dX9_put_28 rfl ?_
  refine ev_V1 dX9_put_29 st_RX9_65 na_X7_ofSide (Nat.le_of_ble_eq_true rfl) (Nat.le_of_ble_eq_true rfl) (by repeat (first | assumption | exact up_s | refine (up_n (by omega)).trans ?_)) rfl (m7_of hp (show D ≤ 1 by omega)) ?_
  first | refine ev_astore_n dX9_put_32 (Nat.le_of_ble_eq_true rfl) ?_ | refine ev_astore_nN dX9_put_32 (Nat.le_of_ble_eq_true rfl) ?_
  first | refine ev_aload_n dX9_put_33 rfl ?_ | refine ev_aload_nN dX9_put_33 rfl ?_
  refine ev_V0 dX9_put_34 st_RX9_69 na_X6_isFull (Nat.le_of_ble_eq_true rfl) (Nat.le_of_ble_eq_true rfl) (by repeat (first | assumption | exact up_s | refine (up_n (by omega)).trans ?_)) rfl (m6_isFull hs) ?_
  refine ev_if_eqF dX9_put_37 50 (by decide) (by first | assumption | exact nI_ne0 (by omega) (by omega) | decide) ?_
  exact ev_throwS th_X9_put_40 (Nat.le_of_ble_eq_true rfl) rfl
/-- drafts wiped -/
def lW (l : Nat → Nat → Nat) (made : Nat) : Nat → Nat → Nat := fun D i => if i = made then 0 else l D i
theorem Sn_clr {a len : Nat} {w0 : Nat → Nat} (g : Sn h a len w0) : Sn (va_up h a (.inr (6, [.ref (a + 1), .int (nI 0)]))) a 0 w0 :=
  ⟨up_s, (up_n (by omega)).trans g.2.1, by omega, fun j hj => absurd hj (Nat.not_lt_zero _)⟩
theorem m9_wipe (g : GS h made t l w S W) : ∃ h', Ev (d + 3) MX9_wipe 0 (lv_args 0 [.ref 2]) [] n h (.inl (some (.int (nI (l 0 made + l 1 made)))), n, h', 0, 0) ∧ GS h' made t (lW l made) w S W ∧ Fr h h' := by
  have g1 := g.1
  have hp := g.2.2.2.1
  have hp1 := hp.1
  have hm := pp_gap made
  have hs2 := hp.2.1.1
  have hs3 := hp.2.2.1
  have c1 := Sn_clr hp.2.1
  have hq : Pr (va_up h (pp made + 1) (.inr (6, [.ref (pp made + 1 + 1), .int (nI 0)]))) (pp made) 0 0 (w 0 made) (l 1 made) (w 1 made) := ⟨(up_n (by omega)).trans hp.1, c1, Sn_up hp.2.2 (by omega) (by omega)⟩
  have hq3 := hq.2.2.1
  refine ⟨va_up (va_up h (pp made + 1) (.inr (6, [.ref (pp made + 1 + 1), .int (nI 0)]))) (pp made + 3) (.inr (6, [.ref (pp made + 3 + 1), .int (nI 0)])), ?_, GS_draft g (fun a q => (up_n (by omega)).trans (up_n (by omega))) (fun D' i hi => if_neg (by omega)) (fun D' i hi => rfl) ?_, Fr_up (Fr_up Fr_rfl (by omega)) (by omega)⟩
  · first | refine ev_aload_n dX9_wipe_0 rfl ?_ | refine ev_aload_nN dX9_wipe_0 rfl ?_
    refine ev_getfield dX9_wipe_1 fl_RX9_47 (by repeat (first | assumption | exact up_s | refine (up_n (by omega)).trans ?_)) rfl ?_
    refine ev_iconst dX9_wipe_4 ci0 ?_
    refine ev_V1 dX9_wipe_5 st_RX9_65 na_X7_ofSide (Nat.le_of_ble_eq_true rfl) (Nat.le_of_ble_eq_true rfl) (by repeat (first | assumption | exact up_s | refine (up_n (by omega)).trans ?_)) rfl (m7_of0 hp) ?_
    refine ev_V0 dX9_wipe_8 st_RX9_84 na_X6_length (Nat.le_of_ble_eq_true rfl) (Nat.le_of_ble_eq_true rfl) (by repeat (first | assumption | exact up_s | refine (up_n (by omega)).trans ?_)) rfl (m6_length hp.2.1) ?_
    first | refine ev_aload_n dX9_wipe_11 rfl ?_ | refine ev_aload_nN dX9_wipe_11 rfl ?_
    refine ev_getfield dX9_wipe_12 fl_RX9_47 (by repeat (first | assumption | exact up_s | refine (up_n (by omega)).trans ?_)) rfl ?_
    refine ev_iconst dX9_wipe_15 ci1 ?_
    refine ev_V1 dX9_wipe_16 st_RX9_65 na_X7_ofSide (Nat.le_of_ble_eq_true rfl) (Nat.le_of_ble_eq_true rfl) (by repeat (first | assumption | exact up_s | refine (up_n (by omega)).trans ?_)) rfl (m7_of1 hp) ?_
    refine ev_V0 dX9_wipe_19 st_RX9_84 na_X6_length (Nat.le_of_ble_eq_true rfl) (Nat.le_of_ble_eq_true rfl) (by repeat (first | assumption | exact up_s | refine (up_n (by omega)).trans ?_)) rfl (m6_length hp.2.2) ?_
    first | refine ev_iaddN dX9_wipe_22 ?_ | refine ev_iadd dX9_wipe_22 ?_
    refine ev_istore_n dX9_wipe_23 (Nat.le_of_ble_eq_true rfl) ?_
    first | refine ev_aload_n dX9_wipe_24 rfl ?_ | refine ev_aload_nN dX9_wipe_24 rfl ?_
    refine ev_getfield dX9_wipe_25 fl_RX9_47 (by repeat (first | assumption | exact up_s | refine (up_n (by omega)).trans ?_)) rfl ?_
    refine ev_iconst dX9_wipe_28 ci0 ?_
    refine ev_V1 dX9_wipe_29 st_RX9_65 na_X7_ofSide (Nat.le_of_ble_eq_true rfl) (Nat.le_of_ble_eq_true rfl) (by repeat (first | assumption | exact up_s | refine (up_n (by omega)).trans ?_)) rfl (m7_of0 hp) ?_
    refine ev_V0v dX9_wipe_32 st_RX9_88 na_X6_clear (Nat.le_of_ble_eq_true rfl) (Nat.le_of_ble_eq_true rfl) (by repeat (first | assumption | exact up_s | refine (up_n (by omega)).trans ?_)) rfl (m6_clear hp.2.1) ?_
    first | refine ev_aload_n dX9_wipe_35 rfl ?_ | refine ev_aload_nN dX9_wipe_35 rfl ?_
    refine ev_getfield dX9_wipe_36 fl_RX9_47 (by repeat (first | assumption | exact up_s | refine (up_n (by omega)).trans ?_)) rfl ?_
    refine ev_iconst dX9_wipe_39 ci1 ?_
    refine ev_V1 dX9_wipe_40 st_RX9_65 na_X7_ofSide (Nat.le_of_ble_eq_true rfl) (Nat.le_of_ble_eq_true rfl) (by repeat (first | assumption | exact up_s | refine (up_n (by omega)).trans ?_)) rfl (m7_of1 hq) ?_
    refine ev_V0v dX9_wipe_43 st_RX9_88 na_X6_clear (Nat.le_of_ble_eq_true rfl) (Nat.le_of_ble_eq_true rfl) (by repeat (first | assumption | exact up_s | refine (up_n (by omega)).trans ?_)) rfl (m6_clear hq.2.2) ?_
    refine ev_iload_n dX9_wipe_46 rfl ?_
    exact ev_ireturnE dX9_wipe_47 rfl (by rfl)
  · rw [show lW l made 0 made = 0 from if_pos rfl, show lW l made 1 made = 0 from if_pos rfl]
    exact ⟨(up_n (by omega)).trans hq.1, Sn_up c1 (by omega) (by omega), Sn_clr hq.2.2⟩
theorem sumN_pos {f : Nat → Nat} {i : Nat} : ∀ k, i < k → 0 < f i → 0 < sumN f k
  | 0, h, _ => absurd h (Nat.not_lt_zero _)
  | k + 1, h, hf => by
    show 0 < sumN f k + f k
    by_cases e : i = k
    · subst e; omega
    · have := sumN_pos k (by omega) hf; omega
theorem sumN_take {f : Nat → Nat} {i : Nat} : ∀ k, i < k → f i = 1 → sumN (va_up f i 0) k = sumN f k - 1
  | 0, h, _ => absurd h (Nat.not_lt_zero _)
  | k + 1, h, hf => by
    show sumN (va_up f i 0) k + va_up f i 0 k = sumN f k + f k - 1
    by_cases e : i = k
    · subst e
      rw [show va_up f i 0 i = 0 from if_pos rfl, sumN_congr (f := va_up f i 0) (g := f) (fun j hj => if_neg (by omega))]
      omega
    · have h1 := sumN_take k (by omega) hf
      have h2 := sumN_pos k (show i < k by omega) (show 0 < f i by omega)
      rw [show va_up f i 0 k = f k from if_neg (by omega)]
      omega
theorem m9_takeBackT (g : GS h made t l w S W) {i : Nat} (hi : i < made) (ht : t i = 1) : ∃ h', Ev (d + 3) MX9_takeBack 0 (lv_args 0 [.ref 2, .int (nI i)]) [] n h (.inl (some (.int (nI (sumN (va_up t i 0) made)))), n, h', 0, 0) ∧ GS h' made (va_up t i 0) l w S W ∧ Fr h h' := by
  have g1 := g.1
  have hm := pp_gap made
  have hpi := pp_gap i
  have hs := sumN_pos made hi (show 0 < t i by omega)
  have es := sumN_take made hi ht
  have c1 := g.2.1.1
  have rm := m1_remove (d := d + 1) (n := n) g.2.1 hi ht hs
  rw [← es] at rm
  have hp := GS_Pr g hi
  have gC : Cp (va_up (va_up h (pp i) (.inr (7, [.ref (pp i + 1), .ref (pp i + 3), .int (nI 0)]))) 3 (.inr (1, [.ref 4, .int (nI made), .int (nI (sumN (va_up t i 0) made))]))) made (sumN (va_up t i 0) made) (va_up t i 0) l w := by
    obtain ⟨_, c2, c3, c4, c5, c6⟩ := g.2.1
    refine ⟨up_s, (up_n (by omega)).trans ((up_n (by omega)).trans c2), c3, by omega, fun j => ?_, fun j hj => ?_⟩
    · unfold va_up
      split
      · exact Or.inl rfl
      · exact c5 j
    · have hpj := pp_gap j
      by_cases e : j = i
      · subst e
        rw [show va_up t j 0 j = 0 from if_pos rfl]
        refine Pr_up (k := 3) ⟨up_s, Sn_up hp.2.1 (by omega) (by omega), Sn_up hp.2.2 (by omega) (by omega)⟩ (by omega)
      · rw [show va_up t i 0 j = t j from if_neg e]
        have := pp_inj e
        exact Pr_up (Pr_up (c6 j hj) (by omega)) (by omega)
  have hin := pp_inj (show i ≠ made by omega)
  refine ⟨_, ?_, ⟨(up_n (by omega)).trans ((up_n (by omega)).trans g1), gC, ?_, Pr_up (Pr_up g.2.2.2.1 (by omega)) (by omega), ?_, ?_, ?_, ?_, ?_⟩, Fr_up (Fr_up Fr_rfl (by omega)) (by omega)⟩
  · first | refine ev_aload_n dX9_takeBack_0 rfl ?_ | refine ev_aload_nN dX9_takeBack_0 rfl ?_
    refine ev_iload_n dX9_takeBack_1 rfl ?_
    refine ev_V1 dX9_takeBack_2 st_RX9_100 na_X9_pairThatIsThere (Nat.le_of_ble_eq_true rfl) (Nat.le_of_ble_eq_true rfl) (by repeat (first | assumption | exact up_s | refine (up_n (by omega)).trans ?_)) rfl (m9_pairT g hi ht) ?_
    first | refine ev_astore_n dX9_takeBack_5 (Nat.le_of_ble_eq_true rfl) ?_ | refine ev_astore_nN dX9_takeBack_5 (Nat.le_of_ble_eq_true rfl) ?_
    first | refine ev_aload_n dX9_takeBack_6 rfl ?_ | refine ev_aload_nN dX9_takeBack_6 rfl ?_
    refine ev_getfield dX9_takeBack_7 fl_RX9_12 (by repeat (first | assumption | exact up_s | refine (up_n (by omega)).trans ?_)) rfl ?_
    first | refine ev_aload_n dX9_takeBack_10 rfl ?_ | refine ev_aload_nN dX9_takeBack_10 rfl ?_
    refine ev_V1v dX9_takeBack_11 st_RX9_104 na_X1_remove (Nat.le_of_ble_eq_true rfl) (Nat.le_of_ble_eq_true rfl) (by repeat (first | assumption | exact up_s | refine (up_n (by omega)).trans ?_)) rfl (rm) ?_
    first | refine ev_aload_n dX9_takeBack_14 rfl ?_ | refine ev_aload_nN dX9_takeBack_14 rfl ?_
    refine ev_getfield dX9_takeBack_15 fl_RX9_12 (by repeat (first | assumption | exact up_s | refine (up_n (by omega)).trans ?_)) rfl ?_
    refine ev_V0 dX9_takeBack_18 st_RX9_108 na_X1_size (Nat.le_of_ble_eq_true rfl) (Nat.le_of_ble_eq_true rfl) (by repeat (first | assumption | exact up_s | refine (up_n (by omega)).trans ?_)) rfl (m1_size gC) ?_
    exact ev_ireturnE dX9_takeBack_21 rfl (by rfl)
  · obtain ⟨k1, k2, k3, k4, k5, k6, k7⟩ := g.2.2.1
    have e : ∀ a, a < 26 → a ≠ 3 → va_up (va_up h (pp i) (.inr (7, [.ref (pp i + 1), .ref (pp i + 3), .int (nI 0)]))) 3 (.inr (1, [.ref 4, .int (nI made), .int (nI (sumN (va_up t i 0) made))])) a = h a := fun a q1 q2 => (up_n (by omega)).trans (up_n (by omega))
    exact ⟨(e _ (by omega) (by omega)).trans k1, (e _ (by omega) (by omega)).trans k2, (e _ (by omega) (by omega)).trans k3, (e _ (by omega) (by omega)).trans k4, (e _ (by omega) (by omega)).trans k5, ⟨(e _ (by omega) (by omega)).trans k6.1, (e _ (by omega) (by omega)).trans k6.2.1, k6.2.2⟩, k7⟩
  · obtain ⟨a0, a1, B, E, J, x1, x2, x3, x4⟩ := g.2.2.2.2.1
    exact ⟨a0, a1, B, E, J, (up_n (by omega)).trans ((up_n (by omega)).trans x1), (up_n (by omega)).trans ((up_n (by omega)).trans x2), (up_n (by omega)).trans ((up_n (by omega)).trans x3), (up_n (by omega)).trans ((up_n (by omega)).trans x4)⟩
  · obtain ⟨C1, F1, y1, y2⟩ := g.2.2.2.2.2.1
    exact ⟨C1, F1, (up_n (by omega)).trans ((up_n (by omega)).trans y1), (up_n (by omega)).trans ((up_n (by omega)).trans y2)⟩
  · obtain ⟨P, N, A, z1, z2⟩ := g.2.2.2.2.2.2.1
    exact ⟨P, N, A, (up_n (by omega)).trans ((up_n (by omega)).trans z1), (up_n (by omega)).trans ((up_n (by omega)).trans z2)⟩
  · obtain ⟨C2, F2, R2, u1, u2, u3⟩ := g.2.2.2.2.2.2.2.1
    exact ⟨C2, F2, R2, (up_n (by omega)).trans ((up_n (by omega)).trans u1), (up_n (by omega)).trans ((up_n (by omega)).trans u2), (up_n (by omega)).trans ((up_n (by omega)).trans u3)⟩
  · obtain ⟨C2, F2, R2, u1, u2, u3⟩ := g.2.2.2.2.2.2.2.2
    exact ⟨C2, F2, R2, (up_n (by omega)).trans ((up_n (by omega)).trans u1), (up_n (by omega)).trans ((up_n (by omega)).trans u2), (up_n (by omega)).trans ((up_n (by omega)).trans u3)⟩
theorem m9_takeBackF (g : GS h made t l w S W) {x : Int32} (hx : ¬ itIs x made t) : Ev (d + 3) MX9_takeBack 0 (lv_args 0 [.ref 2, .int x]) [] n h (.inr IOE, n, h, 1, 6) := by
  have g1 := g.1
  first | refine ev_aload_n dX9_takeBack_0 rfl ?_ | refine ev_aload_nN dX9_takeBack_0 rfl ?_
  refine ev_iload_n dX9_takeBack_1 rfl ?_
  exact ev_callVx (as := [_]) dX9_takeBack_2 st_RX9_100 na_X9_pairThatIsThere (Nat.le_of_ble_eq_true rfl) (Nat.le_of_ble_eq_true rfl) (by repeat (first | assumption | exact up_s | refine (up_n (by omega)).trans ?_)) rfl rfl (m9_pairF g hx)
end M9F
