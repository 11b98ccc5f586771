/-! the model: what all have, and what each adds -/
theorem RX_sm {Sh : Nat → Nat} {S : Nat → Nat → Nat} (g : RX Sh S) {D o : Nat} {wa : Nat → Nat} (hD : D < 2) (ho : o < 15) : ∀ k, (∀ x, x < k → wa x < 15) → sm Sh (240 * D) o wa k = sm (S D) 0 o wa k
  | 0, _ => by
    show Sh (15 * 15 + o + 240 * D) = S D (15 * 15 + o + 0)
    rw [← g D _ hD (show 15 * 15 + o + 0 < 240 by omega)]
    exact congrArg Sh (by omega)
  | k + 1, hw => by
    have hk := hw k (by omega)
    show sm Sh (240 * D) o wa k + Sh (15 * wa k + o + 240 * D) = sm (S D) 0 o wa k + S D (15 * wa k + o + 0)
    rw [RX_sm g hD ho k (fun x hx => hw x (by omega)), ← g D _ hD (show 15 * wa k + o + 0 < 240 by omega)]
    exact congrArg (fun z => sm (S D) 0 o wa k + Sh z) (show 15 * wa k + o + 240 * D = 240 * D + (15 * wa k + o + 0) by omega)
theorem RX_adI {M Sh : Nat → Nat} {X S : Nat → Nat → Nat} (gs : RX Sh S) (g : RX M X) {D k s : Nat} (hD : D < 2) (hk : k < 240) : RX (adI Sh M (k + 240 * D) s) (sD X D (adI (S D) (X D) (k + 0) s)) := by
  unfold adI
  by_cases q : 0 < s
  · rw [if_pos q, if_pos q]
    have e1 : M (k + 240 * D) = X D (k + 0) := by rw [← g D _ hD (show k + 0 < 240 by omega)]; exact congrArg M (by omega)
    have e2 : Sh (k + 240 * D) = S D (k + 0) := by rw [← gs D _ hD (show k + 0 < 240 by omega)]; exact congrArg Sh (by omega)
    rw [e1, e2]
    exact RX_up g hD hk
  · rw [if_neg q, if_neg q, sD_id]
    exact g
theorem RX_anI {Sh : Nat → Nat} {S : Nat → Nat → Nat} (gs : RX Sh S) {D o s : Nat} {wa : Nat → Nat} (hD : D < 2) (ho : o < 15) : ∀ k (M : Nat → Nat) (X : Nat → Nat → Nat), (∀ x, x < k → wa x < 15) → RX M X → RX (anI Sh (240 * D) o s wa k M) (sD X D (anI (S D) 0 o s wa k (X D)))
  | 0, M, X, _, g => by
    show RX M (sD X D (X D))
    rw [sD_id]; exact g
  | k + 1, M, X, hw, g => by
    have i1 := RX_anI gs (s := s) hD ho k M X (fun x hx => hw x (by omega)) g
    have hk := hw k (by omega)
    have i2 := RX_adI (k := 15 * wa k + o) (s := s) gs i1 hD (by omega)
    rw [sD_at, sD_sD] at i2
    exact i2
theorem RX_anO {Sh : Nat → Nat} {S : Nat → Nat → Nat} (gs : RX Sh S) {D : Nat} {wa wb : Nat → Nat} {la : Nat} (hD : D < 2) (hla : ∀ x, x < la → wa x < 15) : ∀ j (M : Nat → Nat) (X : Nat → Nat → Nat), (∀ x, x < j → wb x < 15) → RX M X → RX (anO Sh (240 * D) wa la wb j M) (sD X D (anO (S D) 0 wa la wb j (X D)))
  | 0, M, X, _, g => by
    show RX M (sD X D (X D))
    rw [sD_id]; exact g
  | j + 1, M, X, hw, g => by
    have hk := hw j (by omega)
    have i1 := RX_anO gs hD hla j M X (fun x hx => hw x (by omega)) g
    have es := RX_sm gs (o := wb j) hD hk la hla
    have i2 := RX_adI (k := 15 * 15 + wb j) (s := sm Sh (240 * D) (wb j) wa la) gs i1 hD (by omega)
    rw [sD_at, sD_sD] at i2
    have i3 := RX_anI gs (o := wb j) (s := sm Sh (240 * D) (wb j) wa la) hD hk la _ _ hla i2
    rw [sD_at, sD_sD] at i3
    show RX (anI Sh (240 * D) (wb j) (sm Sh (240 * D) (wb j) wa la) wa la _) (sD X D (anI (S D) 0 (wb j) (sm (S D) 0 (wb j) wa la) wa la _))
    rw [← es]
    exact i3
/-- both directions' counts of answers, one after the other -/
def raF (t : Nat → Nat) (l : Nat → Nat → Nat) (w : Nat → Nat → Nat → Nat) (sh : Nat → Nat) (made : Nat) : Nat → Nat := ccF t (fun i C => anO sh (240 * 1) (w 1 i) (l 1 i) (w 0 i) (l 0 i) (anO sh (240 * 0) (w 0 i) (l 0 i) (w 1 i) (l 1 i) C)) made (fun _ => 0)
theorem raF_RX {made : Nat} {t : Nat → Nat} {l : Nat → Nat → Nat} {w : Nat → Nat → Nat → Nat} {S : Nat → Nat → Nat} {W : Nat → Nat} (q : WF made t l w S W) {sh : Nat → Nat} (gs : RX sh S) : ∀ k, k ≤ made → RX (raF t l w sh k) (fun D => caC t l w (S D) D 0 k)
  | 0, _ => fun D c _ _ => rfl
  | k + 1, hk => by
    have ih := raF_RX q gs k (by omega)
    by_cases ht : t k = 1
    · have e1 : raF t l w sh (k + 1) = anO sh (240 * 1) (w 1 k) (l 1 k) (w 0 k) (l 0 k) (anO sh (240 * 0) (w 0 k) (l 0 k) (w 1 k) (l 1 k) (raF t l w sh k)) := if_pos ht
      have a1 := RX_anO gs (D := 0) (wa := w 0 k) (wb := w 1 k) (la := l 0 k) (by omega) (fun x hx => q.2.2.2.1 0 k x (by omega) (by omega) hx) (l 1 k) _ _ (fun x hx => q.2.2.2.1 1 k x (by omega) (by omega) hx) ih
      have a2 := RX_anO gs (D := 1) (wa := w 1 k) (wb := w 0 k) (la := l 1 k) (by omega) (fun x hx => q.2.2.2.1 1 k x (by omega) (by omega) hx) (l 0 k) _ _ (fun x hx => q.2.2.2.1 0 k x (by omega) (by omega) hx) a1
      rw [e1]
      intro D c hD hc
      rw [a2 D c hD hc]
      rcases (show D = 0 ∨ D = 1 by omega) with rfl | rfl
      · show anO (S 0) 0 (w 0 k) (l 0 k) (w 1 k) (l 1 k) (caC t l w (S 0) 0 0 k) c = caC t l w (S 0) 0 0 (k + 1) c
        rw [show caC t l w (S 0) 0 0 (k + 1) = anO (S 0) 0 (w 0 k) (l 0 k) (w (1 - 0) k) (l (1 - 0) k) (caC t l w (S 0) 0 0 k) from if_pos ht]
      · show anO (S 1) 0 (w 1 k) (l 1 k) (w 0 k) (l 0 k) (caC t l w (S 1) 1 0 k) c = caC t l w (S 1) 1 0 (k + 1) c
        rw [show caC t l w (S 1) 1 0 (k + 1) = anO (S 1) 0 (w 1 k) (l 1 k) (w (1 - 1) k) (l (1 - 1) k) (caC t l w (S 1) 1 0 k) from if_pos ht]
    · have e1 : raF t l w sh (k + 1) = raF t l w sh k := if_neg ht
      rw [e1]
      intro D c hD hc
      rw [ih D c hD hc]
      show caC t l w (S D) D 0 k c = caC t l w (S D) D 0 (k + 1) c
      rw [show caC t l w (S D) D 0 (k + 1) = caC t l w (S D) D 0 k from if_neg ht]
theorem raF_le {made : Nat} {t : Nat → Nat} {l : Nat → Nat → Nat} {w : Nat → Nat → Nat → Nat} {S : Nat → Nat → Nat} {W : Nat → Nat} (q : WF made t l w S W) (sh : Nat → Nat) (c : Nat) : raF t l w sh made c ≤ 3000000000 := by
  have h1 := ccF_le (t := t) (f := fun i C => anO sh (240 * 1) (w 1 i) (l 1 i) (w 0 i) (l 0 i) (anO sh (240 * 0) (w 0 i) (l 0 i) (w 1 i) (l 1 i) C)) (K := 144000000) (n := made) (fun i hi C B hB k => by
    have l0 := q.2.2.1 0 i (by omega) (by omega)
    have l1 := q.2.2.1 1 i (by omega) (by omega)
    have s3 := anO_le (S := sh) (off := 240 * 0) (wa := w 0 i) (wb := w 1 i) l0 hB (l 1 i)
    have s4 := anO_le (S := sh) (off := 240 * 1) (wa := w 1 i) (wb := w 0 i) l1 s3 (l 0 i) k
    refine Nat.le_trans s4 ?_
    clear s3 s4 hB
    omega) made (Nat.le_refl _) c
  have h2 := q.1
  have : made * 144000000 ≤ 2880000000 := by omega
  unfold raF
  omega
section MS1
variable {d n : Nat} {h : Hp} {made th : Nat} {t : Nat → Nat} {l : Nat → Nat → Nat} {w : Nat → Nat → Nat → Nat} {S : Nat → Nat → Nat} {W : Nat → Nat} {F : Nat → Nat} {lo wo sh : Nat → Nat}
theorem lm_af (q : WF made t l w S W) (g31 : h 31 = MO made F th) (g34 : h 34 = aI 40 lo) (c3 : ∀ D i, D < 2 → i < made → lo (2 * i + D) = l D i) (g35 : h 35 = aI 320 wo) (c4 : ∀ D i j, D < 2 → i < made → j < l D i → wo (16 * i + 8 * D + j) = w D i j) (g38 : h 38 = aI 480 sh) (hs : SB sh) {i D o : Nat} (hi : i < made) (hD : D < 2) (ho : o < 15) :
    ∀ k x, x + k = l D i → Ev (d + 1) MX10_allFor 18 [(0, .ref 31), (1, .int (nI D)), (2, .int (nI i)), (3, .int (nI o)), (4, .long (lN (sm sh (240 * D) o (w D i) x))), (6, .int (nI x))] [] n h (.inl (some (.long (lN (sm sh (240 * D) o (w D i) (l D i))))), n, h, 0, 0) := by
  have hm := q.1
  have h0 := q.2.2.1 D i hD (by omega)
  have lo0 := mm_longOf (d := d) (n := n) g31 g34 (show i < 20 by omega) hD
  rw [c3 D i hD hi] at lo0
  intro k
  induction k with
  | zero =>
    intro x hx
    have e : x = l D i := by omega
    subst e
    refine ev_iload dX10_allFor_18 rfl ?_
    first | refine ev_aload_n dX10_allFor_20 rfl ?_ | refine ev_aload_nN dX10_allFor_20 rfl ?_
    refine ev_iload_n dX10_allFor_21 rfl ?_
    refine ev_iload_n dX10_allFor_22 rfl ?_
    refine ev_V2 dX10_allFor_23 st_RX10_74 na_X10_longOf (Nat.le_of_ble_eq_true rfl) (Nat.le_of_ble_eq_true rfl) (by repeat (first | assumption | exact up_s | refine (up_n (by omega)).trans ?_)) rfl (lo0) ?_
    refine ev_icmp_geT (tgt := 59) dX10_allFor_26 (by decide) (by first | assumption | exact nI_le (by omega) (by omega) | decide) ?_
    refine ev_lload dX10_allFor_59 rfl ?_
    exact ev_lreturnE dX10_allFor_61 rfl (by rfl)
  | succ k ih =>
    intro x hx
    have ih := ih (x + 1) (by omega)
    have w15 := q.2.2.2.1 D i x hD (by omega) (by omega)
    have wa := mm_wordAt (d := d) (n := n) g31 g35 (show i < 20 by omega) hD (show x < 8 by omega)
    rw [c4 D i x hD hi (by omega)] at wa
    have s1 := hs (240 * D + 15 * w D i x + o)
    have e1 : sm sh (240 * D) o (w D i) (x + 1) = sm sh (240 * D) o (w D i) x + sh (240 * D + 15 * w D i x + o) := by
      rw [show 240 * D + 15 * w D i x + o = 15 * w D i x + o + 240 * D by omega]; rfl
    rw [e1] at ih
    clear e1
    refine ev_iload dX10_allFor_18 rfl ?_
    first | refine ev_aload_n dX10_allFor_20 rfl ?_ | refine ev_aload_nN dX10_allFor_20 rfl ?_
    refine ev_iload_n dX10_allFor_21 rfl ?_
    refine ev_iload_n dX10_allFor_22 rfl ?_
    refine ev_V2 dX10_allFor_23 st_RX10_74 na_X10_longOf (Nat.le_of_ble_eq_true rfl) (Nat.le_of_ble_eq_true rfl) (by repeat (first | assumption | exact up_s | refine (up_n (by omega)).trans ?_)) rfl (lo0) ?_
    refine ev_icmp_geF dX10_allFor_26 59 (by decide) (by first | assumption | exact nI_ge (by omega) (by omega) | decide) ?_
    refine ev_lload dX10_allFor_29 rfl ?_
    first | refine ev_aload_n dX10_allFor_31 rfl ?_ | refine ev_aload_nN dX10_allFor_31 rfl ?_
    refine ev_getfield dX10_allFor_32 fl_RX10_29 (by repeat (first | assumption | exact up_s | refine (up_n (by omega)).trans ?_)) rfl ?_
    refine ev_iload_n dX10_allFor_35 rfl ?_
    first | refine ev_aload_n dX10_allFor_36 rfl ?_ | refine ev_aload_nN dX10_allFor_36 rfl ?_
    refine ev_iload_n dX10_allFor_37 rfl ?_
    refine ev_iload_n dX10_allFor_38 rfl ?_
    refine ev_iload dX10_allFor_39 rfl ?_
    refine ev_V3 dX10_allFor_41 st_RX10_77 na_X10_wordAt (Nat.le_of_ble_eq_true rfl) (Nat.le_of_ble_eq_true rfl) (by repeat (first | assumption | exact up_s | refine (up_n (by omega)).trans ?_)) rfl (wa) ?_
    refine ev_iload_n dX10_allFor_44 rfl ?_
    refine ev_S3 dX10_allFor_45 st_RX10_81 na_X10_at (Nat.le_of_ble_eq_true rfl) (Nat.le_of_ble_eq_true rfl) (mm_at) ?_
    refine ev_iald dX10_allFor_48 (by repeat (first | assumption | exact up_s | refine (up_n (by omega)).trans ?_)) _ rfl (by omega) (by omega) ?_
    refine ev_i2lN dX10_allFor_49 (by omega) ?_
    first | refine ev_laddN dX10_allFor_50 ?_ | refine ev_ladd dX10_allFor_50 ?_
    refine ev_lstore dX10_allFor_51 (Nat.le_of_ble_eq_true rfl) ?_
    refine ev_iincN (b := 1) dX10_allFor_53 rfl (Nat.le_of_ble_eq_true rfl) ?_
    refine ev_goto (tgt := 18) dX10_allFor_56 (by decide) ?_
    refine ev_sub ?_ (ih)
    repeat (first | exact trivial | refine ⟨rfl, ?_⟩)
theorem mm_allFor (q : WF made t l w S W) (g31 : h 31 = MO made F th) (g34 : h 34 = aI 40 lo) (c3 : ∀ D i, D < 2 → i < made → lo (2 * i + D) = l D i) (g35 : h 35 = aI 320 wo) (c4 : ∀ D i j, D < 2 → i < made → j < l D i → wo (16 * i + 8 * D + j) = w D i j) (g38 : h 38 = aI 480 sh) (hs : SB sh) {i D o : Nat} (hi : i < made) (hD : D < 2) (ho : o < 15) : Ev (d + 1) MX10_allFor 0 (lv_args 0 [.ref 31, .int (nI D), .int (nI i), .int (nI o)]) [] n h (.inl (some (.long (lN (sm sh (240 * D) o (w D i) (l D i))))), n, h, 0, 0) := by
  have s1 := hs (240 * D + 15 * 15 + o)
  have hl := lm_af (d := d) (n := n) q g31 g34 c3 g35 c4 g38 hs hi hD ho (l D i) 0 (by omega)
  have e1 : sm sh (240 * D) o (w D i) 0 = sh (240 * D + 15 * 15 + o) := by
    rw [show 240 * D + 15 * 15 + o = 15 * 15 + o + 240 * D by omega]; rfl
  rw [e1] at hl
  first | refine ev_aload_n dX10_allFor_0 rfl ?_ | refine ev_aload_nN dX10_allFor_0 rfl ?_
  refine ev_getfield dX10_allFor_1 fl_RX10_29 (by repeat (first | assumption | exact up_s | refine (up_n (by omega)).trans ?_)) rfl ?_
  refine ev_iload_n dX10_allFor_4 rfl ?_
  refine ev_bipush dX10_allFor_5 bp15 ?_
  refine ev_iload_n dX10_allFor_7 rfl ?_
  refine ev_S3 dX10_allFor_8 st_RX10_81 na_X10_at (Nat.le_of_ble_eq_true rfl) (Nat.le_of_ble_eq_true rfl) (mm_at) ?_
  refine ev_iald dX10_allFor_11 (by repeat (first | assumption | exact up_s | refine (up_n (by omega)).trans ?_)) _ rfl (by omega) (by omega) ?_
  refine ev_i2lN dX10_allFor_12 (by omega) ?_
  refine ev_lstore dX10_allFor_13 (Nat.le_of_ble_eq_true rfl) ?_
  refine ev_iconst dX10_allFor_15 ci0 ?_
  refine ev_istore dX10_allFor_16 (Nat.le_of_ble_eq_true rfl) ?_
  refine ev_sub ?_ (hl)
  repeat (first | exact trivial | refine ⟨rfl, ?_⟩)
theorem lm_adI (q : WF made t l w S W) (g31 : h 31 = MO made F th) (g34 : h 34 = aI 40 lo) (c3 : ∀ D i, D < 2 → i < made → lo (2 * i + D) = l D i) (g35 : h 35 = aI 320 wo) (c4 : ∀ D i j, D < 2 → i < made → j < l D i → wo (16 * i + 8 * D + j) = w D i j) (g38 : h 38 = aI 480 sh) (hs : SB sh) {i D j o s : Nat} (hi : i < made) (hD : D < 2) (ho : o < 15) (h0s : 0 < s) (hs2 : s < 2 ^ 62) {C : Nat → Nat} {o9 : Out} (K : Ev (d + 2) MX10_adds 113 [(0, .ref 31), (1, .int (nI D)), (2, .int (nI i)), (3, .int (nI j))] [] n (va_up h 39 (aL 480 (anI sh (240 * D) o s (w D i) (l D i) C))) o9) :
    ∀ k x, x + k = l D i → Ev (d + 2) MX10_adds 38 [(0, .ref 31), (1, .int (nI D)), (2, .int (nI i)), (3, .int (nI j)), (4, .int (nI o)), (5, .long (lN s)), (7, .int (nI x))] [] n (va_up h 39 (aL 480 (anI sh (240 * D) o s (w D i) x C))) o9 := by
  have hm := q.1
  have h0 := q.2.2.1 D i hD (by omega)
  have e34 : ∀ C', va_up h 39 (aL 480 C') 34 = aI 40 lo := fun C' => (up_n (by omega)).trans g34
  have e35 : ∀ C', va_up h 39 (aL 480 C') 35 = aI 320 wo := fun C' => (up_n (by omega)).trans g35
  have e31 : ∀ C', va_up h 39 (aL 480 C') 31 = MO made F th := fun C' => (up_n (by omega)).trans g31
  intro k
  induction k with
  | zero =>
    intro x hx
    have e : x = l D i := by omega
    subst e
    have lo0 := mm_longOf (d := d + 1) (n := n) (e31 (anI sh (240 * D) o s (w D i) (l D i) C)) (e34 _) (show i < 20 by omega) hD
    rw [c3 D i hD hi] at lo0
    refine ev_iload dX10_adds_38 rfl ?_
    first | refine ev_aload_n dX10_adds_40 rfl ?_ | refine ev_aload_nN dX10_adds_40 rfl ?_
    refine ev_iload_n dX10_adds_41 rfl ?_
    refine ev_iload_n dX10_adds_42 rfl ?_
    refine ev_V2 dX10_adds_43 st_RX10_74 na_X10_longOf (Nat.le_of_ble_eq_true rfl) (Nat.le_of_ble_eq_true rfl) (by repeat (first | assumption | exact up_s | refine (up_n (by omega)).trans ?_)) rfl (lo0) ?_
    refine ev_icmp_geT (tgt := 113) dX10_adds_46 (by decide) (by first | assumption | exact nI_le (by omega) (by omega) | decide) ?_
    refine ev_sub ?_ (K)
    repeat (first | exact trivial | refine ⟨rfl, ?_⟩)
  | succ k ih =>
    intro x hx
    have ih := ih (x + 1) (by omega)
    clear K
    have w15 := q.2.2.2.1 D i x hD (by omega) (by omega)
    have lo0 := mm_longOf (d := d + 1) (n := n) (e31 (anI sh (240 * D) o s (w D i) x C)) (e34 _) (show i < 20 by omega) hD
    rw [c3 D i hD hi] at lo0
    have wa := mm_wordAt (d := d + 1) (n := n) (e31 (anI sh (240 * D) o s (w D i) x C)) (e35 _) (show i < 20 by omega) hD (show x < 8 by omega)
    rw [c4 D i x hD hi (by omega)] at wa
    have s1 := hs (240 * D + 15 * w D i x + o)
    have e1 : anI sh (240 * D) o s (w D i) (x + 1) C = va_up (anI sh (240 * D) o s (w D i) x C) (240 * D + 15 * w D i x + o) (anI sh (240 * D) o s (w D i) x C (240 * D + 15 * w D i x + o) + sh (240 * D + 15 * w D i x + o) * 1000000 / s) := by
      rw [show 240 * D + 15 * w D i x + o = 15 * w D i x + o + 240 * D by omega]
      exact if_pos h0s
    rw [e1] at ih
    clear e1
    refine ev_iload dX10_adds_38 rfl ?_
    first | refine ev_aload_n dX10_adds_40 rfl ?_ | refine ev_aload_nN dX10_adds_40 rfl ?_
    refine ev_iload_n dX10_adds_41 rfl ?_
    refine ev_iload_n dX10_adds_42 rfl ?_
    refine ev_V2 dX10_adds_43 st_RX10_74 na_X10_longOf (Nat.le_of_ble_eq_true rfl) (Nat.le_of_ble_eq_true rfl) (by repeat (first | assumption | exact up_s | refine (up_n (by omega)).trans ?_)) rfl (lo0) ?_
    refine ev_icmp_geF dX10_adds_46 113 (by decide) (by first | assumption | exact nI_ge (by omega) (by omega) | decide) ?_
    refine ev_lload dX10_adds_49 rfl ?_
    refine ev_lconst dX10_adds_51 lc0 ?_
    refine ev_lcmpN dX10_adds_52 (by omega) (by omega) ?_
    refine ev_if_leF dX10_adds_53 113 (by decide) (by first | assumption | exact cmp_ngt (by omega)) ?_
    refine ev_iload_n dX10_adds_56 rfl ?_
    refine ev_iload dX10_adds_57 rfl ?_
    refine ev_if_geT (tgt := 67) dX10_adds_59 (by decide) (by first | assumption | exact nI_pos' (by omega) | decide) ?_
    first | refine ev_aload_n dX10_adds_67 rfl ?_ | refine ev_aload_nN dX10_adds_67 rfl ?_
    refine ev_iload_n dX10_adds_68 rfl ?_
    refine ev_iload_n dX10_adds_69 rfl ?_
    refine ev_iload dX10_adds_70 rfl ?_
    refine ev_V3 dX10_adds_72 st_RX10_77 na_X10_wordAt (Nat.le_of_ble_eq_true rfl) (Nat.le_of_ble_eq_true rfl) (by repeat (first | assumption | exact up_s | refine (up_n (by omega)).trans ?_)) rfl (wa) ?_
    refine ev_iload dX10_adds_75 rfl ?_
    refine ev_S3 dX10_adds_77 st_RX10_81 na_X10_at (Nat.le_of_ble_eq_true rfl) (Nat.le_of_ble_eq_true rfl) (mm_at) ?_
    refine ev_istore dX10_adds_80 (Nat.le_of_ble_eq_true rfl) ?_
    first | refine ev_aload_n dX10_adds_82 rfl ?_ | refine ev_aload_nN dX10_adds_82 rfl ?_
    refine ev_getfield dX10_adds_83 fl_RX10_32 (by repeat (first | assumption | exact up_s | refine (up_n (by omega)).trans ?_)) rfl ?_
    refine ev_iload dX10_adds_86 rfl ?_
    refine ev_dup2_11 dX10_adds_88 rfl rfl ?_
    refine ev_lald dX10_adds_89 (by repeat (first | assumption | exact up_s | refine (up_n (by omega)).trans ?_)) _ rfl (by omega) (by omega) ?_
    first | refine ev_aload_n dX10_adds_90 rfl ?_ | refine ev_aload_nN dX10_adds_90 rfl ?_
    refine ev_getfield dX10_adds_91 fl_RX10_29 (by repeat (first | assumption | exact up_s | refine (up_n (by omega)).trans ?_)) rfl ?_
    refine ev_iload dX10_adds_94 rfl ?_
    refine ev_iald dX10_adds_96 (by repeat (first | assumption | exact up_s | refine (up_n (by omega)).trans ?_)) _ rfl (by omega) (by omega) ?_
    refine ev_i2lN dX10_adds_97 (by omega) ?_
    refine ev_ldc2 (v := lN 1000000) dX10_adds_98 (am_in 945 (by decide +kernel) rfl) ?_
    first | refine ev_lmulN dX10_adds_101 ?_ | refine ev_lmul dX10_adds_101 ?_
    refine ev_lload dX10_adds_102 rfl ?_
    refine ev_ldivN dX10_adds_104 (by omega) (by omega) (by omega) ?_
    first | refine ev_laddN dX10_adds_105 ?_ | refine ev_ladd dX10_adds_105 ?_
    first | refine ev_last dX10_adds_106 (by omega) (by repeat (first | assumption | exact up_s | refine (up_n (by omega)).trans ?_)) _ _ rfl rfl (by omega) (by omega) ?_ | refine ev_rast dX10_adds_106 (by omega) (by repeat (first | assumption | exact up_s | refine (up_n (by omega)).trans ?_)) _ _ rfl rfl (by omega) (by omega) ?_
    refine ev_iincN (b := 1) dX10_adds_107 rfl (Nat.le_of_ble_eq_true rfl) ?_
    refine ev_goto (tgt := 38) dX10_adds_110 (by decide) ?_
    refine ev_heap (up_u) ?_
    refine ev_sub ?_ (ih)
    repeat (first | exact trivial | refine ⟨rfl, ?_⟩)
theorem m1_inc : (-1 : Int32) + Int32.ofInt 1 = nI 0 := by decide +kernel
theorem m1_nle {a : Nat} (h : a < 2 ^ 31) : ¬ nI a ≤ -1 := by
  rw [Int32.le_iff_toInt_le, nI_toInt h]
  have h2 : (-1 : Int32).toInt = -1 := by decide
  omega
theorem lm_adO (q : WF made t l w S W) (g31 : h 31 = MO made F th) (g34 : h 34 = aI 40 lo) (c3 : ∀ D i, D < 2 → i < made → lo (2 * i + D) = l D i) (g35 : h 35 = aI 320 wo) (c4 : ∀ D i j, D < 2 → i < made → j < l D i → wo (16 * i + 8 * D + j) = w D i j) (g38 : h 38 = aI 480 sh) (hs : SB sh) {i D : Nat} (hi : i < made) (hD : D < 2) {C : Nat → Nat} :
    ∀ k j, j + k = l (1 - D) i → Ev (d + 2) MX10_adds 2 [(0, .ref 31), (1, .int (nI D)), (2, .int (nI i)), (3, .int (nI j))] [] n (va_up h 39 (aL 480 (anO sh (240 * D) (w D i) (l D i) (w (1 - D) i) j C))) (.inl none, n, va_up h 39 (aL 480 (anO sh (240 * D) (w D i) (l D i) (w (1 - D) i) (l (1 - D) i) C)), 0, 0) := by
  have hm := q.1
  have h0 := q.2.2.1 D i hD (by omega)
  have h1 := q.2.2.1 (1 - D) i (by omega) (by omega)
  have e34 : ∀ C', va_up h 39 (aL 480 C') 34 = aI 40 lo := fun C' => (up_n (by omega)).trans g34
  have e35 : ∀ C', va_up h 39 (aL 480 C') 35 = aI 320 wo := fun C' => (up_n (by omega)).trans g35
  have e31 : ∀ C', va_up h 39 (aL 480 C') 31 = MO made F th := fun C' => (up_n (by omega)).trans g31
  have e38 : ∀ C', va_up h 39 (aL 480 C') 38 = aI 480 sh := fun C' => (up_n (by omega)).trans g38
  intro k
  induction k with
  | zero =>
    intro j hj
    have e : j = l (1 - D) i := by omega
    subst e
    have lo1 := mm_longOf (d := d + 1) (n := n) (e31 (anO sh (240 * D) (w D i) (l D i) (w (1 - D) i) (l (1 - D) i) C)) (e34 _) (show i < 20 by omega) (show 1 - D < 2 by omega)
    rw [c3 (1 - D) i (by omega) hi] at lo1
    refine ev_iload_n dX10_adds_2 rfl ?_
    first | refine ev_aload_n dX10_adds_3 rfl ?_ | refine ev_aload_nN dX10_adds_3 rfl ?_
    refine ev_iload_n dX10_adds_4 rfl ?_
    refine ev_iconst dX10_adds_5 ci1 ?_
    refine ev_iload_n dX10_adds_6 rfl ?_
    first | refine ev_isubN dX10_adds_7 (by omega) ?_ | refine ev_isub dX10_adds_7 ?_
    refine ev_V2 dX10_adds_8 st_RX10_74 na_X10_longOf (Nat.le_of_ble_eq_true rfl) (Nat.le_of_ble_eq_true rfl) (by repeat (first | assumption | exact up_s | refine (up_n (by omega)).trans ?_)) rfl (lo1) ?_
    refine ev_icmp_geT (tgt := 119) dX10_adds_11 (by decide) (by first | assumption | exact nI_le (by omega) (by omega) | decide) ?_
    exact ev_vreturnE dX10_adds_119 rfl (by rfl)
  | succ k ih =>
    intro j hj
    have ih := ih (j + 1) (by omega)
    have o15 := q.2.2.2.1 (1 - D) i j (by omega) (by omega) (by omega)
    have lo1 := mm_longOf (d := d + 1) (n := n) (e31 (anO sh (240 * D) (w D i) (l D i) (w (1 - D) i) j C)) (e34 _) (show i < 20 by omega) (show 1 - D < 2 by omega)
    rw [c3 (1 - D) i (by omega) hi] at lo1
    have lo0 := mm_longOf (d := d + 1) (n := n) (e31 (anO sh (240 * D) (w D i) (l D i) (w (1 - D) i) j C)) (e34 _) (show i < 20 by omega) hD
    rw [c3 D i hD hi] at lo0
    have wa := mm_wordAt (d := d + 1) (n := n) (e31 (anO sh (240 * D) (w D i) (l D i) (w (1 - D) i) j C)) (e35 _) (show i < 20 by omega) (show 1 - D < 2 by omega) (show j < 8 by omega)
    rw [c4 (1 - D) i j (by omega) hi (by omega)] at wa
    have af := mm_allFor (d := d) (n := n) q (e31 (anO sh (240 * D) (w D i) (l D i) (w (1 - D) i) j C)) (e34 _) c3 (e35 _) c4 (e38 _) hs hi hD o15
    have sle := sm_le hs (240 * D) (w (1 - D) i j) (w D i) (l D i)
    have s1 := hs (240 * D + 15 * 15 + w (1 - D) i j)
    have e1 : anO sh (240 * D) (w D i) (l D i) (w (1 - D) i) (j + 1) C = anI sh (240 * D) (w (1 - D) i j) (sm sh (240 * D) (w (1 - D) i j) (w D i) (l D i)) (w D i) (l D i) (adI sh (anO sh (240 * D) (w D i) (l D i) (w (1 - D) i) j C) (15 * 15 + w (1 - D) i j + 240 * D) (sm sh (240 * D) (w (1 - D) i j) (w D i) (l D i))) := rfl
    rw [e1] at ih
    clear e1
    generalize hsm : sm sh (240 * D) (w (1 - D) i j) (w D i) (l D i) = s at *
    have sle2 : s ≤ 9000000 := by omega
    by_cases z : s = 0
    · have e2 : ∀ m (A : Nat → Nat), anI sh (240 * D) (w (1 - D) i j) s (w D i) m A = A := fun m A => by
        induction m with
        | zero => rfl
        | succ m ihm =>
          show adI sh (anI sh (240 * D) (w (1 - D) i j) s (w D i) m A) _ s = A
          rw [ihm]; exact if_neg (by omega)
      have e3 : adI sh (anO sh (240 * D) (w D i) (l D i) (w (1 - D) i) j C) (15 * 15 + w (1 - D) i j + 240 * D) s = anO sh (240 * D) (w D i) (l D i) (w (1 - D) i) j C := if_neg (by omega)
      rw [e2, e3] at ih
      refine ev_iload_n dX10_adds_2 rfl ?_
      first | refine ev_aload_n dX10_adds_3 rfl ?_ | refine ev_aload_nN dX10_adds_3 rfl ?_
      refine ev_iload_n dX10_adds_4 rfl ?_
      refine ev_iconst dX10_adds_5 ci1 ?_
      refine ev_iload_n dX10_adds_6 rfl ?_
      first | refine ev_isubN dX10_adds_7 (by omega) ?_ | refine ev_isub dX10_adds_7 ?_
      refine ev_V2 dX10_adds_8 st_RX10_74 na_X10_longOf (Nat.le_of_ble_eq_true rfl) (Nat.le_of_ble_eq_true rfl) (by repeat (first | assumption | exact up_s | refine (up_n (by omega)).trans ?_)) rfl (lo1) ?_
      refine ev_icmp_geF dX10_adds_11 119 (by decide) (by first | assumption | exact nI_ge (by omega) (by omega) | decide) ?_
      first | refine ev_aload_n dX10_adds_14 rfl ?_ | refine ev_aload_nN dX10_adds_14 rfl ?_
      refine ev_iload_n dX10_adds_15 rfl ?_
      refine ev_iconst dX10_adds_16 ci1 ?_
      refine ev_iload_n dX10_adds_17 rfl ?_
      first | refine ev_isubN dX10_adds_18 (by omega) ?_ | refine ev_isub dX10_adds_18 ?_
      refine ev_iload_n dX10_adds_19 rfl ?_
      refine ev_V3 dX10_adds_20 st_RX10_77 na_X10_wordAt (Nat.le_of_ble_eq_true rfl) (Nat.le_of_ble_eq_true rfl) (by repeat (first | assumption | exact up_s | refine (up_n (by omega)).trans ?_)) rfl (wa) ?_
      refine ev_istore dX10_adds_23 (Nat.le_of_ble_eq_true rfl) ?_
      first | refine ev_aload_n dX10_adds_25 rfl ?_ | refine ev_aload_nN dX10_adds_25 rfl ?_
      refine ev_iload_n dX10_adds_26 rfl ?_
      refine ev_iload_n dX10_adds_27 rfl ?_
      refine ev_iload dX10_adds_28 rfl ?_
      refine ev_V3 dX10_adds_30 st_RX10_92 na_X10_allFor (Nat.le_of_ble_eq_true rfl) (Nat.le_of_ble_eq_true rfl) (by repeat (first | assumption | exact up_s | refine (up_n (by omega)).trans ?_)) rfl (af) ?_
      refine ev_lstore dX10_adds_33 (Nat.le_of_ble_eq_true rfl) ?_
      refine ev_iconst dX10_adds_35 cm1 ?_
      refine ev_istore dX10_adds_36 (Nat.le_of_ble_eq_true rfl) ?_
      refine ev_iload dX10_adds_38 rfl ?_
      first | refine ev_aload_n dX10_adds_40 rfl ?_ | refine ev_aload_nN dX10_adds_40 rfl ?_
      refine ev_iload_n dX10_adds_41 rfl ?_
      refine ev_iload_n dX10_adds_42 rfl ?_
      refine ev_V2 dX10_adds_43 st_RX10_74 na_X10_longOf (Nat.le_of_ble_eq_true rfl) (Nat.le_of_ble_eq_true rfl) (by repeat (first | assumption | exact up_s | refine (up_n (by omega)).trans ?_)) rfl (lo0) ?_
      refine ev_icmp_geF dX10_adds_46 113 (by decide) (m1_nle (by omega)) ?_
      refine ev_lload dX10_adds_49 rfl ?_
      refine ev_lconst dX10_adds_51 lc0 ?_
      refine ev_lcmpN dX10_adds_52 (by omega) (by omega) ?_
      refine ev_if_leT (tgt := 113) dX10_adds_53 (by decide) (by first | assumption | exact cmp_le (by omega)) ?_
      refine ev_iincN (b := 1) dX10_adds_113 rfl (Nat.le_of_ble_eq_true rfl) ?_
      refine ev_goto (tgt := 2) dX10_adds_116 (by decide) ?_
      refine ev_sub ?_ (ih)
      repeat (first | exact trivial | refine ⟨rfl, ?_⟩)
    · have e3 : adI sh (anO sh (240 * D) (w D i) (l D i) (w (1 - D) i) j C) (15 * 15 + w (1 - D) i j + 240 * D) s = va_up (anO sh (240 * D) (w D i) (l D i) (w (1 - D) i) j C) (240 * D + 15 * 15 + w (1 - D) i j) (anO sh (240 * D) (w D i) (l D i) (w (1 - D) i) j C (240 * D + 15 * 15 + w (1 - D) i j) + sh (240 * D + 15 * 15 + w (1 - D) i j) * 1000000 / s) := by
        rw [show 240 * D + 15 * 15 + w (1 - D) i j = 15 * 15 + w (1 - D) i j + 240 * D by omega]
        exact if_pos (by omega)
      rw [e3] at ih
      clear e3
      refine ev_iload_n dX10_adds_2 rfl ?_
      first | refine ev_aload_n dX10_adds_3 rfl ?_ | refine ev_aload_nN dX10_adds_3 rfl ?_
      refine ev_iload_n dX10_adds_4 rfl ?_
      refine ev_iconst dX10_adds_5 ci1 ?_
      refine ev_iload_n dX10_adds_6 rfl ?_
      first | refine ev_isubN dX10_adds_7 (by omega) ?_ | refine ev_isub dX10_adds_7 ?_
      refine ev_V2 dX10_adds_8 st_RX10_74 na_X10_longOf (Nat.le_of_ble_eq_true rfl) (Nat.le_of_ble_eq_true rfl) (by repeat (first | assumption | exact up_s | refine (up_n (by omega)).trans ?_)) rfl (lo1) ?_
      refine ev_icmp_geF dX10_adds_11 119 (by decide) (by first | assumption | exact nI_ge (by omega) (by omega) | decide) ?_
      first | refine ev_aload_n dX10_adds_14 rfl ?_ | refine ev_aload_nN dX10_adds_14 rfl ?_
      refine ev_iload_n dX10_adds_15 rfl ?_
      refine ev_iconst dX10_adds_16 ci1 ?_
      refine ev_iload_n dX10_adds_17 rfl ?_
      first | refine ev_isubN dX10_adds_18 (by omega) ?_ | refine ev_isub dX10_adds_18 ?_
      refine ev_iload_n dX10_adds_19 rfl ?_
      refine ev_V3 dX10_adds_20 st_RX10_77 na_X10_wordAt (Nat.le_of_ble_eq_true rfl) (Nat.le_of_ble_eq_true rfl) (by repeat (first | assumption | exact up_s | refine (up_n (by omega)).trans ?_)) rfl (wa) ?_
      refine ev_istore dX10_adds_23 (Nat.le_of_ble_eq_true rfl) ?_
      first | refine ev_aload_n dX10_adds_25 rfl ?_ | refine ev_aload_nN dX10_adds_25 rfl ?_
      refine ev_iload_n dX10_adds_26 rfl ?_
      refine ev_iload_n dX10_adds_27 rfl ?_
      refine ev_iload dX10_adds_28 rfl ?_
      refine ev_V3 dX10_adds_30 st_RX10_92 na_X10_allFor (Nat.le_of_ble_eq_true rfl) (Nat.le_of_ble_eq_true rfl) (by repeat (first | assumption | exact up_s | refine (up_n (by omega)).trans ?_)) rfl (af) ?_
      refine ev_lstore dX10_adds_33 (Nat.le_of_ble_eq_true rfl) ?_
      refine ev_iconst dX10_adds_35 cm1 ?_
      refine ev_istore dX10_adds_36 (Nat.le_of_ble_eq_true rfl) ?_
      refine ev_iload dX10_adds_38 rfl ?_
      first | refine ev_aload_n dX10_adds_40 rfl ?_ | refine ev_aload_nN dX10_adds_40 rfl ?_
      refine ev_iload_n dX10_adds_41 rfl ?_
      refine ev_iload_n dX10_adds_42 rfl ?_
      refine ev_V2 dX10_adds_43 st_RX10_74 na_X10_longOf (Nat.le_of_ble_eq_true rfl) (Nat.le_of_ble_eq_true rfl) (by repeat (first | assumption | exact up_s | refine (up_n (by omega)).trans ?_)) rfl (lo0) ?_
      refine ev_icmp_geF dX10_adds_46 113 (by decide) (m1_nle (by omega)) ?_
      refine ev_lload dX10_adds_49 rfl ?_
      refine ev_lconst dX10_adds_51 lc0 ?_
      refine ev_lcmpN dX10_adds_52 (by omega) (by omega) ?_
      refine ev_if_leF dX10_adds_53 113 (by decide) (by first | assumption | exact cmp_ngt (by omega)) ?_
      refine ev_iload_n dX10_adds_56 rfl ?_
      refine ev_iload dX10_adds_57 rfl ?_
      refine ev_if_geF dX10_adds_59 67 (by decide) (by decide) ?_
      refine ev_bipush dX10_adds_62 bp15 ?_
      refine ev_goto (tgt := 75) dX10_adds_64 (by decide) ?_
      refine ev_iload dX10_adds_75 rfl ?_
      refine ev_S3 dX10_adds_77 st_RX10_81 na_X10_at (Nat.le_of_ble_eq_true rfl) (Nat.le_of_ble_eq_true rfl) (mm_at) ?_
      refine ev_istore dX10_adds_80 (Nat.le_of_ble_eq_true rfl) ?_
      first | refine ev_aload_n dX10_adds_82 rfl ?_ | refine ev_aload_nN dX10_adds_82 rfl ?_
      refine ev_getfield dX10_adds_83 fl_RX10_32 (by repeat (first | assumption | exact up_s | refine (up_n (by omega)).trans ?_)) rfl ?_
      refine ev_iload dX10_adds_86 rfl ?_
      refine ev_dup2_11 dX10_adds_88 rfl rfl ?_
      refine ev_lald dX10_adds_89 (by repeat (first | assumption | exact up_s | refine (up_n (by omega)).trans ?_)) _ rfl (by omega) (by omega) ?_
      first | refine ev_aload_n dX10_adds_90 rfl ?_ | refine ev_aload_nN dX10_adds_90 rfl ?_
      refine ev_getfield dX10_adds_91 fl_RX10_29 (by repeat (first | assumption | exact up_s | refine (up_n (by omega)).trans ?_)) rfl ?_
      refine ev_iload dX10_adds_94 rfl ?_
      refine ev_iald dX10_adds_96 (by repeat (first | assumption | exact up_s | refine (up_n (by omega)).trans ?_)) _ rfl (by omega) (by omega) ?_
      refine ev_i2lN dX10_adds_97 (by omega) ?_
      refine ev_ldc2 (v := lN 1000000) dX10_adds_98 (am_in 945 (by decide +kernel) rfl) ?_
      first | refine ev_lmulN dX10_adds_101 ?_ | refine ev_lmul dX10_adds_101 ?_
      refine ev_lload dX10_adds_102 rfl ?_
      refine ev_ldivN dX10_adds_104 (by omega) (by omega) (by omega) ?_
      first | refine ev_laddN dX10_adds_105 ?_ | refine ev_ladd dX10_adds_105 ?_
      first | refine ev_last dX10_adds_106 (by omega) (by repeat (first | assumption | exact up_s | refine (up_n (by omega)).trans ?_)) _ _ rfl rfl (by omega) (by omega) ?_ | refine ev_rast dX10_adds_106 (by omega) (by repeat (first | assumption | exact up_s | refine (up_n (by omega)).trans ?_)) _ _ rfl rfl (by omega) (by omega) ?_
      refine ev_heap (up_u) ?_
      refine ev_iinc dX10_adds_107 rfl m1_inc (Nat.le_of_ble_eq_true rfl) ?_
      refine ev_goto (tgt := 38) dX10_adds_110 (by decide) ?_
      refine ev_sub ?_ (lm_adI (d := d) (n := n) (F := F) (th := th) (o := w (1 - D) i j) (s := s) (C := va_up (anO sh (240 * D) (w D i) (l D i) (w (1 - D) i) j C) (240 * D + 15 * 15 + w (1 - D) i j) (anO sh (240 * D) (w D i) (l D i) (w (1 - D) i) j C (240 * D + 15 * 15 + w (1 - D) i j) + sh (240 * D + 15 * 15 + w (1 - D) i j) * 1000000 / s)) q g31 g34 c3 g35 c4 g38 hs hi hD o15 (by omega) (by omega) (by
        refine ev_iincN (b := 1) dX10_adds_113 rfl (Nat.le_of_ble_eq_true rfl) ?_
        refine ev_goto (tgt := 2) dX10_adds_116 (by decide) ?_
        refine ev_sub ?_ (ih)
        repeat (first | exact trivial | refine ⟨rfl, ?_⟩)
        ) (l D i) 0 (by omega))
      repeat (first | exact trivial | refine ⟨rfl, ?_⟩)
theorem mm_adds (q : WF made t l w S W) (g31 : h 31 = MO made F th) (g34 : h 34 = aI 40 lo) (c3 : ∀ D i, D < 2 → i < made → lo (2 * i + D) = l D i) (g35 : h 35 = aI 320 wo) (c4 : ∀ D i j, D < 2 → i < made → j < l D i → wo (16 * i + 8 * D + j) = w D i j) (g38 : h 38 = aI 480 sh) (hs : SB sh) {i D : Nat} (hi : i < made) (hD : D < 2) {C : Nat → Nat} : Ev (d + 2) MX10_adds 0 (lv_args 0 [.ref 31, .int (nI D), .int (nI i)]) [] n (va_up h 39 (aL 480 C)) (.inl none, n, va_up h 39 (aL 480 (anO sh (240 * D) (w D i) (l D i) (w (1 - D) i) (l (1 - D) i) C)), 0, 0) := by
  refine ev_iconst dX10_adds_0 ci0 ?_
  refine ev_istore_n dX10_adds_1 (Nat.le_of_ble_eq_true rfl) ?_
  refine ev_sub ?_ (lm_adO q g31 g34 c3 g35 c4 g38 hs hi hD (l (1 - D) i) 0 (by omega))
  repeat (first | exact trivial | refine ⟨rfl, ?_⟩)
end MS1
