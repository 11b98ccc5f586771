/-! the model: counts cleared, words marked that stand together -/
section MO
variable {d n : Nat} {h h' : Hp} {made th : Nat} {t : Nat → Nat} {l : Nat → Nat → Nat} {w : Nat → Nat → Nat → Nat} {S : Nat → Nat → Nat} {W : Nat → Nat} {F : Nat → Nat} {C : Nat → Nat}
theorem MA_39 (g : MA h made t l w S W) : MA (va_up h 39 (aL 480 C)) made t l w S W := by
  obtain ⟨⟨a1, b1, c1⟩, ⟨a2, b2, c2⟩, ⟨a3, b3, c3⟩, ⟨a4, b4, c4⟩, ⟨a5, b5, c5⟩, ⟨a6, b6, c6⟩, ⟨a7, b7, c7⟩, ⟨a8, b8⟩, ⟨a9, b9⟩, ⟨a10, b10⟩, ⟨a11, b11⟩, ⟨a12, b12⟩⟩ := g
  exact ⟨⟨a1, (up_n (by omega)).trans b1, c1⟩, ⟨a2, (up_n (by omega)).trans b2, c2⟩, ⟨a3, (up_n (by omega)).trans b3, c3⟩, ⟨a4, (up_n (by omega)).trans b4, c4⟩, ⟨a5, (up_n (by omega)).trans b5, c5⟩, ⟨a6, (up_n (by omega)).trans b6, c6⟩, ⟨a7, (up_n (by omega)).trans b7, c7⟩, ⟨C, up_s⟩, ⟨a9, (up_n (by omega)).trans b9⟩, ⟨a10, (up_n (by omega)).trans b10⟩, ⟨a11, (up_n (by omega)).trans b11⟩, ⟨a12, (up_n (by omega)).trans b12⟩⟩
theorem lm_cl (g31 : h 31 = MO made F th) : ∀ k i, i + k = 480 → Ev d MX10_clears 2 [(0, .ref 31), (1, .int (nI i))] [] n (va_up h 39 (aL 480 (fun c => if c < i then 0 else C c))) (.inl none, n, va_up h 39 (aL 480 (fun _ => 0)), 0, 0) := by
  intro k
  induction k with
  | zero =>
    intro i hi
    have e : i = 480 := by omega
    subst e
    refine ev_iload_n dX10_clears_2 rfl ?_
    refine ev_sipush dX10_clears_3 sp480 ?_
    refine ev_icmp_geT (tgt := 22) dX10_clears_6 (by decide) (by first | assumption | exact nI_le (by omega) (by omega) | decide) ?_
    refine ev_extL (f2 := fun _ => lN 0) (by omega) up_s (fun j hj => by simp only [hj, if_true]) ?_
    refine ev_heap up_u ?_
    exact ev_vreturnE dX10_clears_22 rfl (by rfl)
  | succ k ih =>
    intro i hi
    have ih := ih (i + 1) (by omega)
    refine ev_iload_n dX10_clears_2 rfl ?_
    refine ev_sipush dX10_clears_3 sp480 ?_
    refine ev_icmp_geF dX10_clears_6 22 (by decide) (by first | assumption | exact nI_ge (by omega) (by omega) | decide) ?_
    first | refine ev_aload_n dX10_clears_9 rfl ?_ | refine ev_aload_nN dX10_clears_9 rfl ?_
    refine ev_getfield dX10_clears_10 fl_RX10_32 (by repeat (first | assumption | exact up_s | refine (up_n (by omega)).trans ?_)) rfl ?_
    refine ev_iload_n dX10_clears_13 rfl ?_
    refine ev_lconst dX10_clears_14 lc0 ?_
    first | refine ev_last dX10_clears_15 (by omega) (by repeat (first | assumption | exact up_s | refine (up_n (by omega)).trans ?_)) _ _ rfl rfl (by omega) (by omega) ?_ | refine ev_rast dX10_clears_15 (by omega) (by repeat (first | assumption | exact up_s | refine (up_n (by omega)).trans ?_)) _ _ rfl rfl (by omega) (by omega) ?_
    refine ev_iincN (b := 1) dX10_clears_16 rfl (Nat.le_of_ble_eq_true rfl) ?_
    refine ev_goto (tgt := 2) dX10_clears_19 (by decide) ?_
    refine ev_heap (up_u.trans (congrArg (fun f => va_up h 39 (aL 480 f)) (fill_eq C i 0))) ?_
    refine ev_sub ?_ (ih)
    repeat (first | exact trivial | refine ⟨rfl, ?_⟩)
theorem mm_clears (g31 : h 31 = MO made F th) (g39 : h 39 = aL 480 C) : Ev d MX10_clears 0 (lv_args 0 [.ref 31]) [] n h (.inl none, n, va_up h 39 (aL 480 (fun _ => 0)), 0, 0) := by
  refine ev_iconst dX10_clears_0 ci0 ?_
  refine ev_istore_n dX10_clears_1 (Nat.le_of_ble_eq_true rfl) ?_
  refine ev_heap (h2 := va_up h 39 (aL 480 (fun c => if c < 0 then 0 else C c))) (by rw [show (fun c => if c < 0 then 0 else C c) = C from funext fun c => if_neg (Nat.not_lt_zero c)]; exact (up_id g39).symm) ?_
  refine ev_sub ?_ (lm_cl g31 480 0 (by omega))
  repeat (first | exact trivial | refine ⟨rfl, ?_⟩)
theorem lm_maI (q : WF made t l w S W) (g31 : h 31 = MO made F th) (ga : MA h made t l w S W) {i D j : Nat} (hi : i < made) (hD : D < 2) (hj : j < l (1 - D) i) {o9 : Out} (K : Ev (d + 1) MX10_marks 79 [(0, .ref 31), (1, .int (nI D)), (2, .int (nI i)), (3, .int (nI j)), (4, .int (nI (w (1 - D) i j))), (5, .int (nI (l D i)))] [] n (va_up h 39 (aL 480 (mtI (240 * D) (w (1 - D) i j) (w D i) (l D i) C))) o9) :
    ∀ k x, x + k = l D i → Ev (d + 1) MX10_marks 42 [(0, .ref 31), (1, .int (nI D)), (2, .int (nI i)), (3, .int (nI j)), (4, .int (nI (w (1 - D) i j))), (5, .int (nI x))] [] n (va_up h 39 (aL 480 (mtI (240 * D) (w (1 - D) i j) (w D i) x C))) o9 := by
  have hm := q.1
  obtain ⟨lo, b3, c3⟩ := ga.2.2.1
  obtain ⟨wo, b4, c4⟩ := ga.2.2.2.1
  have h0 := q.2.2.1 D i hD (by omega)
  have o15 := q.2.2.2.1 (1 - D) i j (by omega) (by omega) hj
  have e34 : ∀ C', va_up h 39 (aL 480 C') 34 = aI 40 lo := fun C' => (up_n (by omega)).trans b3
  have e35 : ∀ C', va_up h 39 (aL 480 C') 35 = aI 320 wo := fun C' => (up_n (by omega)).trans b4
  have e31 : ∀ C', va_up h 39 (aL 480 C') 31 = MO made F th := fun C' => (up_n (by omega)).trans g31
  intro k
  induction k with
  | zero =>
    intro x hx
    have e : x = l D i := by omega
    subst e
    have lo0 := mm_longOf (d := d) (n := n) (e31 (mtI (240 * D) (w (1 - D) i j) (w D i) (l D i) C)) (e34 _) (show i < 20 by omega) hD
    rw [show lo (2 * i + D) = l D i from c3 D i hD hi] at lo0
    refine ev_iload dX10_marks_42 rfl ?_
    first | refine ev_aload_n dX10_marks_44 rfl ?_ | refine ev_aload_nN dX10_marks_44 rfl ?_
    refine ev_iload_n dX10_marks_45 rfl ?_
    refine ev_iload_n dX10_marks_46 rfl ?_
    refine ev_V2 dX10_marks_47 st_RX10_74 na_X10_longOf (Nat.le_of_ble_eq_true rfl) (Nat.le_of_ble_eq_true rfl) (by repeat (first | assumption | exact up_s | refine (up_n (by omega)).trans ?_)) rfl (lo0) ?_
    refine ev_icmp_geT (tgt := 79) dX10_marks_50 (by decide) (by first | assumption | exact nI_le (by omega) (by omega) | decide) ?_
    refine ev_sub ?_ (K)
    repeat (first | exact trivial | refine ⟨rfl, ?_⟩)
  | succ k ih =>
    intro x hx
    have ih := ih (x + 1) (by omega)
    clear K
    have w15 := q.2.2.2.1 D i x hD (by omega) (by omega)
    have lo0 := mm_longOf (d := d) (n := n) (e31 (mtI (240 * D) (w (1 - D) i j) (w D i) x C)) (e34 _) (show i < 20 by omega) hD
    rw [show lo (2 * i + D) = l D i from c3 D i hD hi] at lo0
    have wa := mm_wordAt (d := d) (n := n) (e31 (mtI (240 * D) (w (1 - D) i j) (w D i) x C)) (e35 _) (show i < 20 by omega) hD (show x < 8 by omega)
    rw [show wo (16 * i + 8 * D + x) = w D i x from c4 D i x hD hi (by omega)] at wa
    have e1 : mtI (240 * D) (w (1 - D) i j) (w D i) (x + 1) C = va_up (mtI (240 * D) (w (1 - D) i j) (w D i) x C) (240 * D + 15 * w D i x + w (1 - D) i j) 1 := by
      rw [show 240 * D + 15 * w D i x + w (1 - D) i j = 15 * w D i x + w (1 - D) i j + 240 * D by omega]; rfl
    rw [e1] at ih
    clear e1
    refine ev_iload dX10_marks_42 rfl ?_
    first | refine ev_aload_n dX10_marks_44 rfl ?_ | refine ev_aload_nN dX10_marks_44 rfl ?_
    refine ev_iload_n dX10_marks_45 rfl ?_
    refine ev_iload_n dX10_marks_46 rfl ?_
    refine ev_V2 dX10_marks_47 st_RX10_74 na_X10_longOf (Nat.le_of_ble_eq_true rfl) (Nat.le_of_ble_eq_true rfl) (by repeat (first | assumption | exact up_s | refine (up_n (by omega)).trans ?_)) rfl (lo0) ?_
    refine ev_icmp_geF dX10_marks_50 79 (by decide) (by first | assumption | exact nI_ge (by omega) (by omega) | decide) ?_
    first | refine ev_aload_n dX10_marks_53 rfl ?_ | refine ev_aload_nN dX10_marks_53 rfl ?_
    refine ev_getfield dX10_marks_54 fl_RX10_32 (by repeat (first | assumption | exact up_s | refine (up_n (by omega)).trans ?_)) rfl ?_
    refine ev_iload_n dX10_marks_57 rfl ?_
    first | refine ev_aload_n dX10_marks_58 rfl ?_ | refine ev_aload_nN dX10_marks_58 rfl ?_
    refine ev_iload_n dX10_marks_59 rfl ?_
    refine ev_iload_n dX10_marks_60 rfl ?_
    refine ev_iload dX10_marks_61 rfl ?_
    refine ev_V3 dX10_marks_63 st_RX10_77 na_X10_wordAt (Nat.le_of_ble_eq_true rfl) (Nat.le_of_ble_eq_true rfl) (by repeat (first | assumption | exact up_s | refine (up_n (by omega)).trans ?_)) rfl (wa) ?_
    refine ev_iload dX10_marks_66 rfl ?_
    refine ev_S3 dX10_marks_68 st_RX10_81 na_X10_at (Nat.le_of_ble_eq_true rfl) (Nat.le_of_ble_eq_true rfl) (mm_at) ?_
    refine ev_lconst dX10_marks_71 lc1 ?_
    first | refine ev_last dX10_marks_72 (by omega) (by repeat (first | assumption | exact up_s | refine (up_n (by omega)).trans ?_)) _ _ rfl rfl (by omega) (by omega) ?_ | refine ev_rast dX10_marks_72 (by omega) (by repeat (first | assumption | exact up_s | refine (up_n (by omega)).trans ?_)) _ _ rfl rfl (by omega) (by omega) ?_
    refine ev_iincN (b := 1) dX10_marks_73 rfl (Nat.le_of_ble_eq_true rfl) ?_
    refine ev_goto (tgt := 42) dX10_marks_76 (by decide) ?_
    refine ev_heap (up_u) ?_
    refine ev_sub ?_ (ih)
    repeat (first | exact trivial | refine ⟨rfl, ?_⟩)
theorem lm_maO (q : WF made t l w S W) (g31 : h 31 = MO made F th) (ga : MA h made t l w S W) {i D : Nat} (hi : i < made) (hD : D < 2) :
    ∀ k j, j + k = l (1 - D) i → Ev (d + 1) MX10_marks 2 [(0, .ref 31), (1, .int (nI D)), (2, .int (nI i)), (3, .int (nI j))] [] n (va_up h 39 (aL 480 (mtO (240 * D) (w D i) (l D i) (w (1 - D) i) j C))) (.inl none, n, va_up h 39 (aL 480 (mtO (240 * D) (w D i) (l D i) (w (1 - D) i) (l (1 - D) i) C)), 0, 0) := by
  have hm := q.1
  obtain ⟨lo, b3, c3⟩ := ga.2.2.1
  obtain ⟨wo, b4, c4⟩ := ga.2.2.2.1
  have h1 := q.2.2.1 (1 - D) i (by omega) (by omega)
  have e34 : ∀ C', va_up h 39 (aL 480 C') 34 = aI 40 lo := fun C' => (up_n (by omega)).trans b3
  have e35 : ∀ C', va_up h 39 (aL 480 C') 35 = aI 320 wo := fun C' => (up_n (by omega)).trans b4
  have e31 : ∀ C', va_up h 39 (aL 480 C') 31 = MO made F th := fun C' => (up_n (by omega)).trans g31
  intro k
  induction k with
  | zero =>
    intro j hj
    have e : j = l (1 - D) i := by omega
    subst e
    have lo0 := mm_longOf (d := d) (n := n) (e31 (mtO (240 * D) (w D i) (l D i) (w (1 - D) i) (l (1 - D) i) C)) (e34 _) (show i < 20 by omega) (show 1 - D < 2 by omega)
    rw [show lo (2 * i + (1 - D)) = l (1 - D) i from c3 (1 - D) i (by omega) hi] at lo0
    refine ev_iload_n dX10_marks_2 rfl ?_
    first | refine ev_aload_n dX10_marks_3 rfl ?_ | refine ev_aload_nN dX10_marks_3 rfl ?_
    refine ev_iload_n dX10_marks_4 rfl ?_
    refine ev_iconst dX10_marks_5 ci1 ?_
    refine ev_iload_n dX10_marks_6 rfl ?_
    first | refine ev_isubN dX10_marks_7 (by omega) ?_ | refine ev_isub dX10_marks_7 ?_
    refine ev_V2 dX10_marks_8 st_RX10_74 na_X10_longOf (Nat.le_of_ble_eq_true rfl) (Nat.le_of_ble_eq_true rfl) (by repeat (first | assumption | exact up_s | refine (up_n (by omega)).trans ?_)) rfl (lo0) ?_
    refine ev_icmp_geT (tgt := 85) dX10_marks_11 (by decide) (by first | assumption | exact nI_le (by omega) (by omega) | decide) ?_
    exact ev_vreturnE dX10_marks_85 rfl (by rfl)
  | succ k ih =>
    intro j hj
    have ih := ih (j + 1) (by omega)
    have o15 := q.2.2.2.1 (1 - D) i j (by omega) (by omega) (by omega)
    have lo0 := mm_longOf (d := d) (n := n) (e31 (mtO (240 * D) (w D i) (l D i) (w (1 - D) i) j C)) (e34 _) (show i < 20 by omega) (show 1 - D < 2 by omega)
    rw [show lo (2 * i + (1 - D)) = l (1 - D) i from c3 (1 - D) i (by omega) hi] at lo0
    have wa := mm_wordAt (d := d) (n := n) (e31 (mtO (240 * D) (w D i) (l D i) (w (1 - D) i) j C)) (e35 _) (show i < 20 by omega) (show 1 - D < 2 by omega) (show j < 8 by omega)
    rw [show wo (16 * i + 8 * (1 - D) + j) = w (1 - D) i j from c4 (1 - D) i j (by omega) hi (by omega)] at wa
    have e1 : mtO (240 * D) (w D i) (l D i) (w (1 - D) i) (j + 1) C = mtI (240 * D) (w (1 - D) i j) (w D i) (l D i) (va_up (mtO (240 * D) (w D i) (l D i) (w (1 - D) i) j C) (240 * D + 15 * 15 + w (1 - D) i j) 1) := by
      rw [show 240 * D + 15 * 15 + w (1 - D) i j = 15 * 15 + w (1 - D) i j + 240 * D by omega]; rfl
    rw [e1] at ih
    clear e1
    refine ev_iload_n dX10_marks_2 rfl ?_
    first | refine ev_aload_n dX10_marks_3 rfl ?_ | refine ev_aload_nN dX10_marks_3 rfl ?_
    refine ev_iload_n dX10_marks_4 rfl ?_
    refine ev_iconst dX10_marks_5 ci1 ?_
    refine ev_iload_n dX10_marks_6 rfl ?_
    first | refine ev_isubN dX10_marks_7 (by omega) ?_ | refine ev_isub dX10_marks_7 ?_
    refine ev_V2 dX10_marks_8 st_RX10_74 na_X10_longOf (Nat.le_of_ble_eq_true rfl) (Nat.le_of_ble_eq_true rfl) (by repeat (first | assumption | exact up_s | refine (up_n (by omega)).trans ?_)) rfl (lo0) ?_
    refine ev_icmp_geF dX10_marks_11 85 (by decide) (by first | assumption | exact nI_ge (by omega) (by omega) | decide) ?_
    first | refine ev_aload_n dX10_marks_14 rfl ?_ | refine ev_aload_nN dX10_marks_14 rfl ?_
    refine ev_iload_n dX10_marks_15 rfl ?_
    refine ev_iconst dX10_marks_16 ci1 ?_
    refine ev_iload_n dX10_marks_17 rfl ?_
    first | refine ev_isubN dX10_marks_18 (by omega) ?_ | refine ev_isub dX10_marks_18 ?_
    refine ev_iload_n dX10_marks_19 rfl ?_
    refine ev_V3 dX10_marks_20 st_RX10_77 na_X10_wordAt (Nat.le_of_ble_eq_true rfl) (Nat.le_of_ble_eq_true rfl) (by repeat (first | assumption | exact up_s | refine (up_n (by omega)).trans ?_)) rfl (wa) ?_
    refine ev_istore dX10_marks_23 (Nat.le_of_ble_eq_true rfl) ?_
    first | refine ev_aload_n dX10_marks_25 rfl ?_ | refine ev_aload_nN dX10_marks_25 rfl ?_
    refine ev_getfield dX10_marks_26 fl_RX10_32 (by repeat (first | assumption | exact up_s | refine (up_n (by omega)).trans ?_)) rfl ?_
    refine ev_iload_n dX10_marks_29 rfl ?_
    refine ev_bipush dX10_marks_30 bp15 ?_
    refine ev_iload dX10_marks_32 rfl ?_
    refine ev_S3 dX10_marks_34 st_RX10_81 na_X10_at (Nat.le_of_ble_eq_true rfl) (Nat.le_of_ble_eq_true rfl) (mm_at) ?_
    refine ev_lconst dX10_marks_37 lc1 ?_
    first | refine ev_last dX10_marks_38 (by omega) (by repeat (first | assumption | exact up_s | refine (up_n (by omega)).trans ?_)) _ _ rfl rfl (by omega) (by omega) ?_ | refine ev_rast dX10_marks_38 (by omega) (by repeat (first | assumption | exact up_s | refine (up_n (by omega)).trans ?_)) _ _ rfl rfl (by omega) (by omega) ?_
    refine ev_iconst dX10_marks_39 ci0 ?_
    refine ev_istore dX10_marks_40 (Nat.le_of_ble_eq_true rfl) ?_
    refine ev_heap (up_u) ?_
    refine ev_sub ?_ (lm_maI (F := F) (th := th) (C := va_up (mtO (240 * D) (w D i) (l D i) (w (1 - D) i) j C) (240 * D + 15 * 15 + w (1 - D) i j) 1) q g31 ga hi hD (show j < l (1 - D) i by omega) ?_ (l D i) 0 (by omega))
    · repeat (first | exact trivial | refine ⟨rfl, ?_⟩)
    · refine ev_iincN (b := 1) dX10_marks_79 rfl (Nat.le_of_ble_eq_true rfl) ?_
      refine ev_goto (tgt := 2) dX10_marks_82 (by decide) ?_
      refine ev_sub ?_ (ih)
      repeat (first | exact trivial | refine ⟨rfl, ?_⟩)
theorem mm_marks (q : WF made t l w S W) (g31 : h 31 = MO made F th) (ga : MA h made t l w S W) {i D : Nat} (hi : i < made) (hD : D < 2) : Ev (d + 1) MX10_marks 0 (lv_args 0 [.ref 31, .int (nI D), .int (nI i)]) [] n (va_up h 39 (aL 480 C)) (.inl none, n, va_up h 39 (aL 480 (mtO (240 * D) (w D i) (l D i) (w (1 - D) i) (l (1 - D) i) C)), 0, 0) := by
  refine ev_iconst dX10_marks_0 ci0 ?_
  refine ev_istore_n dX10_marks_1 (Nat.le_of_ble_eq_true rfl) ?_
  refine ev_sub ?_ (lm_maO q g31 ga hi hD (l (1 - D) i) 0 (by omega))
  repeat (first | exact trivial | refine ⟨rfl, ?_⟩)
end MO
