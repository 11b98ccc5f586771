/-! the law's invariant -/
theorem nin {j N : Nat} (h : N ≤ j) (hj : j < 2 ^ 31) : ¬ inN (nI j) N := fun ⟨k, hk, e⟩ => by
  have := (nI_eq hj (by omega)).mp e
  omega
theorem nin_m1 {N : Nat} (h : N < 2 ^ 31) : ¬ inN (-1) N := fun ⟨k, hk, e⟩ => m1_ne (show k < 2 ^ 31 by omega) e.symm
def LW (h : Hp) (G Z Lc Wc : Nat → Nat) : Prop := h 31 = aI 4 G ∧ h 32 = aI 20 Z ∧ h 33 = aI 40 Lc ∧ h 34 = aI 5 Wc
theorem LW_Fr {h h' : Hp} {G Z Lc Wc : Nat → Nat} (f : Fr h h') (g : LW h G Z Lc Wc) : LW h' G Z Lc Wc := ⟨(f _ (by omega)).trans g.1, (f _ (by omega)).trans g.2.1, (f _ (by omega)).trans g.2.2.1, (f _ (by omega)).trans g.2.2.2⟩
theorem LW_31 {h : Hp} {G Z Lc Wc : Nat → Nat} (G' : Nat → Nat) (g : LW h G Z Lc Wc) : LW (va_up h 31 (aI 4 G')) G' Z Lc Wc := ⟨up_s, (up_n (by omega)).trans g.2.1, (up_n (by omega)).trans g.2.2.1, (up_n (by omega)).trans g.2.2.2⟩
theorem LW_32 {h : Hp} {G Z Lc Wc : Nat → Nat} (Z' : Nat → Nat) (g : LW h G Z Lc Wc) : LW (va_up h 32 (aI 20 Z')) G Z' Lc Wc := ⟨(up_n (by omega)).trans g.1, up_s, (up_n (by omega)).trans g.2.2.1, (up_n (by omega)).trans g.2.2.2⟩
theorem LW_33 {h : Hp} {G Z Lc Wc : Nat → Nat} (L' : Nat → Nat) (g : LW h G Z Lc Wc) : LW (va_up h 33 (aI 40 L')) G Z L' Wc := ⟨(up_n (by omega)).trans g.1, (up_n (by omega)).trans g.2.1, up_s, (up_n (by omega)).trans g.2.2.2⟩
theorem LW_34 {h : Hp} {G Z Lc Wc : Nat → Nat} (W' : Nat → Nat) (g : LW h G Z Lc Wc) : LW (va_up h 34 (aI 5 W')) G Z Lc W' := ⟨(up_n (by omega)).trans g.1, (up_n (by omega)).trans g.2.1, (up_n (by omega)).trans g.2.2.1, up_s⟩
/-- the law's own numbers against the class's -/
def LR (made gc : Nat) (t : Nat → Nat) (l : Nat → Nat → Nat) (W G Z Lc Wc : Nat → Nat) : Prop :=
  (G 0 = l 0 made ∧ G 1 = l 1 made ∧ G 2 = made ∧ G 3 = gc) ∧ (∀ i, i < made → Z i + t i = 1) ∧ (∀ i, made ≤ i → Z i = 0) ∧ (∀ i, i < made → Lc (2 * i) = l 0 i ∧ Lc (2 * i + 1) = l 1 i ∧ 0 < l 0 i ∧ 0 < l 1 i) ∧ ∀ k, k < 5 → Wc k = W k
def H01 (L : Nat) (xs : Nat → Int32) (h : Hp) : Prop := h 0 = .inl (0, L, .inl xs) ∧ h 1 = .inl (0, 5, .inl am_fw)
theorem H01_Fr {L : Nat} {xs : Nat → Int32} {h h' : Hp} (f : Fr h h') (g : H01 L xs h) : H01 L xs h' := ⟨(f _ (by omega)).trans g.1, (f _ (by omega)).trans g.2⟩
theorem H01_up {L k : Nat} {xs : Nat → Int32} {h : Hp} {e : va_E} (hk : 2 ≤ k) (g : H01 L xs h) : H01 L xs (va_up h k e) := ⟨(up_n (by omega)).trans g.1, (up_n (by omega)).trans g.2⟩
def LI (L : Nat) (xs : Nat → Int32) (n : Nat) (h : Hp) (gc : Nat) : Prop :=
  ∃ (made : Nat) (t : Nat → Nat) (l : Nat → Nat → Nat) (w : Nat → Nat → Nat → Nat) (S : Nat → Nat → Nat) (W G Z Lc Wc : Nat → Nat), n = 35 + 5 * made ∧ GS h made t l w S W ∧ LW h G Z Lc Wc ∧ RS S ∧ H01 L xs h ∧ LR made gc t l W G Z Lc Wc
section LIS
variable {h h' : Hp} {made : Nat} {t : Nat → Nat} {l : Nat → Nat → Nat} {w : Nat → Nat → Nat → Nat} {S : Nat → Nat → Nat} {W : Nat → Nat}
theorem pp_top {i : Nat} (hi : i ≤ made) : pp i + 5 ≤ 35 + 5 * made := by have := pp_lt (show i < made + 1 by omega); rw [pp_s] at this; exact this
theorem GS_cgN (e : ∀ a, a < 31 ∨ (34 < a ∧ a < 35 + 5 * made) → h' a = h a) (g : GS h made t l w S W) : GS h' made t l w S W := by
  obtain ⟨g1, ⟨c1, c2, c3, c4, c5, c6⟩, ⟨k1, k2, k3, k4, k5, k6, k7⟩, g4, ⟨a0, a1, B, E, J, x1, x2, x3, x4⟩, ⟨C1, F1, y1, y2⟩, ⟨P, N, A, z1, z2⟩, ⟨C2, F2, R2, u1, u2, u3⟩, ⟨C3, F3, R3, v1, v2, v3⟩⟩ := g
  have ep : ∀ i, i ≤ made → ∀ k, k ≤ 4 → h' (pp i + k) = h (pp i + k) := fun i hi k hk => e _ (by have := pp_gap i; have := pp_top hi; omega)
  refine ⟨(e _ (by omega)).trans g1, ⟨(e _ (by omega)).trans c1, (e _ (by omega)).trans c2, c3, c4, c5, fun i hi => Pr_cg (ep i (by omega)) (c6 i hi)⟩, ⟨(e _ (by omega)).trans k1, (e _ (by omega)).trans k2, (e _ (by omega)).trans k3, (e _ (by omega)).trans k4, (e _ (by omega)).trans k5, ⟨(e _ (by omega)).trans k6.1, (e _ (by omega)).trans k6.2.1, k6.2.2⟩, k7⟩, Pr_cg (ep made (Nat.le_refl _)) g4,
    ⟨a0, a1, B, E, J, (e _ (by omega)).trans x1, (e _ (by omega)).trans x2, (e _ (by omega)).trans x3, (e _ (by omega)).trans x4⟩, ⟨C1, F1, (e _ (by omega)).trans y1, (e _ (by omega)).trans y2⟩, ⟨P, N, A, (e _ (by omega)).trans z1, (e _ (by omega)).trans z2⟩, ⟨C2, F2, R2, (e _ (by omega)).trans u1, (e _ (by omega)).trans u2, (e _ (by omega)).trans u3⟩, ⟨C3, F3, R3, (e _ (by omega)).trans v1, (e _ (by omega)).trans v2, (e _ (by omega)).trans v3⟩⟩
theorem GS_upN (g : GS h made t l w S W) {k : Nat} {e : va_E} (hk : 35 + 5 * made ≤ k) : GS (va_up h k e) made t l w S W := GS_cgN (fun a q => up_n (by omega)) g
theorem GS_upL (g : GS h made t l w S W) {k : Nat} {e : va_E} (h1 : 31 ≤ k) (h2 : k ≤ 34) : GS (va_up h k e) made t l w S W := GS_cgN (fun a q => up_n (by omega)) g
/-- no place of the law's world names a place beyond it -/
theorem okI {n N : Nat} {e : va_E} {f : Nat → Nat} (g : e = aI N f) : am_okE n e := by rw [g]; trivial
theorem okL {n N : Nat} {e : va_E} {f : Nat → Nat} (g : e = aL N f) : am_okE n e := by rw [g]; trivial
theorem okR {n N : Nat} {e : va_E} {f : Nat → Int} (g : e = aR N f) : am_okE n e := by rw [g]; trivial
def okl (n : Nat) : List Value → Prop
  | [] => True
  | v :: t => am_ok n v ∧ okl n t
theorem okl_mem {n : Nat} : ∀ {fs : List Value}, okl n fs → ∀ v ∈ fs, am_ok n v
  | [], _, v, hv => by cases hv
  | u :: t, g, v, hv => by
    rcases List.mem_cons.mp hv with rfl | hv
    · exact g.1
    · exact okl_mem g.2 v hv
theorem okO {n c : Nat} {e : va_E} {fs : List Value} (g : e = .inr (c, fs)) (q : okl n fs) : am_okE n e := by
  rw [g]
  exact okl_mem q
theorem okPr {n p t0 l0 l1 k : Nat} {w0 w1 : Nat → Nat} (g : Pr h p t0 l0 w0 l1 w1) (hn : p + 5 ≤ n) (hk : k ≤ 4) : am_okE n (h (p + k)) := by
  obtain ⟨g1, ⟨g2, g3, -⟩, ⟨g4, g5, -⟩⟩ := g
  rcases (show k = 0 ∨ k = 1 ∨ k = 2 ∨ k = 3 ∨ k = 4 by omega) with rfl | rfl | rfl | rfl | rfl
  · exact okO g1 (by repeat (first | exact trivial | (show (_ : Nat) < _; omega) | refine ⟨?_, ?_⟩))
  · exact okO g2 (by repeat (first | exact trivial | (show (_ : Nat) < _; omega) | refine ⟨?_, ?_⟩))
  · exact okI g3
  · exact okO g4 (by repeat (first | exact trivial | (show (_ : Nat) < _; omega) | refine ⟨?_, ?_⟩))
  · exact okI g5
theorem pp_at {a : Nat} (h1 : (26 ≤ a ∧ a < 31) ∨ 35 ≤ a) (h2 : a < 35 + 5 * made) : ∃ i k, i ≤ made ∧ k ≤ 4 ∧ a = pp i + k := by
  rcases Nat.lt_or_ge a 31 with q | q
  · exact ⟨0, a - 26, by omega, by omega, by show a = 26 + (a - 26); omega⟩
  · refine ⟨(a - 30) / 5, a - (30 + 5 * ((a - 30) / 5)), by omega, by omega, ?_⟩
    unfold pp
    rw [if_neg (by omega)]
    omega
theorem GS_ok {L : Nat} {xs : Nat → Int32} {G Z Lc Wc : Nat → Nat} (g : GS h made t l w S W) (v : LW h G Z Lc Wc) (z : H01 L xs h) : ∀ a, a < 35 + 5 * made → am_okE (35 + 5 * made) (h a) := by
  intro a ha
  have hp5 := pp_top (Nat.le_refl made)
  obtain ⟨g1, ⟨c1, c2, c3, c4, c5, c6⟩, ⟨k1, k2, k3, k4, k5, k6, k7⟩, g4, ⟨a0, a1, B, E, J, x1, x2, x3, x4⟩, ⟨C1, F1, y1, y2⟩, ⟨P, N, A, z1, z2⟩, ⟨C2, F2, R2, u1, u2, u3⟩, ⟨C3, F3, R3, v1, v2, v3⟩⟩ := g
  by_cases q : (26 ≤ a ∧ a < 31) ∨ 35 ≤ a
  · obtain ⟨i, k, hi, hk, rfl⟩ := pp_at q ha
    by_cases e : i = made
    · subst e; exact okPr g4 hp5 hk
    · exact okPr (c6 i (by omega)) (pp_top hi) hk
  · rcases (show a = 0 ∨ a = 1 ∨ a = 2 ∨ a = 3 ∨ a = 4 ∨ a = 5 ∨ a = 6 ∨ a = 7 ∨ a = 8 ∨ a = 9 ∨ a = 10 ∨ a = 11 ∨ a = 12 ∨ a = 13 ∨ a = 14 ∨ a = 15 ∨ a = 16 ∨ a = 17 ∨ a = 18 ∨ a = 19 ∨ a = 20 ∨ a = 21 ∨ a = 22 ∨ a = 23 ∨ a = 24 ∨ a = 25 ∨ a = 31 ∨ a = 32 ∨ a = 33 ∨ a = 34 by omega) with rfl | rfl | rfl | rfl | rfl | rfl | rfl | rfl | rfl | rfl | rfl | rfl | rfl | rfl | rfl | rfl | rfl | rfl | rfl | rfl | rfl | rfl | rfl | rfl | rfl | rfl | rfl | rfl | rfl | rfl
    · rw [z.1]; trivial
    · rw [z.2]; trivial
    · exact okO g1 (by repeat (first | exact trivial | (show (_ : Nat) < _; omega) | refine ⟨?_, ?_⟩))
    · exact okO c1 (by repeat (first | exact trivial | (show (_ : Nat) < _; omega) | refine ⟨?_, ?_⟩))
    · rw [c2]
      intro j k hj
      have hj : (if j < made then some (pp j) else none) = some k := hj
      split at hj
      · next q2 =>
        cases hj
        have := pp_top (show j ≤ made by omega)
        omega
      · cases hj
    · exact okO k1 (by repeat (first | exact trivial | (show (_ : Nat) < _; omega) | refine ⟨?_, ?_⟩))
    · exact okO k2 (by repeat (first | exact trivial | (show (_ : Nat) < _; omega) | refine ⟨?_, ?_⟩))
    · exact okI k4
    · exact okL u1
    · exact okI u2
    · exact okR u3
    · exact okO k3 (by repeat (first | exact trivial | (show (_ : Nat) < _; omega) | refine ⟨?_, ?_⟩))
    · exact okI k5
    · exact okL v1
    · exact okI v2
    · exact okR v3
    · exact okO k6.1 (by repeat (first | exact trivial | (show (_ : Nat) < _; omega) | refine ⟨?_, ?_⟩))
    · exact okI k6.2.1
    · exact okO x1 (by repeat (first | exact trivial | (show (_ : Nat) < _; omega) | refine ⟨?_, ?_⟩))
    · exact okI x2
    · exact okI x3
    · exact okI x4
    · exact okO y1 (by repeat (first | exact trivial | (show (_ : Nat) < _; omega) | refine ⟨?_, ?_⟩))
    · exact okI y2
    · exact okO z1 (by repeat (first | exact trivial | (show (_ : Nat) < _; omega) | refine ⟨?_, ?_⟩))
    · exact okL z2
    · exact okI v.1
    · exact okI v.2.1
    · exact okI v.2.2.1
    · exact okI v.2.2.2
end LIS
/-! the law's small methods -/
theorem and_max (x : Int32) : ∃ m, m < 2 ^ 31 ∧ x &&& nI 2147483647 = nI m := by
  have e : x = nI x.toBitVec.toNat := by
    apply Int32.toBitVec_inj.1
    show x.toBitVec = BitVec.ofNat 32 x.toBitVec.toNat
    simp
  refine ⟨x.toBitVec.toNat &&& 2147483647, ?_, ?_⟩
  · have := Nat.and_le_right (n := x.toBitVec.toNat) (m := 2147483647)
    omega
  · rw [← n_and, ← e]
section LSM
variable {d n : Nat} {h : Hp}
theorem l_low (v : Int32) {N : Nat} (h0 : 0 < N) (h1 : N < 2 ^ 31) : ∃ j, j < N ∧ ∀ (d n : Nat) (h : Hp), Ev d ML_low 0 (lv_args 0 [.int v, .int (nI N)]) [] n h (.inl (some (.int (nI j))), n, h, 0, 0) := by
  obtain ⟨m, hm, e⟩ := and_max v
  refine ⟨m % N, Nat.mod_lt _ h0, fun d n h => ?_⟩
  refine ev_iload_n dL_low_0 rfl ?_
  refine ev_ldc (v := nI 2147483647) dL_low_1 (am_in 477 (by decide +kernel) rfl) ?_
  refine ev_iand dL_low_3 ?_
  refine ev_top (congrArg Value.int e) ?_
  refine ev_iload_n dL_low_4 rfl ?_
  refine ev_iremN dL_low_5 (by omega) (by omega) (by omega) ?_
  exact ev_ireturnE dL_low_6 rfl (by rfl)
theorem l_at {L : Nat} {xs : Nat → Int32} (hL : L ≤ 260) {k : Nat} (hk : k < 1000) (h0 : h 0 = .inl (0, L, .inl xs)) : ∃ v : Int32, Ev d ML_at 0 (lv_args 0 [.ref 0, .int (nI k)]) [] n h (.inl (some (.int v)), n, h, 0, 0) := by
  by_cases q : k < L
  · refine ⟨xs k, ?_⟩
    refine ev_iload_n dL_at_0 rfl ?_
    first | refine ev_aload_n dL_at_1 rfl ?_ | refine ev_aload_nN dL_at_1 rfl ?_
    refine ev_alen dL_at_2 (by repeat (first | assumption | exact up_s | refine (up_n (by omega)).trans ?_)) (by decide) ?_
    refine ev_icmp_geF dL_at_3 12 (by decide) (by first | assumption | exact nI_ge (by omega) (by omega) | decide) ?_
    first | refine ev_aload_n dL_at_6 rfl ?_ | refine ev_aload_nN dL_at_6 rfl ?_
    refine ev_iload_n dL_at_7 rfl ?_
    refine ev_iald dL_at_8 (by repeat (first | assumption | exact up_s | refine (up_n (by omega)).trans ?_)) _ rfl (by omega) (by omega) ?_
    refine ev_goto (tgt := 21) dL_at_9 (by decide) ?_
    exact ev_ireturnE dL_at_21 rfl (by rfl)
  · refine ⟨nI 1674962929 * nI (k + 1) + nI 734650839, ?_⟩
    refine ev_iload_n dL_at_0 rfl ?_
    first | refine ev_aload_n dL_at_1 rfl ?_ | refine ev_aload_nN dL_at_1 rfl ?_
    refine ev_alen dL_at_2 (by repeat (first | assumption | exact up_s | refine (up_n (by omega)).trans ?_)) (by decide) ?_
    refine ev_icmp_geT (tgt := 12) dL_at_3 (by decide) (by first | assumption | exact nI_le (by omega) (by omega) | decide) ?_
    refine ev_ldc (v := nI 1674962929) dL_at_12 (am_in 244 (by decide +kernel) rfl) ?_
    refine ev_iload_n dL_at_14 rfl ?_
    refine ev_iconst dL_at_15 ci1 ?_
    first | refine ev_iaddN dL_at_16 ?_ | refine ev_iadd dL_at_16 ?_
    refine ev_imul dL_at_17 ?_
    refine ev_ldc (v := nI 734650839) dL_at_18 (am_in 245 (by decide +kernel) rfl) ?_
    refine ev_iadd dL_at_20 ?_
    exact ev_ireturnE dL_at_21 rfl (by rfl)
theorem l_empties {G : Nat → Nat} (g : h 31 = aI 4 G) : Ev d ML_empties 0 (lv_args 0 [.ref 31]) [] n h (.inl (some (.int (nI 1))), n, va_up h 31 (aI 4 (va_up (va_up G 0 0) 1 0)), 0, 0) := by
  first | refine ev_aload_n dL_empties_0 rfl ?_ | refine ev_aload_nN dL_empties_0 rfl ?_
  refine ev_iconst dL_empties_1 ci0 ?_
  refine ev_iconst dL_empties_2 ci0 ?_
  refine ev_iast dL_empties_3 (by omega) (by repeat (first | assumption | exact up_s | refine (up_n (by omega)).trans ?_)) _ _ rfl rfl (by omega) (by omega) ?_
  first | refine ev_aload_n dL_empties_4 rfl ?_ | refine ev_aload_nN dL_empties_4 rfl ?_
  refine ev_iconst dL_empties_5 ci1 ?_
  refine ev_iconst dL_empties_6 ci0 ?_
  refine ev_iast dL_empties_7 (by omega) (by repeat (first | assumption | exact up_s | refine (up_n (by omega)).trans ?_)) _ _ rfl rfl (by omega) (by omega) ?_
  refine ev_iconst dL_empties_8 ci1 ?_
  refine ev_heap up_u ?_
  exact ev_zreturnE dL_empties_9 rfl (by first | exact Or.inl rfl | exact Or.inr rfl | assumption | exact z01 (bI_01 _) | exact z01 (by omega)) (by rfl)
end LSM
