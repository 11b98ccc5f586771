/-! the linker, and the alignment's leaves -/
theorem n_and (a b : Nat) : nI a &&& nI b = nI (a &&& b) := by
  apply Int32.toBitVec_inj.1
  show BitVec.ofNat 32 a &&& BitVec.ofNat 32 b = BitVec.ofNat 32 (a &&& b)
  apply BitVec.eq_of_getLsbD_eq
  intro i hi
  simp [hi]
theorem n_or (a b : Nat) : nI a ||| nI b = nI (a ||| b) := by
  apply Int32.toBitVec_inj.1
  show BitVec.ofNat 32 a ||| BitVec.ofNat 32 b = BitVec.ofNat 32 (a ||| b)
  apply BitVec.eq_of_getLsbD_eq
  intro i hi
  simp [hi]
theorem ev_iandN {d : Nat} {M : MI} {pc : Nat} {ls : List (Nat × Value)} {st : List Value} {n : Nat} {h : Hp} {o : Out} {a b : Nat} (g0 : decode (mB M) pc = .ok (.iand, 1)) (k : Ev d M (pc + 1) ls (.int (nI (a &&& b)) :: st) n h o) : Ev d M pc ls (.int (nI b) :: .int (nI a) :: st) n h o := ev_iand g0 (ev_top (congrArg Value.int (n_and a b)) k)
theorem ev_iorN {d : Nat} {M : MI} {pc : Nat} {ls : List (Nat × Value)} {st : List Value} {n : Nat} {h : Hp} {o : Out} {a b : Nat} (g0 : decode (mB M) pc = .ok (.ior, 1)) (k : Ev d M (pc + 1) ls (.int (nI (a ||| b)) :: st) n h o) : Ev d M pc ls (.int (nI b) :: .int (nI a) :: st) n h o := ev_ior g0 (ev_top (congrArg Value.int (n_or a b)) k)
/-- a place or none: 0 for none -/
def bo (m : Nat) : Int32 := if m = 0 then -1 else nI (m - 1)
theorem bo_0 : bo 0 = -1 := rfl
theorem bo_s (i : Nat) : bo (i + 1) = nI i := if_neg (by omega)
theorem bo_m1 {j : Nat} (hj : j < 16) : nI j - nI 1 = bo j := by
  have h : ∀ j, j < 16 → nI j - nI 1 = bo j := by decide +kernel
  exact h j hj
/-- the best of some, the first of alike ones: place + 1, and how good -/
def bsF (v : Nat → Nat) : Nat → Nat × Nat
  | 0 => (0, 0)
  | k + 1 => if (bsF v k).2 < v k then (k + 1, v k) else bsF v k
theorem bsF_le (v : Nat → Nat) : ∀ k, (bsF v k).1 ≤ k
  | 0 => Nat.le_refl _
  | k + 1 => by
    have := bsF_le v k
    unfold bsF
    split
    · exact Nat.le_refl _
    · omega
theorem bsF_bd {v : Nat → Nat} {B : Nat} : ∀ k, (∀ j, j < k → v j ≤ B) → (bsF v k).2 ≤ B
  | 0, _ => Nat.zero_le _
  | k + 1, h => by
    have := bsF_bd k (fun j hj => h j (by omega))
    unfold bsF
    split
    · exact h k (by omega)
    · exact this
theorem bsF_congr {v v' : Nat → Nat} : ∀ k, (∀ j, j < k → v j = v' j) → bsF v k = bsF v' k
  | 0, _ => rfl
  | k + 1, h => by
    have := bsF_congr k (fun j hj => h j (by omega))
    unfold bsF
    rw [this, h k (by omega)]
def lnk (S W wa : Nat → Nat) (la o j : Nat) : Nat :=
  if (bsF (fun i => S (15 * wa i + o) * W (apart i j)) la).2 < S (15 * 15 + o) * W 4 then 0 else (bsF (fun i => S (15 * wa i + o) * W (apart i j)) la).1
theorem lnk_le (S W wa : Nat → Nat) (la o j : Nat) : lnk S W wa la o j ≤ la := by
  unfold lnk
  split
  · exact Nat.zero_le _
  · exact bsF_le _ _
/-- what links go by: the linker, its lexicons' shares, its weights -/
def Kn (h : Hp) (S : Nat → Nat → Nat) (W : Nat → Nat) : Prop := h 5 = .inr (4, [.ref 6, .ref 11, .ref 16]) ∧ Lh h 6 0 ∧ Lh h 11 1 ∧ h 7 = aI 240 (S 0) ∧ h 12 = aI 240 (S 1) ∧ Wt h 16 W ∧ SB (S 0) ∧ SB (S 1)
theorem Wt_up {h : Hp} {a k : Nat} {W : Nat → Nat} {e : va_E} (g : Wt h a W) (h1 : a ≠ k) (h2 : a + 1 ≠ k) : Wt (va_up h k e) a W := ⟨(up_n h1).trans g.1, (up_n h2).trans g.2.1, g.2.2⟩
theorem Kn_up {h : Hp} {S : Nat → Nat → Nat} {W : Nat → Nat} {k : Nat} {e : va_E} (g : Kn h S W) (hk : 18 ≤ k) : Kn (va_up h k e) S W :=
  ⟨(up_n (by omega)).trans g.1, (up_n (by omega)).trans g.2.1, (up_n (by omega)).trans g.2.2.1, (up_n (by omega)).trans g.2.2.2.1, (up_n (by omega)).trans g.2.2.2.2.1, Wt_up g.2.2.2.2.2.1 (by omega) (by omega), g.2.2.2.2.2.2⟩
section M4
variable {d n : Nat} {h : Hp} {S : Nat → Nat → Nat} {W : Nat → Nat}
theorem m4_lexicon (g : h 5 = .inr (4, [.ref 6, .ref 11, .ref 16])) {D : Nat} (hD : D ≤ 1) : Ev d MX4_lexicon 0 (lv_args 0 [.ref 5, .int (nI D)]) [] n h (.inl (some (.ref (6 + 5 * D))), n, h, 0, 0) := by
  rcases (show D = 0 ∨ D = 1 by omega) with rfl | rfl
  · refine ev_iload_n dX4_lexicon_0 rfl ?_
    refine ev_if_neF dX4_lexicon_1 11 (by decide) (by first | assumption | exact z_eq (by omega) | decide) ?_
    first | refine ev_aload_n dX4_lexicon_4 rfl ?_ | refine ev_aload_nN dX4_lexicon_4 rfl ?_
    refine ev_getfield dX4_lexicon_5 fl_RX4_14 (by repeat (first | assumption | exact up_s | refine (up_n (by omega)).trans ?_)) rfl ?_
    refine ev_goto (tgt := 15) dX4_lexicon_8 (by decide) ?_
    exact ev_areturnE dX4_lexicon_15 rfl (by first | exact Or.inl rfl | exact Or.inr ⟨_, rfl⟩) (by rfl)
  · refine ev_iload_n dX4_lexicon_0 rfl ?_
    refine ev_if_neT (tgt := 11) dX4_lexicon_1 (by decide) (by first | assumption | exact nI_ne0 (by omega) (by omega) | decide) ?_
    first | refine ev_aload_n dX4_lexicon_11 rfl ?_ | refine ev_aload_nN dX4_lexicon_11 rfl ?_
    refine ev_getfield dX4_lexicon_12 fl_RX4_20 (by repeat (first | assumption | exact up_s | refine (up_n (by omega)).trans ?_)) rfl ?_
    exact ev_areturnE dX4_lexicon_15 rfl (by first | exact Or.inl rfl | exact Or.inr ⟨_, rfl⟩) (by rfl)
theorem m4_setWeight (g : h 5 = .inr (4, [.ref 6, .ref 11, .ref 16])) (gw : Wt h 16 W) {k : Nat} (hk : k < 5) (v : Nat) : Ev (d + 2) MX4_setWeight 0 (lv_args 0 [.ref 5, .int (nI k), .int (nI v)]) [] n h (.inl (some (.int (nI (W k)))), n, va_up h 17 (aI 5 (va_up W k v)), 0, 0) := by
  have g1 := gw.1
  first | refine ev_aload_n dX4_setWeight_0 rfl ?_ | refine ev_aload_nN dX4_setWeight_0 rfl ?_
  refine ev_getfield dX4_setWeight_1 fl_RX4_26 (by repeat (first | assumption | exact up_s | refine (up_n (by omega)).trans ?_)) rfl ?_
  refine ev_iload_n dX4_setWeight_4 rfl ?_
  refine ev_iload_n dX4_setWeight_5 rfl ?_
  refine ev_V2 dX4_setWeight_6 st_RX4_30 na_X8_replace (Nat.le_of_ble_eq_true rfl) (Nat.le_of_ble_eq_true rfl) (by repeat (first | assumption | exact up_s | refine (up_n (by omega)).trans ?_)) rfl (m8_replace gw (by omega) hk v) ?_
  exact ev_ireturnE dX4_setWeight_9 rfl (by rfl)
theorem Kn_lx (g : Kn h S W) {D : Nat} (hD : D ≤ 1) : Lh h (6 + 5 * D) D ∧ h (6 + 5 * D + 1) = aI 240 (S D) ∧ SB (S D) := by
  rcases (show D = 0 ∨ D = 1 by omega) with rfl | rfl
  · exact ⟨g.2.1, g.2.2.2.1, g.2.2.2.2.2.2.1⟩
  · exact ⟨g.2.2.1, g.2.2.2.2.1, g.2.2.2.2.2.2.2⟩
theorem lp_af (G : Kn h S W) {p t j o D : Nat} {l : Nat → Nat → Nat} {w : Nat → Nat → Nat → Nat} {i9 : Nat} (hD : D ≤ 1) (hp : Pr h p t (l 0 i9) (w 0 i9) (l 1 i9) (w 1 i9)) (ho : o < 15) (hj : j < 8) :
    ∀ k i, i + k = l D i9 → Ev (d + 2) MX4_answerFor 36 [(0, .ref 5), (2, .ref p), (3, .int (nI j)), (4, .ref (6 + 5 * D)), (5, .ref (p + 1 + 2 * D)), (6, .int (nI o)), (7, .int (bo (bsF (fun i => S D (15 * w D i9 i + o) * W (apart i j)) i).1)), (8, .int (nI (bsF (fun i => S D (15 * w D i9 i + o) * W (apart i j)) i).2)), (9, .int (nI i))] [] n h (.inl (some (.int (bo (lnk (S D) W (w D i9) (l D i9) o j)))), n, h, 0, 0) := by
  obtain ⟨x1, x2, x3⟩ := Kn_lx G hD
  have hs := Pr_side hp hD
  have hs1 := hs.1
  have hl := hs.2.2.1
  have hW := G.2.2.2.2.2.1
  have g1 := G.1
  have gw1 := hW.1
  have hbd : ∀ i, S D (15 * w D i9 i + o) * W (apart i j) ≤ 9000000 := fun i => by
    have h1 := x3 (15 * w D i9 i + o)
    have h2 := hW.2.2 (apart i j)
    calc _ ≤ 1000000 * 9 := Nat.mul_le_mul h1 h2
      _ = 9000000 := rfl
  intro k
  induction k with
  | zero =>
    intro i hi
    have e : i = l D i9 := by omega
    subst e
    have b1 := bsF_bd (v := fun i => S D (15 * w D i9 i + o) * W (apart i j)) (l D i9) (fun j _ => hbd j)
    have b2 : S D (15 * 15 + o) * W 4 ≤ 9000000 := by
      have h1 := x3 (15 * 15 + o)
      have h2 := hW.2.2 4
      calc _ ≤ 1000000 * 9 := Nat.mul_le_mul h1 h2
        _ = 9000000 := rfl
    by_cases q : (bsF (fun i => S D (15 * w D i9 i + o) * W (apart i j)) (l D i9)).2 < S D (15 * 15 + o) * W 4
    · have e : lnk (S D) W (w D i9) (l D i9) o j = 0 := if_pos q
      rw [e]
      refine ev_iload dX4_answerFor_36 rfl ?_
      first | refine ev_aload dX4_answerFor_38 rfl ?_ | refine ev_aloadN dX4_answerFor_38 rfl ?_
      refine ev_V0 dX4_answerFor_40 st_RX4_50 na_X6_length (Nat.le_of_ble_eq_true rfl) (Nat.le_of_ble_eq_true rfl) (by repeat (first | assumption | exact up_s | refine (up_n (by omega)).trans ?_)) rfl (m6_length hs) ?_
      refine ev_icmp_geT (tgt := 98) dX4_answerFor_43 (by decide) (by first | assumption | exact nI_le (by omega) (by omega) | decide) ?_
      first | refine ev_aload dX4_answerFor_98 rfl ?_ | refine ev_aloadN dX4_answerFor_98 rfl ?_
      refine ev_bipush dX4_answerFor_100 bp15 ?_
      refine ev_iload dX4_answerFor_102 rfl ?_
      refine ev_V2 dX4_answerFor_104 st_RX4_54 na_X2_shareOf (Nat.le_of_ble_eq_true rfl) (Nat.le_of_ble_eq_true rfl) (by repeat (first | assumption | exact up_s | refine (up_n (by omega)).trans ?_)) rfl (m2_shareOf x1 x2 (Nat.le_refl 15) ho) ?_
      first | refine ev_aload_n dX4_answerFor_107 rfl ?_ | refine ev_aload_nN dX4_answerFor_107 rfl ?_
      refine ev_getfield dX4_answerFor_108 fl_RX4_26 (by repeat (first | assumption | exact up_s | refine (up_n (by omega)).trans ?_)) rfl ?_
      refine ev_V0 dX4_answerFor_111 st_RX4_60 na_X8_ofEmpty (Nat.le_of_ble_eq_true rfl) (Nat.le_of_ble_eq_true rfl) (by repeat (first | assumption | exact up_s | refine (up_n (by omega)).trans ?_)) rfl (m8_ofEmpty hW) ?_
      first | refine ev_imulN dX4_answerFor_114 ?_ | refine ev_imul dX4_answerFor_114 ?_
      refine ev_istore dX4_answerFor_115 (Nat.le_of_ble_eq_true rfl) ?_
      refine ev_iload dX4_answerFor_117 rfl ?_
      refine ev_iload dX4_answerFor_119 rfl ?_
      refine ev_icmp_leF dX4_answerFor_121 128 (by decide) (by first | assumption | exact nI_ge (by omega) (by omega) | decide) ?_
      refine ev_iconst dX4_answerFor_124 cm1 ?_
      refine ev_goto (tgt := 130) dX4_answerFor_125 (by decide) ?_
      exact ev_ireturnE dX4_answerFor_130 rfl (by rfl)
    · have e : lnk (S D) W (w D i9) (l D i9) o j = (bsF (fun i => S D (15 * w D i9 i + o) * W (apart i j)) (l D i9)).1 := if_neg q
      rw [e]
      refine ev_iload dX4_answerFor_36 rfl ?_
      first | refine ev_aload dX4_answerFor_38 rfl ?_ | refine ev_aloadN dX4_answerFor_38 rfl ?_
      refine ev_V0 dX4_answerFor_40 st_RX4_50 na_X6_length (Nat.le_of_ble_eq_true rfl) (Nat.le_of_ble_eq_true rfl) (by repeat (first | assumption | exact up_s | refine (up_n (by omega)).trans ?_)) rfl (m6_length hs) ?_
      refine ev_icmp_geT (tgt := 98) dX4_answerFor_43 (by decide) (by first | assumption | exact nI_le (by omega) (by omega) | decide) ?_
      first | refine ev_aload dX4_answerFor_98 rfl ?_ | refine ev_aloadN dX4_answerFor_98 rfl ?_
      refine ev_bipush dX4_answerFor_100 bp15 ?_
      refine ev_iload dX4_answerFor_102 rfl ?_
      refine ev_V2 dX4_answerFor_104 st_RX4_54 na_X2_shareOf (Nat.le_of_ble_eq_true rfl) (Nat.le_of_ble_eq_true rfl) (by repeat (first | assumption | exact up_s | refine (up_n (by omega)).trans ?_)) rfl (m2_shareOf x1 x2 (Nat.le_refl 15) ho) ?_
      first | refine ev_aload_n dX4_answerFor_107 rfl ?_ | refine ev_aload_nN dX4_answerFor_107 rfl ?_
      refine ev_getfield dX4_answerFor_108 fl_RX4_26 (by repeat (first | assumption | exact up_s | refine (up_n (by omega)).trans ?_)) rfl ?_
      refine ev_V0 dX4_answerFor_111 st_RX4_60 na_X8_ofEmpty (Nat.le_of_ble_eq_true rfl) (Nat.le_of_ble_eq_true rfl) (by repeat (first | assumption | exact up_s | refine (up_n (by omega)).trans ?_)) rfl (m8_ofEmpty hW) ?_
      first | refine ev_imulN dX4_answerFor_114 ?_ | refine ev_imul dX4_answerFor_114 ?_
      refine ev_istore dX4_answerFor_115 (Nat.le_of_ble_eq_true rfl) ?_
      refine ev_iload dX4_answerFor_117 rfl ?_
      refine ev_iload dX4_answerFor_119 rfl ?_
      refine ev_icmp_leT (tgt := 128) dX4_answerFor_121 (by decide) (by first | assumption | exact nI_le (by omega) (by omega) | decide) ?_
      refine ev_iload dX4_answerFor_128 rfl ?_
      exact ev_ireturnE dX4_answerFor_130 rfl (by rfl)
  | succ k ih =>
    intro i hi
    have s4 := hs.2.2.2 i (by omega)
    have ih := ih (i + 1) (by omega)
    have b1 := bsF_bd (v := fun i => S D (15 * w D i9 i + o) * W (apart i j)) i (fun j _ => hbd j)
    have b2 := hbd i
    by_cases q : (bsF (fun i => S D (15 * w D i9 i + o) * W (apart i j)) i).2 < S D (15 * w D i9 i + o) * W (apart i j)
    · have e : bsF (fun i => S D (15 * w D i9 i + o) * W (apart i j)) (i + 1) = (i + 1, S D (15 * w D i9 i + o) * W (apart i j)) := if_pos q
      rw [e] at ih
      simp only [bo_s] at ih
      refine ev_iload dX4_answerFor_36 rfl ?_
      first | refine ev_aload dX4_answerFor_38 rfl ?_ | refine ev_aloadN dX4_answerFor_38 rfl ?_
      refine ev_V0 dX4_answerFor_40 st_RX4_50 na_X6_length (Nat.le_of_ble_eq_true rfl) (Nat.le_of_ble_eq_true rfl) (by repeat (first | assumption | exact up_s | refine (up_n (by omega)).trans ?_)) rfl (m6_length hs) ?_
      refine ev_icmp_geF dX4_answerFor_43 98 (by decide) (by first | assumption | exact nI_ge (by omega) (by omega) | decide) ?_
      first | refine ev_aload dX4_answerFor_46 rfl ?_ | refine ev_aloadN dX4_answerFor_46 rfl ?_
      first | refine ev_aload dX4_answerFor_48 rfl ?_ | refine ev_aloadN dX4_answerFor_48 rfl ?_
      refine ev_iload dX4_answerFor_50 rfl ?_
      refine ev_V1 dX4_answerFor_52 st_RX4_44 na_X6_at (Nat.le_of_ble_eq_true rfl) (Nat.le_of_ble_eq_true rfl) (by repeat (first | assumption | exact up_s | refine (up_n (by omega)).trans ?_)) rfl (m6_atT hs (show i < l D i9 by omega)) ?_
      refine ev_iload dX4_answerFor_55 rfl ?_
      refine ev_V2 dX4_answerFor_57 st_RX4_54 na_X2_shareOf (Nat.le_of_ble_eq_true rfl) (Nat.le_of_ble_eq_true rfl) (by repeat (first | assumption | exact up_s | refine (up_n (by omega)).trans ?_)) rfl (m2_shareOf x1 x2 (by omega) ho) ?_
      refine ev_istore dX4_answerFor_60 (Nat.le_of_ble_eq_true rfl) ?_
      refine ev_iload dX4_answerFor_62 rfl ?_
      first | refine ev_aload_n dX4_answerFor_64 rfl ?_ | refine ev_aload_nN dX4_answerFor_64 rfl ?_
      refine ev_getfield dX4_answerFor_65 fl_RX4_26 (by repeat (first | assumption | exact up_s | refine (up_n (by omega)).trans ?_)) rfl ?_
      refine ev_iload dX4_answerFor_68 rfl ?_
      refine ev_iload_n dX4_answerFor_70 rfl ?_
      refine ev_V2 dX4_answerFor_71 st_RX4_57 na_X8_between (Nat.le_of_ble_eq_true rfl) (Nat.le_of_ble_eq_true rfl) (by repeat (first | assumption | exact up_s | refine (up_n (by omega)).trans ?_)) rfl (m8_between hW (show i < 8 by omega) hj) ?_
      first | refine ev_imulN dX4_answerFor_74 ?_ | refine ev_imul dX4_answerFor_74 ?_
      refine ev_istore dX4_answerFor_75 (Nat.le_of_ble_eq_true rfl) ?_
      refine ev_iload dX4_answerFor_77 rfl ?_
      refine ev_iload dX4_answerFor_79 rfl ?_
      refine ev_icmp_leF dX4_answerFor_81 92 (by decide) (by first | assumption | exact nI_ge (by omega) (by omega) | decide) ?_
      refine ev_iload dX4_answerFor_84 rfl ?_
      refine ev_istore dX4_answerFor_86 (Nat.le_of_ble_eq_true rfl) ?_
      refine ev_iload dX4_answerFor_88 rfl ?_
      refine ev_istore dX4_answerFor_90 (Nat.le_of_ble_eq_true rfl) ?_
      refine ev_iincN (b := 1) dX4_answerFor_92 rfl (Nat.le_of_ble_eq_true rfl) ?_
      refine ev_goto (tgt := 36) dX4_answerFor_95 (by decide) ?_
      refine ev_sub ?_ (ih)
      repeat (first | exact trivial | refine ⟨rfl, ?_⟩)
    · have e : bsF (fun i => S D (15 * w D i9 i + o) * W (apart i j)) (i + 1) = bsF (fun i => S D (15 * w D i9 i + o) * W (apart i j)) i := if_neg q
      rw [e] at ih
      refine ev_iload dX4_answerFor_36 rfl ?_
      first | refine ev_aload dX4_answerFor_38 rfl ?_ | refine ev_aloadN dX4_answerFor_38 rfl ?_
      refine ev_V0 dX4_answerFor_40 st_RX4_50 na_X6_length (Nat.le_of_ble_eq_true rfl) (Nat.le_of_ble_eq_true rfl) (by repeat (first | assumption | exact up_s | refine (up_n (by omega)).trans ?_)) rfl (m6_length hs) ?_
      refine ev_icmp_geF dX4_answerFor_43 98 (by decide) (by first | assumption | exact nI_ge (by omega) (by omega) | decide) ?_
      first | refine ev_aload dX4_answerFor_46 rfl ?_ | refine ev_aloadN dX4_answerFor_46 rfl ?_
      first | refine ev_aload dX4_answerFor_48 rfl ?_ | refine ev_aloadN dX4_answerFor_48 rfl ?_
      refine ev_iload dX4_answerFor_50 rfl ?_
      refine ev_V1 dX4_answerFor_52 st_RX4_44 na_X6_at (Nat.le_of_ble_eq_true rfl) (Nat.le_of_ble_eq_true rfl) (by repeat (first | assumption | exact up_s | refine (up_n (by omega)).trans ?_)) rfl (m6_atT hs (show i < l D i9 by omega)) ?_
      refine ev_iload dX4_answerFor_55 rfl ?_
      refine ev_V2 dX4_answerFor_57 st_RX4_54 na_X2_shareOf (Nat.le_of_ble_eq_true rfl) (Nat.le_of_ble_eq_true rfl) (by repeat (first | assumption | exact up_s | refine (up_n (by omega)).trans ?_)) rfl (m2_shareOf x1 x2 (by omega) ho) ?_
      refine ev_istore dX4_answerFor_60 (Nat.le_of_ble_eq_true rfl) ?_
      refine ev_iload dX4_answerFor_62 rfl ?_
      first | refine ev_aload_n dX4_answerFor_64 rfl ?_ | refine ev_aload_nN dX4_answerFor_64 rfl ?_
      refine ev_getfield dX4_answerFor_65 fl_RX4_26 (by repeat (first | assumption | exact up_s | refine (up_n (by omega)).trans ?_)) rfl ?_
      refine ev_iload dX4_answerFor_68 rfl ?_
      refine ev_iload_n dX4_answerFor_70 rfl ?_
      refine ev_V2 dX4_answerFor_71 st_RX4_57 na_X8_between (Nat.le_of_ble_eq_true rfl) (Nat.le_of_ble_eq_true rfl) (by repeat (first | assumption | exact up_s | refine (up_n (by omega)).trans ?_)) rfl (m8_between hW (show i < 8 by omega) hj) ?_
      first | refine ev_imulN dX4_answerFor_74 ?_ | refine ev_imul dX4_answerFor_74 ?_
      refine ev_istore dX4_answerFor_75 (Nat.le_of_ble_eq_true rfl) ?_
      refine ev_iload dX4_answerFor_77 rfl ?_
      refine ev_iload dX4_answerFor_79 rfl ?_
      refine ev_icmp_leT (tgt := 92) dX4_answerFor_81 (by decide) (by first | assumption | exact nI_le (by omega) (by omega) | decide) ?_
      refine ev_iincN (b := 1) dX4_answerFor_92 rfl (Nat.le_of_ble_eq_true rfl) ?_
      refine ev_goto (tgt := 36) dX4_answerFor_95 (by decide) ?_
      refine ev_sub ?_ (ih)
      repeat (first | exact trivial | refine ⟨rfl, ?_⟩)
theorem m4_answerFor (G : Kn h S W) {p t j D : Nat} {l : Nat → Nat → Nat} {w : Nat → Nat → Nat → Nat} {i9 : Nat} (hD : D ≤ 1) (hp : Pr h p t (l 0 i9) (w 0 i9) (l 1 i9) (w 1 i9)) (hj : j < l (1 - D) i9) :
    Ev (d + 2) MX4_answerFor 0 (lv_args 0 [.ref 5, .int (nI D), .ref p, .int (nI j)]) [] n h (.inl (some (.int (bo (lnk (S D) W (w D i9) (l D i9) (w (1 - D) i9 j) j)))), n, h, 0, 0) := by
  have hs := Pr_side hp (show 1 - D ≤ 1 by omega)
  have hs1 := hs.1
  have hl := hs.2.2.1
  have ho := hs.2.2.2 j hj
  have g1 := G.1
  have p1 := hp.1
  first | refine ev_aload_n dX4_answerFor_0 rfl ?_ | refine ev_aload_nN dX4_answerFor_0 rfl ?_
  refine ev_iload_n dX4_answerFor_1 rfl ?_
  refine ev_V1 dX4_answerFor_2 st_RX4_34 na_X4_lexicon (Nat.le_of_ble_eq_true rfl) (Nat.le_of_ble_eq_true rfl) (by repeat (first | assumption | exact up_s | refine (up_n (by omega)).trans ?_)) rfl (m4_lexicon g1 hD) ?_
  refine ev_astore dX4_answerFor_5 (Nat.le_of_ble_eq_true rfl) ?_
  first | refine ev_aload_n dX4_answerFor_7 rfl ?_ | refine ev_aload_nN dX4_answerFor_7 rfl ?_
  refine ev_iload_n dX4_answerFor_8 rfl ?_
  refine ev_V1 dX4_answerFor_9 st_RX4_38 na_X7_ofSide (Nat.le_of_ble_eq_true rfl) (Nat.le_of_ble_eq_true rfl) (by repeat (first | assumption | exact up_s | refine (up_n (by omega)).trans ?_)) rfl (m7_of hp hD) ?_
  refine ev_astore dX4_answerFor_12 (Nat.le_of_ble_eq_true rfl) ?_
  first | refine ev_aload_n dX4_answerFor_14 rfl ?_ | refine ev_aload_nN dX4_answerFor_14 rfl ?_
  refine ev_iconst dX4_answerFor_15 ci1 ?_
  refine ev_iload_n dX4_answerFor_16 rfl ?_
  first | refine ev_isubN dX4_answerFor_17 (by omega) ?_ | refine ev_isub dX4_answerFor_17 ?_
  refine ev_V1 dX4_answerFor_18 st_RX4_38 na_X7_ofSide (Nat.le_of_ble_eq_true rfl) (Nat.le_of_ble_eq_true rfl) (by repeat (first | assumption | exact up_s | refine (up_n (by omega)).trans ?_)) rfl (m7_of hp (show 1 - D ≤ 1 by omega)) ?_
  refine ev_iload_n dX4_answerFor_21 rfl ?_
  refine ev_V1 dX4_answerFor_22 st_RX4_44 na_X6_at (Nat.le_of_ble_eq_true rfl) (Nat.le_of_ble_eq_true rfl) (by repeat (first | assumption | exact up_s | refine (up_n (by omega)).trans ?_)) rfl (m6_atT hs hj) ?_
  refine ev_istore dX4_answerFor_25 (Nat.le_of_ble_eq_true rfl) ?_
  refine ev_iconst dX4_answerFor_27 cm1 ?_
  refine ev_istore dX4_answerFor_28 (Nat.le_of_ble_eq_true rfl) ?_
  refine ev_iconst dX4_answerFor_30 ci0 ?_
  refine ev_istore dX4_answerFor_31 (Nat.le_of_ble_eq_true rfl) ?_
  refine ev_iconst dX4_answerFor_33 ci0 ?_
  refine ev_istore dX4_answerFor_34 (Nat.le_of_ble_eq_true rfl) ?_
  refine ev_sub ?_ (lp_af G hD hp ho (show j < 8 by omega) (l D i9) 0 (by omega))
  repeat (first | exact trivial | refine ⟨rfl, ?_⟩)
end M4
/-- masks -/
def bb (m : Nat) : Nat := if m = 0 ∨ 8 < m then 0 else 2 ^ (m - 1)
def rowAt (B : Nat → Nat) (m : Nat) : Nat := if m = 0 ∨ 8 < m then 0 else B (m - 1)
theorem bb_s {j : Nat} (hj : j < 8) : bb (j + 1) = 2 ^ j := if_neg (by omega)
theorem rowAt_s {B : Nat → Nat} {j : Nat} (hj : j < 8) : rowAt B (j + 1) = B j := if_neg (by omega)
theorem shl_eq {j : Nat} (hj : j < 8) : nI 1 <<< (nI j &&& 31) = nI (2 ^ j) := by
  have h : ∀ j, j < 8 → nI 1 <<< (nI j &&& 31) = nI (2 ^ j) := by decide +kernel
  exact h j hj
section M0A
variable {d n : Nat} {h : Hp} {B : Nat → Nat}
theorem m0_bitOf {m : Nat} (hm : m ≤ 9) : Ev d MX0_bitOf 0 (lv_args 0 [.int (bo m)]) [] n h (.inl (some (.int (nI (bb m)))), n, h, 0, 0) := by
  rcases (show m = 0 ∨ m = 9 ∨ ∃ j, j < 8 ∧ m = j + 1 from by rcases (show m = 0 ∨ m = 9 ∨ (0 < m ∧ m < 9) by omega) with q | q | q; exact Or.inl q; exact Or.inr (Or.inl q); exact Or.inr (Or.inr ⟨m - 1, by omega, by omega⟩)) with rfl | rfl | ⟨j, hj, rfl⟩
  · rw [bo_0]
    refine ev_iload_n dX0_bitOf_0 rfl ?_
    refine ev_if_ltT (tgt := 16) dX0_bitOf_1 (by decide) (by first | assumption | decide) ?_
    refine ev_iconst dX0_bitOf_16 ci0 ?_
    exact ev_ireturnE dX0_bitOf_17 rfl (by rfl)
  · rw [bo_s]
    refine ev_iload_n dX0_bitOf_0 rfl ?_
    refine ev_if_ltF dX0_bitOf_1 16 (by decide) (by first | assumption | exact nI_pos (by omega) | decide) ?_
    refine ev_iload_n dX0_bitOf_4 rfl ?_
    refine ev_bipush dX0_bitOf_5 bp8 ?_
    refine ev_icmp_geT (tgt := 16) dX0_bitOf_7 (by decide) (by first | assumption | exact nI_le (by omega) (by omega) | decide) ?_
    refine ev_iconst dX0_bitOf_16 ci0 ?_
    exact ev_ireturnE dX0_bitOf_17 rfl (by rfl)
  · rw [bo_s, bb_s hj]
    refine ev_iload_n dX0_bitOf_0 rfl ?_
    refine ev_if_ltF dX0_bitOf_1 16 (by decide) (by first | assumption | exact nI_pos (by omega) | decide) ?_
    refine ev_iload_n dX0_bitOf_4 rfl ?_
    refine ev_bipush dX0_bitOf_5 bp8 ?_
    refine ev_icmp_geF dX0_bitOf_7 16 (by decide) (by first | assumption | exact nI_ge (by omega) (by omega) | decide) ?_
    refine ev_iconst dX0_bitOf_10 ci1 ?_
    refine ev_iload_n dX0_bitOf_11 rfl ?_
    refine ev_ishl dX0_bitOf_12 ?_
    refine ev_top (congrArg Value.int (shl_eq hj)) ?_
    refine ev_goto (tgt := 17) dX0_bitOf_13 (by decide) ?_
    exact ev_ireturnE dX0_bitOf_17 rfl (by rfl)
theorem m0_bitOfN {j : Nat} (hj : j < 8) : Ev d MX0_bitOf 0 (lv_args 0 [.int (nI j)]) [] n h (.inl (some (.int (nI (2 ^ j)))), n, h, 0, 0) := by
  have e := m0_bitOf (d := d) (n := n) (h := h) (m := j + 1) (by omega)
  rw [bo_s, bb_s hj] at e
  exact e
theorem m0_bitsAt {a m : Nat} (g : h a = aI 8 B) (hm : m ≤ 9) : Ev d MX0_bitsAt 0 (lv_args 0 [.ref a, .int (bo m)]) [] n h (.inl (some (.int (nI (rowAt B m)))), n, h, 0, 0) := by
  rcases (show m = 0 ∨ m = 9 ∨ ∃ j, j < 8 ∧ m = j + 1 from by rcases (show m = 0 ∨ m = 9 ∨ (0 < m ∧ m < 9) by omega) with q | q | q; exact Or.inl q; exact Or.inr (Or.inl q); exact Or.inr (Or.inr ⟨m - 1, by omega, by omega⟩)) with rfl | rfl | ⟨j, hj, rfl⟩
  · rw [bo_0]
    first | refine ev_aload_n dX0_bitsAt_0 rfl ?_ | refine ev_aload_nN dX0_bitsAt_0 rfl ?_
    refine ev_ifnull dX0_bitsAt_1 ?_
    refine ev_iload_n dX0_bitsAt_4 rfl ?_
    refine ev_if_ltT (tgt := 20) dX0_bitsAt_5 (by decide) (by first | assumption | decide) ?_
    refine ev_iconst dX0_bitsAt_20 ci0 ?_
    exact ev_ireturnE dX0_bitsAt_21 rfl (by rfl)
  · rw [bo_s]
    first | refine ev_aload_n dX0_bitsAt_0 rfl ?_ | refine ev_aload_nN dX0_bitsAt_0 rfl ?_
    refine ev_ifnull dX0_bitsAt_1 ?_
    refine ev_iload_n dX0_bitsAt_4 rfl ?_
    refine ev_if_ltF dX0_bitsAt_5 20 (by decide) (by first | assumption | exact nI_pos (by omega) | decide) ?_
    refine ev_iload_n dX0_bitsAt_8 rfl ?_
    first | refine ev_aload_n dX0_bitsAt_9 rfl ?_ | refine ev_aload_nN dX0_bitsAt_9 rfl ?_
    refine ev_alen dX0_bitsAt_10 (by repeat (first | assumption | exact up_s | refine (up_n (by omega)).trans ?_)) (by decide) ?_
    refine ev_icmp_geT (tgt := 20) dX0_bitsAt_11 (by decide) (by first | assumption | exact nI_le (by omega) (by omega) | decide) ?_
    refine ev_iconst dX0_bitsAt_20 ci0 ?_
    exact ev_ireturnE dX0_bitsAt_21 rfl (by rfl)
  · rw [bo_s, rowAt_s hj]
    first | refine ev_aload_n dX0_bitsAt_0 rfl ?_ | refine ev_aload_nN dX0_bitsAt_0 rfl ?_
    refine ev_ifnull dX0_bitsAt_1 ?_
    refine ev_iload_n dX0_bitsAt_4 rfl ?_
    refine ev_if_ltF dX0_bitsAt_5 20 (by decide) (by first | assumption | exact nI_pos (by omega) | decide) ?_
    refine ev_iload_n dX0_bitsAt_8 rfl ?_
    first | refine ev_aload_n dX0_bitsAt_9 rfl ?_ | refine ev_aload_nN dX0_bitsAt_9 rfl ?_
    refine ev_alen dX0_bitsAt_10 (by repeat (first | assumption | exact up_s | refine (up_n (by omega)).trans ?_)) (by decide) ?_
    refine ev_icmp_geF dX0_bitsAt_11 20 (by decide) (by first | assumption | exact nI_ge (by omega) (by omega) | decide) ?_
    first | refine ev_aload_n dX0_bitsAt_14 rfl ?_ | refine ev_aload_nN dX0_bitsAt_14 rfl ?_
    refine ev_iload_n dX0_bitsAt_15 rfl ?_
    refine ev_iald dX0_bitsAt_16 (by repeat (first | assumption | exact up_s | refine (up_n (by omega)).trans ?_)) _ rfl (by omega) (by omega) ?_
    refine ev_goto (tgt := 21) dX0_bitsAt_17 (by decide) ?_
    exact ev_ireturnE dX0_bitsAt_21 rfl (by rfl)
theorem m0_bitsAtN {a j : Nat} (g : h a = aI 8 B) (hj : j < 8) : Ev d MX0_bitsAt 0 (lv_args 0 [.ref a, .int (nI j)]) [] n h (.inl (some (.int (nI (B j)))), n, h, 0, 0) := by
  have e := m0_bitsAt (d := d) (n := n) (m := j + 1) g (by omega)
  rw [bo_s, rowAt_s hj] at e
  exact e
/-- the alignment's head -/
abbrev Ah (h : Hp) (l0 l1 : Nat) : Prop := h 18 = .inr (0, [.ref 19, .ref 20, .ref 21, .int (nI l0), .int (nI l1)])
variable {l0 l1 : Nat} {J : Nat → Nat}
theorem m0_firstLength (g : Ah h l0 l1) : Ev d MX0_firstLength 0 (lv_args 0 [.ref 18]) [] n h (.inl (some (.int (nI l0))), n, h, 0, 0) := by
  first | refine ev_aload_n dX0_firstLength_0 rfl ?_ | refine ev_aload_nN dX0_firstLength_0 rfl ?_
  refine ev_getfield dX0_firstLength_1 fl_RX0_21 (by repeat (first | assumption | exact up_s | refine (up_n (by omega)).trans ?_)) rfl ?_
  exact ev_ireturnE dX0_firstLength_4 rfl (by rfl)
theorem m0_secondLength (g : Ah h l0 l1) : Ev d MX0_secondLength 0 (lv_args 0 [.ref 18]) [] n h (.inl (some (.int (nI l1))), n, h, 0, 0) := by
  first | refine ev_aload_n dX0_secondLength_0 rfl ?_ | refine ev_aload_nN dX0_secondLength_0 rfl ?_
  refine ev_getfield dX0_secondLength_1 fl_RX0_25 (by repeat (first | assumption | exact up_s | refine (up_n (by omega)).trans ?_)) rfl ?_
  exact ev_ireturnE dX0_secondLength_4 rfl (by rfl)
theorem m0_joinedBits (g : Ah h l0 l1) (gj : h 21 = aI 8 J) {m : Nat} (hm : m ≤ 9) : Ev (d + 1) MX0_joinedBits 0 (lv_args 0 [.ref 18, .int (bo m)]) [] n h (.inl (some (.int (nI (rowAt J m)))), n, h, 0, 0) := by
  first | refine ev_aload_n dX0_joinedBits_0 rfl ?_ | refine ev_aload_nN dX0_joinedBits_0 rfl ?_
  refine ev_getfield dX0_joinedBits_1 fl_RX0_18 (by repeat (first | assumption | exact up_s | refine (up_n (by omega)).trans ?_)) rfl ?_
  refine ev_iload_n dX0_joinedBits_4 rfl ?_
  refine ev_S2 dX0_joinedBits_5 st_RX0_28 na_X0_bitsAt (Nat.le_of_ble_eq_true rfl) (Nat.le_of_ble_eq_true rfl) (m0_bitsAt gj hm) ?_
  exact ev_ireturnE dX0_joinedBits_8 rfl (by rfl)
theorem m0_joinedBitsN (g : Ah h l0 l1) (gj : h 21 = aI 8 J) {i : Nat} (hi : i < 8) : Ev (d + 1) MX0_joinedBits 0 (lv_args 0 [.ref 18, .int (nI i)]) [] n h (.inl (some (.int (nI (J i)))), n, h, 0, 0) := by
  have e := m0_joinedBits (d := d) (n := n) (m := i + 1) g gj (by omega)
  rw [bo_s, rowAt_s hi] at e
  exact e
theorem and_pow_le (x j : Nat) (hj : j < 8) : x &&& 2 ^ j < 2 ^ 31 := Nat.lt_of_le_of_lt Nat.and_le_right (by
  have : ∀ j, j < 8 → 2 ^ j < 2 ^ 31 := by decide
  exact this j hj)
theorem m0_hasJoined (g : Ah h l0 l1) (gj : h 21 = aI 8 J) {i j : Nat} (hi : i < 8) (hj : j < 8) : Ev (d + 2) MX0_hasJoined 0 (lv_args 0 [.ref 18, .int (nI i), .int (nI j)]) [] n h (.inl (some (.int (nI (bI (J i &&& 2 ^ j ≠ 0))))), n, h, 0, 0) := by
  have b := and_pow_le (J i) j hj
  by_cases q : J i &&& 2 ^ j = 0
  · rw [bI_f (by omega)]
    first | refine ev_aload_n dX0_hasJoined_0 rfl ?_ | refine ev_aload_nN dX0_hasJoined_0 rfl ?_
    refine ev_iload_n dX0_hasJoined_1 rfl ?_
    refine ev_V1 dX0_hasJoined_2 st_RX0_32 na_X0_joinedBits (Nat.le_of_ble_eq_true rfl) (Nat.le_of_ble_eq_true rfl) (by repeat (first | assumption | exact up_s | refine (up_n (by omega)).trans ?_)) rfl (m0_joinedBitsN g gj hi) ?_
    refine ev_iload_n dX0_hasJoined_5 rfl ?_
    refine ev_S1 dX0_hasJoined_6 st_RX0_41 na_X0_bitOf (Nat.le_of_ble_eq_true rfl) (Nat.le_of_ble_eq_true rfl) (m0_bitOfN hj) ?_
    first | refine ev_iandN dX0_hasJoined_9 ?_ | refine ev_iand dX0_hasJoined_9 ?_
    refine ev_if_eqT (tgt := 17) dX0_hasJoined_10 (by decide) (by first | assumption | exact z_eq (by omega) | decide) ?_
    refine ev_iconst dX0_hasJoined_17 ci0 ?_
    exact ev_zreturnE dX0_hasJoined_18 rfl (by first | exact Or.inl rfl | exact Or.inr rfl | assumption | exact z01 (bI_01 _) | exact z01 (by omega)) (by rfl)
  · rw [bI_t (by omega)]
    first | refine ev_aload_n dX0_hasJoined_0 rfl ?_ | refine ev_aload_nN dX0_hasJoined_0 rfl ?_
    refine ev_iload_n dX0_hasJoined_1 rfl ?_
    refine ev_V1 dX0_hasJoined_2 st_RX0_32 na_X0_joinedBits (Nat.le_of_ble_eq_true rfl) (Nat.le_of_ble_eq_true rfl) (by repeat (first | assumption | exact up_s | refine (up_n (by omega)).trans ?_)) rfl (m0_joinedBitsN g gj hi) ?_
    refine ev_iload_n dX0_hasJoined_5 rfl ?_
    refine ev_S1 dX0_hasJoined_6 st_RX0_41 na_X0_bitOf (Nat.le_of_ble_eq_true rfl) (Nat.le_of_ble_eq_true rfl) (m0_bitOfN hj) ?_
    first | refine ev_iandN dX0_hasJoined_9 ?_ | refine ev_iand dX0_hasJoined_9 ?_
    refine ev_if_eqF dX0_hasJoined_10 17 (by decide) (by first | assumption | exact nI_ne0 (by omega) (by omega) | decide) ?_
    refine ev_iconst dX0_hasJoined_13 ci1 ?_
    refine ev_goto (tgt := 18) dX0_hasJoined_14 (by decide) ?_
    exact ev_zreturnE dX0_hasJoined_18 rfl (by first | exact Or.inl rfl | exact Or.inr rfl | assumption | exact z01 (bI_01 _) | exact z01 (by omega)) (by rfl)
/-- how many bits -/
def pc8 (m : Nat) : Nat := sumN (fun j => bI (m.testBit j = true)) 8
def shr (x k : Int32) : Int32 := (x.toUInt32 >>> (k.toUInt32 &&& Int32.toUInt32 31)).toInt32
def bc1 (x : Int32) : Int32 := x - (shr x (nI 1) &&& nI 1431655765)
def bc2 (x : Int32) : Int32 := (x &&& nI 858993459) + (shr x (nI 2) &&& nI 858993459)
def bc3 (x : Int32) : Int32 := (x + shr x (nI 4)) &&& nI 252645135
def bc4 (x : Int32) : Int32 := x + shr x (nI 8)
def bc5 (x : Int32) : Int32 := x + shr x (nI 16)
theorem bcE_eq : ∀ m, m < 256 → nI (pc8 m) = bc5 (bc4 (bc3 (bc2 (bc1 (nI m))))) &&& nI 63 := by decide +kernel
theorem mJ_bitCount {m : Nat} (hm : m < 256) : Ev d MJ6_bitCount_0f7a4 0 (lv_args 0 [.int (nI m)]) [] n h (.inl (some (.int (nI (pc8 m)))), n, h, 0, 0) := by
  refine ev_iload_n dJ6_bitCount_0f7a4_0 rfl ?_
  refine ev_iload_n dJ6_bitCount_0f7a4_1 rfl ?_
  refine ev_iconst dJ6_bitCount_0f7a4_2 ci1 ?_
  refine ev_iushr dJ6_bitCount_0f7a4_3 rfl ?_
  refine ev_ldcw (v := nI 1431655765) dJ6_bitCount_0f7a4_4 (am_in 828 (by decide +kernel) rfl) ?_
  refine ev_iand dJ6_bitCount_0f7a4_7 ?_
  refine ev_isub dJ6_bitCount_0f7a4_8 ?_
  refine ev_istore_n dJ6_bitCount_0f7a4_9 (Nat.le_of_ble_eq_true rfl) ?_
  refine ev_iload_n dJ6_bitCount_0f7a4_10 rfl ?_
  refine ev_ldcw (v := nI 858993459) dJ6_bitCount_0f7a4_11 (am_in 829 (by decide +kernel) rfl) ?_
  refine ev_iand dJ6_bitCount_0f7a4_14 ?_
  refine ev_iload_n dJ6_bitCount_0f7a4_15 rfl ?_
  refine ev_iconst dJ6_bitCount_0f7a4_16 ci2 ?_
  refine ev_iushr dJ6_bitCount_0f7a4_17 rfl ?_
  refine ev_ldcw (v := nI 858993459) dJ6_bitCount_0f7a4_18 (am_in 829 (by decide +kernel) rfl) ?_
  refine ev_iand dJ6_bitCount_0f7a4_21 ?_
  refine ev_iadd dJ6_bitCount_0f7a4_22 ?_
  refine ev_istore_n dJ6_bitCount_0f7a4_23 (Nat.le_of_ble_eq_true rfl) ?_
  refine ev_iload_n dJ6_bitCount_0f7a4_24 rfl ?_
  refine ev_iload_n dJ6_bitCount_0f7a4_25 rfl ?_
  refine ev_iconst dJ6_bitCount_0f7a4_26 ci4 ?_
  refine ev_iushr dJ6_bitCount_0f7a4_27 rfl ?_
  refine ev_iadd dJ6_bitCount_0f7a4_28 ?_
  refine ev_ldcw (v := nI 252645135) dJ6_bitCount_0f7a4_29 (am_in 830 (by decide +kernel) rfl) ?_
  refine ev_iand dJ6_bitCount_0f7a4_32 ?_
  refine ev_istore_n dJ6_bitCount_0f7a4_33 (Nat.le_of_ble_eq_true rfl) ?_
  refine ev_iload_n dJ6_bitCount_0f7a4_34 rfl ?_
  refine ev_iload_n dJ6_bitCount_0f7a4_35 rfl ?_
  refine ev_bipush dJ6_bitCount_0f7a4_36 bp8 ?_
  refine ev_iushr dJ6_bitCount_0f7a4_38 rfl ?_
  refine ev_iadd dJ6_bitCount_0f7a4_39 ?_
  refine ev_istore_n dJ6_bitCount_0f7a4_40 (Nat.le_of_ble_eq_true rfl) ?_
  refine ev_iload_n dJ6_bitCount_0f7a4_41 rfl ?_
  refine ev_iload_n dJ6_bitCount_0f7a4_42 rfl ?_
  refine ev_bipush dJ6_bitCount_0f7a4_43 bp16 ?_
  refine ev_iushr dJ6_bitCount_0f7a4_45 rfl ?_
  refine ev_iadd dJ6_bitCount_0f7a4_46 ?_
  refine ev_istore_n dJ6_bitCount_0f7a4_47 (Nat.le_of_ble_eq_true rfl) ?_
  refine ev_iload_n dJ6_bitCount_0f7a4_48 rfl ?_
  refine ev_bipush dJ6_bitCount_0f7a4_49 bp63 ?_
  refine ev_iand dJ6_bitCount_0f7a4_51 ?_
  exact ev_ireturnE dJ6_bitCount_0f7a4_52 rfl (congrArg (fun z => ((Sum.inl (some (Value.int z)), n, h, 0, 0) : Out)) (bcE_eq m hm))
theorem m0_joinedOf (g : Ah h l0 l1) (gj : h 21 = aI 8 J) {i : Nat} (hi : i < 8) (hJ : J i < 256) : Ev (d + 2) MX0_joinedOf 0 (lv_args 0 [.ref 18, .int (nI i)]) [] n h (.inl (some (.int (nI (pc8 (J i))))), n, h, 0, 0) := by
  first | refine ev_aload_n dX0_joinedOf_0 rfl ?_ | refine ev_aload_nN dX0_joinedOf_0 rfl ?_
  refine ev_iload_n dX0_joinedOf_1 rfl ?_
  refine ev_V1 dX0_joinedOf_2 st_RX0_32 na_X0_joinedBits (Nat.le_of_ble_eq_true rfl) (Nat.le_of_ble_eq_true rfl) (by repeat (first | assumption | exact up_s | refine (up_n (by omega)).trans ?_)) rfl (m0_joinedBitsN g gj hi) ?_
  refine ev_S1 dX0_joinedOf_5 st_RX0_36 na_J6_bitCount_0f7a4 (Nat.le_of_ble_eq_true rfl) (Nat.le_of_ble_eq_true rfl) (mJ_bitCount hJ) ?_
  exact ev_ireturnE dX0_joinedOf_8 rfl (by rfl)
/-- the bits of all rows -/
def orF (J : Nat → Nat) : Nat → Nat
  | 0 => 0
  | k + 1 => orF J k ||| J k
def nbit (j : Nat) : Nat := bb j ||| bb (j + 1) ||| bb (j + 2)
def nrow (J : Nat → Nat) (i : Nat) : Nat := rowAt J i ||| rowAt J (i + 1) ||| rowAt J (i + 2)
abbrev toJ (E J : Nat → Nat) (i j : Nat) : Prop := E i &&& 2 ^ j ≠ 0 ∧ J i &&& 2 ^ j = 0 ∧ (J i = 0 ∨ orF J 8 &&& 2 ^ j = 0) ∧ nrow J i &&& nbit j ≠ 0
theorem or_lt {a b : Nat} (ha : a < 256) (hb : b < 256) : a ||| b < 256 := Nat.or_lt_two_pow (n := 8) ha hb
theorem orF_lt {J : Nat → Nat} (hJ : ∀ i, J i < 256) : ∀ k, orF J k < 256
  | 0 => by show 0 < 256; omega
  | k + 1 => or_lt (orF_lt hJ k) (hJ k)
theorem orF_cut {J : Nat → Nat} {l0 : Nat} (hz : ∀ i, l0 ≤ i → J i = 0) : ∀ m, l0 ≤ m → orF J m = orF J l0 := by
  intro m hm
  induction m with
  | zero => have : l0 = 0 := by omega
            subst this; rfl
  | succ m ih =>
    rcases Nat.lt_or_ge l0 (m + 1) with q | q
    · show orF J m ||| J m = _
      rw [ih (by omega), hz m (by omega), Nat.or_zero]
    · have : l0 = m + 1 := by omega
      subst this; rfl
theorem bb_lt {m : Nat} (hm : m ≤ 10) : bb m < 256 := by
  have h : ∀ m, m ≤ 10 → bb m < 256 := by decide
  exact h m hm
theorem nbit_lt {j : Nat} (hj : j < 8) : nbit j < 256 := or_lt (or_lt (bb_lt (by omega)) (bb_lt (by omega))) (bb_lt (by omega))
theorem rowAt_lt {J : Nat → Nat} (hJ : ∀ i, J i < 256) (m : Nat) : rowAt J m < 256 := by
  unfold rowAt
  split
  · omega
  · exact hJ _
theorem nrow_lt {J : Nat → Nat} (hJ : ∀ i, J i < 256) (i : Nat) : nrow J i < 256 := or_lt (or_lt (rowAt_lt hJ _) (rowAt_lt hJ _)) (rowAt_lt hJ _)
theorem lp_fr (g : Ah h l0 l1) (hl0 : l0 ≤ 8) (gj : h 21 = aI 8 J) {j : Nat} (hj : j < 8) :
    ∀ k i, i + k = l0 → Ev (d + 2) MX0_isFree 4 [(0, .ref 18), (1, .int (nI j)), (2, .int (nI (orF J i))), (3, .int (nI i))] [] n h (.inl (some (.int (nI (bI (orF J l0 &&& 2 ^ j = 0))))), n, h, 0, 0) := by
  intro k
  induction k with
  | zero =>
    intro i hi
    have e : i = l0 := by omega
    subst e
    have b := and_pow_le (orF J i) j hj
    by_cases q : orF J i &&& 2 ^ j = 0
    · rw [bI_t q]
      refine ev_iload_n dX0_isFree_4 rfl ?_
      first | refine ev_aload_n dX0_isFree_5 rfl ?_ | refine ev_aload_nN dX0_isFree_5 rfl ?_
      refine ev_getfield dX0_isFree_6 fl_RX0_21 (by repeat (first | assumption | exact up_s | refine (up_n (by omega)).trans ?_)) rfl ?_
      refine ev_icmp_geT (tgt := 26) dX0_isFree_9 (by decide) (by first | assumption | exact nI_le (by omega) (by omega) | decide) ?_
      refine ev_iload_n dX0_isFree_26 rfl ?_
      refine ev_iload_n dX0_isFree_27 rfl ?_
      refine ev_S1 dX0_isFree_28 st_RX0_41 na_X0_bitOf (Nat.le_of_ble_eq_true rfl) (Nat.le_of_ble_eq_true rfl) (m0_bitOfN hj) ?_
      first | refine ev_iandN dX0_isFree_31 ?_ | refine ev_iand dX0_isFree_31 ?_
      refine ev_if_neF dX0_isFree_32 39 (by decide) (by first | assumption | exact z_eq (by omega) | decide) ?_
      refine ev_iconst dX0_isFree_35 ci1 ?_
      refine ev_goto (tgt := 40) dX0_isFree_36 (by decide) ?_
      exact ev_zreturnE dX0_isFree_40 rfl (by first | exact Or.inl rfl | exact Or.inr rfl | assumption | exact z01 (bI_01 _) | exact z01 (by omega)) (by rfl)
    · rw [bI_f q]
      refine ev_iload_n dX0_isFree_4 rfl ?_
      first | refine ev_aload_n dX0_isFree_5 rfl ?_ | refine ev_aload_nN dX0_isFree_5 rfl ?_
      refine ev_getfield dX0_isFree_6 fl_RX0_21 (by repeat (first | assumption | exact up_s | refine (up_n (by omega)).trans ?_)) rfl ?_
      refine ev_icmp_geT (tgt := 26) dX0_isFree_9 (by decide) (by first | assumption | exact nI_le (by omega) (by omega) | decide) ?_
      refine ev_iload_n dX0_isFree_26 rfl ?_
      refine ev_iload_n dX0_isFree_27 rfl ?_
      refine ev_S1 dX0_isFree_28 st_RX0_41 na_X0_bitOf (Nat.le_of_ble_eq_true rfl) (Nat.le_of_ble_eq_true rfl) (m0_bitOfN hj) ?_
      first | refine ev_iandN dX0_isFree_31 ?_ | refine ev_iand dX0_isFree_31 ?_
      refine ev_if_neT (tgt := 39) dX0_isFree_32 (by decide) (by first | assumption | exact nI_ne0 (by omega) (by omega) | decide) ?_
      refine ev_iconst dX0_isFree_39 ci0 ?_
      exact ev_zreturnE dX0_isFree_40 rfl (by first | exact Or.inl rfl | exact Or.inr rfl | assumption | exact z01 (bI_01 _) | exact z01 (by omega)) (by rfl)
  | succ k ih =>
    intro i hi
    refine ev_iload_n dX0_isFree_4 rfl ?_
    first | refine ev_aload_n dX0_isFree_5 rfl ?_ | refine ev_aload_nN dX0_isFree_5 rfl ?_
    refine ev_getfield dX0_isFree_6 fl_RX0_21 (by repeat (first | assumption | exact up_s | refine (up_n (by omega)).trans ?_)) rfl ?_
    refine ev_icmp_geF dX0_isFree_9 26 (by decide) (by first | assumption | exact nI_ge (by omega) (by omega) | decide) ?_
    refine ev_iload_n dX0_isFree_12 rfl ?_
    first | refine ev_aload_n dX0_isFree_13 rfl ?_ | refine ev_aload_nN dX0_isFree_13 rfl ?_
    refine ev_iload_n dX0_isFree_14 rfl ?_
    refine ev_V1 dX0_isFree_15 st_RX0_32 na_X0_joinedBits (Nat.le_of_ble_eq_true rfl) (Nat.le_of_ble_eq_true rfl) (by repeat (first | assumption | exact up_s | refine (up_n (by omega)).trans ?_)) rfl (m0_joinedBitsN g gj (show i < 8 by omega)) ?_
    first | refine ev_iorN dX0_isFree_18 ?_ | refine ev_ior dX0_isFree_18 ?_
    refine ev_istore_n dX0_isFree_19 (Nat.le_of_ble_eq_true rfl) ?_
    refine ev_iincN (b := 1) dX0_isFree_20 rfl (Nat.le_of_ble_eq_true rfl) ?_
    refine ev_goto (tgt := 4) dX0_isFree_23 (by decide) ?_
    refine ev_sub ?_ (ih (i + 1) (by omega))
    repeat (first | exact trivial | refine ⟨rfl, ?_⟩)
theorem m0_isFree (g : Ah h l0 l1) (hl0 : l0 ≤ 8) (gj : h 21 = aI 8 J) (hz : ∀ i, l0 ≤ i → J i = 0) {j : Nat} (hj : j < 8) : Ev (d + 2) MX0_isFree 0 (lv_args 0 [.ref 18, .int (nI j)]) [] n h (.inl (some (.int (nI (bI (orF J 8 &&& 2 ^ j = 0))))), n, h, 0, 0) := by
  rw [orF_cut hz 8 hl0]
  refine ev_iconst dX0_isFree_0 ci0 ?_
  refine ev_istore_n dX0_isFree_1 (Nat.le_of_ble_eq_true rfl) ?_
  refine ev_iconst dX0_isFree_2 ci0 ?_
  refine ev_istore_n dX0_isFree_3 (Nat.le_of_ble_eq_true rfl) ?_
  refine ev_sub ?_ (lp_fr g hl0 gj hj l0 0 (by omega))
  repeat (first | exact trivial | refine ⟨rfl, ?_⟩)
theorem m0_beside (g : Ah h l0 l1) (gj : h 21 = aI 8 J) (hJ : ∀ i, J i < 256) {i j : Nat} (hi : i < 8) (hj : j < 8) : Ev (d + 2) MX0_isBesideJoined 0 (lv_args 0 [.ref 18, .int (nI i), .int (nI j)]) [] n h (.inl (some (.int (nI (bI (nrow J i &&& nbit j ≠ 0))))), n, h, 0, 0) := by
  have b : nrow J i &&& nbit j < 256 := Nat.lt_of_le_of_lt Nat.and_le_left (nrow_lt hJ i)
  by_cases q : nrow J i &&& nbit j = 0
  · rw [bI_f (by omega)]
    refine ev_iload_n dX0_isBesideJoined_0 rfl ?_
    refine ev_iconst dX0_isBesideJoined_1 ci1 ?_
    first | refine ev_isubN dX0_isBesideJoined_2 (by omega) ?_ | refine ev_isub dX0_isBesideJoined_2 ?_
    refine ev_top (congrArg Value.int (bo_m1 (by omega))) ?_
    refine ev_S1 dX0_isBesideJoined_3 st_RX0_41 na_X0_bitOf (Nat.le_of_ble_eq_true rfl) (Nat.le_of_ble_eq_true rfl) (m0_bitOf (by omega)) ?_
    refine ev_iload_n dX0_isBesideJoined_6 rfl ?_
    refine ev_top (congrArg Value.int (bo_s j).symm) ?_
    refine ev_S1 dX0_isBesideJoined_7 st_RX0_41 na_X0_bitOf (Nat.le_of_ble_eq_true rfl) (Nat.le_of_ble_eq_true rfl) (m0_bitOf (by omega)) ?_
    first | refine ev_iorN dX0_isBesideJoined_10 ?_ | refine ev_ior dX0_isBesideJoined_10 ?_
    refine ev_iload_n dX0_isBesideJoined_11 rfl ?_
    refine ev_iconst dX0_isBesideJoined_12 ci1 ?_
    first | refine ev_iaddN dX0_isBesideJoined_13 ?_ | refine ev_iadd dX0_isBesideJoined_13 ?_
    refine ev_top (congrArg Value.int (bo_s (j + 1)).symm) ?_
    refine ev_S1 dX0_isBesideJoined_14 st_RX0_41 na_X0_bitOf (Nat.le_of_ble_eq_true rfl) (Nat.le_of_ble_eq_true rfl) (m0_bitOf (by omega)) ?_
    first | refine ev_iorN dX0_isBesideJoined_17 ?_ | refine ev_ior dX0_isBesideJoined_17 ?_
    refine ev_istore_n dX0_isBesideJoined_18 (Nat.le_of_ble_eq_true rfl) ?_
    first | refine ev_aload_n dX0_isBesideJoined_19 rfl ?_ | refine ev_aload_nN dX0_isBesideJoined_19 rfl ?_
    refine ev_iload_n dX0_isBesideJoined_20 rfl ?_
    refine ev_iconst dX0_isBesideJoined_21 ci1 ?_
    first | refine ev_isubN dX0_isBesideJoined_22 (by omega) ?_ | refine ev_isub dX0_isBesideJoined_22 ?_
    refine ev_top (congrArg Value.int (bo_m1 (by omega))) ?_
    refine ev_V1 dX0_isBesideJoined_23 st_RX0_32 na_X0_joinedBits (Nat.le_of_ble_eq_true rfl) (Nat.le_of_ble_eq_true rfl) (by repeat (first | assumption | exact up_s | refine (up_n (by omega)).trans ?_)) rfl (m0_joinedBits g gj (by omega)) ?_
    first | refine ev_aload_n dX0_isBesideJoined_26 rfl ?_ | refine ev_aload_nN dX0_isBesideJoined_26 rfl ?_
    refine ev_iload_n dX0_isBesideJoined_27 rfl ?_
    refine ev_top (congrArg Value.int (bo_s i).symm) ?_
    refine ev_V1 dX0_isBesideJoined_28 st_RX0_32 na_X0_joinedBits (Nat.le_of_ble_eq_true rfl) (Nat.le_of_ble_eq_true rfl) (by repeat (first | assumption | exact up_s | refine (up_n (by omega)).trans ?_)) rfl (m0_joinedBits g gj (by omega)) ?_
    first | refine ev_iorN dX0_isBesideJoined_31 ?_ | refine ev_ior dX0_isBesideJoined_31 ?_
    first | refine ev_aload_n dX0_isBesideJoined_32 rfl ?_ | refine ev_aload_nN dX0_isBesideJoined_32 rfl ?_
    refine ev_iload_n dX0_isBesideJoined_33 rfl ?_
    refine ev_iconst dX0_isBesideJoined_34 ci1 ?_
    first | refine ev_iaddN dX0_isBesideJoined_35 ?_ | refine ev_iadd dX0_isBesideJoined_35 ?_
    refine ev_top (congrArg Value.int (bo_s (i + 1)).symm) ?_
    refine ev_V1 dX0_isBesideJoined_36 st_RX0_32 na_X0_joinedBits (Nat.le_of_ble_eq_true rfl) (Nat.le_of_ble_eq_true rfl) (by repeat (first | assumption | exact up_s | refine (up_n (by omega)).trans ?_)) rfl (m0_joinedBits g gj (by omega)) ?_
    first | refine ev_iorN dX0_isBesideJoined_39 ?_ | refine ev_ior dX0_isBesideJoined_39 ?_
    refine ev_istore dX0_isBesideJoined_40 (Nat.le_of_ble_eq_true rfl) ?_
    refine ev_iload dX0_isBesideJoined_42 rfl ?_
    refine ev_iload_n dX0_isBesideJoined_44 rfl ?_
    first | refine ev_iandN dX0_isBesideJoined_45 ?_ | refine ev_iand dX0_isBesideJoined_45 ?_
    refine ev_if_eqT (tgt := 53) dX0_isBesideJoined_46 (by decide) (z_eq q) ?_
    refine ev_iconst dX0_isBesideJoined_53 ci0 ?_
    exact ev_zreturnE dX0_isBesideJoined_54 rfl (by first | exact Or.inl rfl | exact Or.inr rfl | assumption | exact z01 (bI_01 _) | exact z01 (by omega)) (by rfl)
  · rw [bI_t (by omega)]
    refine ev_iload_n dX0_isBesideJoined_0 rfl ?_
    refine ev_iconst dX0_isBesideJoined_1 ci1 ?_
    first | refine ev_isubN dX0_isBesideJoined_2 (by omega) ?_ | refine ev_isub dX0_isBesideJoined_2 ?_
    refine ev_top (congrArg Value.int (bo_m1 (by omega))) ?_
    refine ev_S1 dX0_isBesideJoined_3 st_RX0_41 na_X0_bitOf (Nat.le_of_ble_eq_true rfl) (Nat.le_of_ble_eq_true rfl) (m0_bitOf (by omega)) ?_
    refine ev_iload_n dX0_isBesideJoined_6 rfl ?_
    refine ev_top (congrArg Value.int (bo_s j).symm) ?_
    refine ev_S1 dX0_isBesideJoined_7 st_RX0_41 na_X0_bitOf (Nat.le_of_ble_eq_true rfl) (Nat.le_of_ble_eq_true rfl) (m0_bitOf (by omega)) ?_
    first | refine ev_iorN dX0_isBesideJoined_10 ?_ | refine ev_ior dX0_isBesideJoined_10 ?_
    refine ev_iload_n dX0_isBesideJoined_11 rfl ?_
    refine ev_iconst dX0_isBesideJoined_12 ci1 ?_
    first | refine ev_iaddN dX0_isBesideJoined_13 ?_ | refine ev_iadd dX0_isBesideJoined_13 ?_
    refine ev_top (congrArg Value.int (bo_s (j + 1)).symm) ?_
    refine ev_S1 dX0_isBesideJoined_14 st_RX0_41 na_X0_bitOf (Nat.le_of_ble_eq_true rfl) (Nat.le_of_ble_eq_true rfl) (m0_bitOf (by omega)) ?_
    first | refine ev_iorN dX0_isBesideJoined_17 ?_ | refine ev_ior dX0_isBesideJoined_17 ?_
    refine ev_istore_n dX0_isBesideJoined_18 (Nat.le_of_ble_eq_true rfl) ?_
    first | refine ev_aload_n dX0_isBesideJoined_19 rfl ?_ | refine ev_aload_nN dX0_isBesideJoined_19 rfl ?_
    refine ev_iload_n dX0_isBesideJoined_20 rfl ?_
    refine ev_iconst dX0_isBesideJoined_21 ci1 ?_
    first | refine ev_isubN dX0_isBesideJoined_22 (by omega) ?_ | refine ev_isub dX0_isBesideJoined_22 ?_
    refine ev_top (congrArg Value.int (bo_m1 (by omega))) ?_
    refine ev_V1 dX0_isBesideJoined_23 st_RX0_32 na_X0_joinedBits (Nat.le_of_ble_eq_true rfl) (Nat.le_of_ble_eq_true rfl) (by repeat (first | assumption | exact up_s | refine (up_n (by omega)).trans ?_)) rfl (m0_joinedBits g gj (by omega)) ?_
    first | refine ev_aload_n dX0_isBesideJoined_26 rfl ?_ | refine ev_aload_nN dX0_isBesideJoined_26 rfl ?_
    refine ev_iload_n dX0_isBesideJoined_27 rfl ?_
    refine ev_top (congrArg Value.int (bo_s i).symm) ?_
    refine ev_V1 dX0_isBesideJoined_28 st_RX0_32 na_X0_joinedBits (Nat.le_of_ble_eq_true rfl) (Nat.le_of_ble_eq_true rfl) (by repeat (first | assumption | exact up_s | refine (up_n (by omega)).trans ?_)) rfl (m0_joinedBits g gj (by omega)) ?_
    first | refine ev_iorN dX0_isBesideJoined_31 ?_ | refine ev_ior dX0_isBesideJoined_31 ?_
    first | refine ev_aload_n dX0_isBesideJoined_32 rfl ?_ | refine ev_aload_nN dX0_isBesideJoined_32 rfl ?_
    refine ev_iload_n dX0_isBesideJoined_33 rfl ?_
    refine ev_iconst dX0_isBesideJoined_34 ci1 ?_
    first | refine ev_iaddN dX0_isBesideJoined_35 ?_ | refine ev_iadd dX0_isBesideJoined_35 ?_
    refine ev_top (congrArg Value.int (bo_s (i + 1)).symm) ?_
    refine ev_V1 dX0_isBesideJoined_36 st_RX0_32 na_X0_joinedBits (Nat.le_of_ble_eq_true rfl) (Nat.le_of_ble_eq_true rfl) (by repeat (first | assumption | exact up_s | refine (up_n (by omega)).trans ?_)) rfl (m0_joinedBits g gj (by omega)) ?_
    first | refine ev_iorN dX0_isBesideJoined_39 ?_ | refine ev_ior dX0_isBesideJoined_39 ?_
    refine ev_istore dX0_isBesideJoined_40 (Nat.le_of_ble_eq_true rfl) ?_
    refine ev_iload dX0_isBesideJoined_42 rfl ?_
    refine ev_iload_n dX0_isBesideJoined_44 rfl ?_
    first | refine ev_iandN dX0_isBesideJoined_45 ?_ | refine ev_iand dX0_isBesideJoined_45 ?_
    refine ev_if_eqF dX0_isBesideJoined_46 53 (by decide) (nI_ne0 (show 0 < nrow J i &&& nbit j by omega) (show nrow J i &&& nbit j < 2 ^ 31 by omega)) ?_
    refine ev_iconst dX0_isBesideJoined_49 ci1 ?_
    refine ev_goto (tgt := 54) dX0_isBesideJoined_50 (by decide) ?_
    exact ev_zreturnE dX0_isBesideJoined_54 rfl (by first | exact Or.inl rfl | exact Or.inr rfl | assumption | exact z01 (bI_01 _) | exact z01 (by omega)) (by rfl)
end M0A
