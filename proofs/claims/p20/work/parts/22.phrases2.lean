/-! the search through an alignment -/
theorem ev_callMinN {d : Nat} {M : MI} {pc : Nat} {ls : List (Nat × Value)} {st : List Value} {n : Nat} {h : Hp} {o : Out} {idx x y : Nat} (g0 : decode (mB M) pc = .ok (.invokestatic idx, 3)) (g1 : Cond.methodLink (mC M) idx Jvm.Lib.Math.min.name ∈ am_ws) (g2 : csum st ≤ 8) (hx : x < 2 ^ 31) (hy : y < 2 ^ 31) (k : Ev d M (pc + 3) ls (.int (nI (min x y)) :: st) n h o) : Ev d M pc ls (.int (nI y) :: .int (nI x) :: st) n h o :=
  ev_callMin g0 g1 g2 (ev_top (congrArg Value.int (by
    by_cases q : y < x
    · rw [if_pos (nI_lt q hx), show min x y = y by omega]
    · rw [if_neg (nI_nlt (by omega) (by omega)), show min x y = x by omega])) k)
def fo {σ : Type} (f : Nat → σ → σ) (c : Nat) (s : σ) : Nat → σ
  | 0 => s
  | k + 1 => f (c + k) (fo f c s k)
abbrev Q4 : Type := Nat → Nat → Nat → Nat → Bool
def pD (P : Q4) (wt : Int32) (a b c e : Nat) (s : Nat × (Nat → Nat)) : Nat × (Nat → Nat) := if P a b c e = true then met wt a b c e s else s
def pC (P : Q4) (wt : Int32) (l1 a b c : Nat) (s : Nat × (Nat → Nat)) : Nat × (Nat → Nat) := fo (pD P wt a b c) c s (min (c + 4) l1 - c)
def pB (P : Q4) (wt : Int32) (l1 a b : Nat) (s : Nat × (Nat → Nat)) : Nat × (Nat → Nat) := fo (pC P wt l1 a b) 0 s l1
def pA (P : Q4) (wt : Int32) (l0 l1 a : Nat) (s : Nat × (Nat → Nat)) : Nat × (Nat → Nat) := fo (pB P wt l1 a) a s (min (a + 4) l0 - a)
def pAll (P : Q4) (wt : Int32) (l0 l1 : Nat) (s : Nat × (Nat → Nat)) : Nat × (Nat → Nat) := fo (pA P wt l0 l1) 0 s l0
/-- what is a phrase, by the bits that are joined -/
def isPh (J : Nat → Nat) (l0 : Nat) : Q4 := fun a b c e => decide ((ioF J a b l0).1 ≠ 0 ∧ (ioF J a b l0).1 &&& (255 - spF c (e + 1 - c)) = 0 ∧ (ioF J a b l0).2 &&& spF c (e + 1 - c) = 0)
section M5B
variable {d n : Nat} {h : Hp} {l0 l1 : Nat} {J : Nat → Nat} {wt : Int32} {a b c : Nat} {s : Nat × (Nat → Nat)}
theorem Sr_Ah (g : Ah h l0 l1) : Ah (Sr h s) l0 l1 := (up_n (by omega)).trans ((up_n (by omega)).trans g)
theorem Sr_21 (g : h 21 = aI 8 J) : Sr h s 21 = aI 8 J := (up_n (by omega)).trans ((up_n (by omega)).trans g)
theorem lp_saD (g : Ah h l0 l1) (hl0 : l0 ≤ 8) (hl1 : l1 ≤ 8) (hJ : ∀ i, J i < 256) (hc : c < l1) {o9 : Out} (K : Ev (d + 4) MX5_seekAcross 132 [(0, .ref 22), (1, .ref 18), (2, .int (nI a)), (3, .int (nI b)), (4, .int wt), (5, .int (nI (ioF J a b l0).1)), (6, .int (nI (ioF J a b l0).2)), (7, .int (nI c)), (8, .int (nI (min (c + 4) l1))), (9, .int (nI (min (c + 4) l1)))] [] n (Sr h (pC (isPh J l0) wt l1 a b c s)) o9) :
    ∀ k i, i + k = min (c + 4) l1 - c → Ev (d + 4) MX5_seekAcross 90 [(0, .ref 22), (1, .ref 18), (2, .int (nI a)), (3, .int (nI b)), (4, .int wt), (5, .int (nI (ioF J a b l0).1)), (6, .int (nI (ioF J a b l0).2)), (7, .int (nI c)), (8, .int (nI (min (c + 4) l1))), (9, .int (nI (c + i)))] [] n (Sr h (fo (pD (isPh J l0) wt a b c) c s i)) o9 := by
  obtain ⟨b1, b2⟩ := ioF_lt hJ a b l0
  intro k
  induction k with
  | zero =>
    intro i hi
    have e : c + i = min (c + 4) l1 := by omega
    have e2 : i = min (c + 4) l1 - c := by omega
    rw [e]
    subst e2
    refine ev_iload dX5_seekAcross_90 rfl ?_
    refine ev_iload dX5_seekAcross_92 rfl ?_
    refine ev_icmp_geT (tgt := 132) dX5_seekAcross_94 (by decide) (by first | assumption | exact nI_le (by omega) (by omega) | decide) ?_
    refine ev_sub ?_ (K)
    repeat (first | exact trivial | refine ⟨rfl, ?_⟩)
  | succ k ih =>
    intro i hi
    have ih := ih (i + 1) (by omega)
    have g22 : Sr h (fo (pD (isPh J l0) wt a b c) c s i) 22 = _ := Sr_22
    by_cases q : isPh J l0 a b c (c + i) = true
    · have e1 : fo (pD (isPh J l0) wt a b c) c s (i + 1) = met wt a b c (c + i) (fo (pD (isPh J l0) wt a b c) c s i) := if_pos q
      rw [e1] at ih
      have e2 := bI_t (of_decide_eq_true q)
      refine ev_iload dX5_seekAcross_90 rfl ?_
      refine ev_iload dX5_seekAcross_92 rfl ?_
      refine ev_icmp_geF dX5_seekAcross_94 132 (by decide) (by first | assumption | exact nI_ge (by omega) (by omega) | decide) ?_
      refine ev_iload dX5_seekAcross_97 rfl ?_
      refine ev_iload dX5_seekAcross_99 rfl ?_
      refine ev_iload dX5_seekAcross_101 rfl ?_
      refine ev_iload dX5_seekAcross_103 rfl ?_
      refine ev_S2 dX5_seekAcross_105 st_RX5_42 na_X5_spanBits (Nat.le_of_ble_eq_true rfl) (Nat.le_of_ble_eq_true rfl) (m5_spanBits (show c + i < 8 by omega) (by omega)) ?_
      refine ev_S3 dX5_seekAcross_108 st_RX5_45 na_X5_isPhrase (Nat.le_of_ble_eq_true rfl) (Nat.le_of_ble_eq_true rfl) (m5_isPhrase b1 b2 (spF_lt (by omega))) ?_
      refine ev_if_eqF dX5_seekAcross_111 126 (by decide) (by first | assumption | exact nI_ne0 (by omega) (by omega) | decide) ?_
      first | refine ev_aload_n dX5_seekAcross_114 rfl ?_ | refine ev_aload_nN dX5_seekAcross_114 rfl ?_
      refine ev_iload_n dX5_seekAcross_115 rfl ?_
      refine ev_iload_n dX5_seekAcross_116 rfl ?_
      refine ev_iload dX5_seekAcross_117 rfl ?_
      refine ev_iload dX5_seekAcross_119 rfl ?_
      refine ev_iload dX5_seekAcross_121 rfl ?_
      refine ev_V5v dX5_seekAcross_123 st_RX5_49 na_X5_meet (Nat.le_of_ble_eq_true rfl) (Nat.le_of_ble_eq_true rfl) (by repeat (first | assumption | exact up_s | refine (up_n (by omega)).trans ?_)) rfl (m5_meet) ?_
      refine ev_iincN (b := 1) dX5_seekAcross_126 rfl (Nat.le_of_ble_eq_true rfl) ?_
      refine ev_goto (tgt := 90) dX5_seekAcross_129 (by decide) ?_
      refine ev_sub ?_ (ih)
      repeat (first | exact trivial | refine ⟨rfl, ?_⟩)
    · have e1 : fo (pD (isPh J l0) wt a b c) c s (i + 1) = fo (pD (isPh J l0) wt a b c) c s i := if_neg q
      rw [e1] at ih
      have e2 := bI_f (fun w => q (decide_eq_true w))
      refine ev_iload dX5_seekAcross_90 rfl ?_
      refine ev_iload dX5_seekAcross_92 rfl ?_
      refine ev_icmp_geF dX5_seekAcross_94 132 (by decide) (by first | assumption | exact nI_ge (by omega) (by omega) | decide) ?_
      refine ev_iload dX5_seekAcross_97 rfl ?_
      refine ev_iload dX5_seekAcross_99 rfl ?_
      refine ev_iload dX5_seekAcross_101 rfl ?_
      refine ev_iload dX5_seekAcross_103 rfl ?_
      refine ev_S2 dX5_seekAcross_105 st_RX5_42 na_X5_spanBits (Nat.le_of_ble_eq_true rfl) (Nat.le_of_ble_eq_true rfl) (m5_spanBits (show c + i < 8 by omega) (by omega)) ?_
      refine ev_S3 dX5_seekAcross_108 st_RX5_45 na_X5_isPhrase (Nat.le_of_ble_eq_true rfl) (Nat.le_of_ble_eq_true rfl) (m5_isPhrase b1 b2 (spF_lt (by omega))) ?_
      refine ev_if_eqT (tgt := 126) dX5_seekAcross_111 (by decide) (by first | assumption | exact z_eq (by omega) | decide) ?_
      refine ev_iincN (b := 1) dX5_seekAcross_126 rfl (Nat.le_of_ble_eq_true rfl) ?_
      refine ev_goto (tgt := 90) dX5_seekAcross_129 (by decide) ?_
      refine ev_sub ?_ (ih)
      repeat (first | exact trivial | refine ⟨rfl, ?_⟩)
theorem lp_saC (g : Ah h l0 l1) (gj : h 21 = aI 8 J) (hl0 : l0 ≤ 8) (hl1 : l1 ≤ 8) (hJ : ∀ i, J i < 256) :
    ∀ k c, c + k = l1 → Ev (d + 4) MX5_seekAcross 64 [(0, .ref 22), (1, .ref 18), (2, .int (nI a)), (3, .int (nI b)), (4, .int wt), (5, .int (nI (ioF J a b l0).1)), (6, .int (nI (ioF J a b l0).2)), (7, .int (nI c))] [] n (Sr h (fo (pC (isPh J l0) wt l1 a b) 0 s c)) (.inl none, n, Sr h (pB (isPh J l0) wt l1 a b s), 0, 0) := by
  intro k
  induction k with
  | zero =>
    intro c hc
    have e : c = l1 := by omega
    subst e
    have g18 := Sr_Ah (s := fo (pC (isPh J l0) wt c a b) 0 s c) g
    refine ev_iload dX5_seekAcross_64 rfl ?_
    first | refine ev_aload_n dX5_seekAcross_66 rfl ?_ | refine ev_aload_nN dX5_seekAcross_66 rfl ?_
    refine ev_V0 dX5_seekAcross_67 st_RX5_39 na_X0_secondLength (Nat.le_of_ble_eq_true rfl) (Nat.le_of_ble_eq_true rfl) (by repeat (first | assumption | exact up_s | refine (up_n (by omega)).trans ?_)) rfl (m0_secondLength g18) ?_
    refine ev_icmp_geT (tgt := 138) dX5_seekAcross_70 (by decide) (by first | assumption | exact nI_le (by omega) (by omega) | decide) ?_
    exact ev_vreturnE dX5_seekAcross_138 rfl (by rfl)
  | succ k ih =>
    intro c hc
    have ih := ih (c + 1) (by omega)
    have e1 : fo (pC (isPh J l0) wt l1 a b) 0 s (c + 1) = pC (isPh J l0) wt l1 a b c (fo (pC (isPh J l0) wt l1 a b) 0 s c) := by
      show pC (isPh J l0) wt l1 a b (0 + c) _ = _
      rw [Nat.zero_add]
    rw [e1] at ih
    have g18 := Sr_Ah (s := fo (pC (isPh J l0) wt l1 a b) 0 s c) g
    refine ev_iload dX5_seekAcross_64 rfl ?_
    first | refine ev_aload_n dX5_seekAcross_66 rfl ?_ | refine ev_aload_nN dX5_seekAcross_66 rfl ?_
    refine ev_V0 dX5_seekAcross_67 st_RX5_39 na_X0_secondLength (Nat.le_of_ble_eq_true rfl) (Nat.le_of_ble_eq_true rfl) (by repeat (first | assumption | exact up_s | refine (up_n (by omega)).trans ?_)) rfl (m0_secondLength g18) ?_
    refine ev_icmp_geF dX5_seekAcross_70 138 (by decide) (by first | assumption | exact nI_ge (by omega) (by omega) | decide) ?_
    refine ev_iload dX5_seekAcross_73 rfl ?_
    refine ev_iconst dX5_seekAcross_75 ci4 ?_
    first | refine ev_iaddN dX5_seekAcross_76 ?_ | refine ev_iadd dX5_seekAcross_76 ?_
    first | refine ev_aload_n dX5_seekAcross_77 rfl ?_ | refine ev_aload_nN dX5_seekAcross_77 rfl ?_
    refine ev_V0 dX5_seekAcross_78 st_RX5_39 na_X0_secondLength (Nat.le_of_ble_eq_true rfl) (Nat.le_of_ble_eq_true rfl) (by repeat (first | assumption | exact up_s | refine (up_n (by omega)).trans ?_)) rfl (m0_secondLength g18) ?_
    refine ev_callMinN dX5_seekAcross_81 st_RX5_25 (Nat.le_of_ble_eq_true rfl) (by omega) (by omega) ?_
    refine ev_istore dX5_seekAcross_84 (Nat.le_of_ble_eq_true rfl) ?_
    refine ev_iload dX5_seekAcross_86 rfl ?_
    refine ev_istore dX5_seekAcross_88 (Nat.le_of_ble_eq_true rfl) ?_
    refine ev_sub ?_ (lp_saD (wt := wt) (a := a) (b := b) (c := c) (s := fo (pC (isPh J l0) wt l1 a b) 0 s c) g hl0 hl1 hJ (by omega) ?_ (min (c + 4) l1 - c) 0 (by omega))
    · repeat (first | exact trivial | refine ⟨rfl, ?_⟩)
    · refine ev_iincN (b := 1) dX5_seekAcross_132 rfl (Nat.le_of_ble_eq_true rfl) ?_
      refine ev_goto (tgt := 64) dX5_seekAcross_135 (by decide) ?_
      refine ev_sub ?_ (ih)
      repeat (first | exact trivial | refine ⟨rfl, ?_⟩)
theorem lp_saI (g : Ah h l0 l1) (gj : h 21 = aI 8 J) (hl0 : l0 ≤ 8) (ha : a < 8) (hb : b < 8) {o9 : Out} (K : Ev (d + 4) MX5_seekAcross 61 [(0, .ref 22), (1, .ref 18), (2, .int (nI a)), (3, .int (nI b)), (4, .int wt), (5, .int (nI (ioF J a b l0).1)), (6, .int (nI (ioF J a b l0).2)), (7, .int (nI l0))] [] n (Sr h s) o9) :
    ∀ k i, i + k = l0 → Ev (d + 4) MX5_seekAcross 9 [(0, .ref 22), (1, .ref 18), (2, .int (nI a)), (3, .int (nI b)), (4, .int wt), (5, .int (nI (ioF J a b i).1)), (6, .int (nI (ioF J a b i).2)), (7, .int (nI i))] [] n (Sr h s) o9 := by
  have g18 := Sr_Ah (s := s) g
  have g21 := Sr_21 (s := s) gj
  intro k
  induction k with
  | zero =>
    intro i hi
    have e : i = l0 := by omega
    subst e
    refine ev_iload dX5_seekAcross_9 rfl ?_
    first | refine ev_aload_n dX5_seekAcross_11 rfl ?_ | refine ev_aload_nN dX5_seekAcross_11 rfl ?_
    refine ev_V0 dX5_seekAcross_12 st_RX5_19 na_X0_firstLength (Nat.le_of_ble_eq_true rfl) (Nat.le_of_ble_eq_true rfl) (by repeat (first | assumption | exact up_s | refine (up_n (by omega)).trans ?_)) rfl (m0_firstLength g18) ?_
    refine ev_icmp_geT (tgt := 61) dX5_seekAcross_15 (by decide) (by first | assumption | exact nI_le (by omega) (by omega) | decide) ?_
    refine ev_sub ?_ (K)
    repeat (first | exact trivial | refine ⟨rfl, ?_⟩)
  | succ k ih =>
    intro i hi
    have ih := ih (i + 1) (by omega)
    by_cases q : a ≤ i ∧ i ≤ b
    · have e1 : ioF J a b (i + 1) = ((ioF J a b i).1 ||| J i, (ioF J a b i).2) := if_pos q
      rw [e1] at ih
      refine ev_iload dX5_seekAcross_9 rfl ?_
      first | refine ev_aload_n dX5_seekAcross_11 rfl ?_ | refine ev_aload_nN dX5_seekAcross_11 rfl ?_
      refine ev_V0 dX5_seekAcross_12 st_RX5_19 na_X0_firstLength (Nat.le_of_ble_eq_true rfl) (Nat.le_of_ble_eq_true rfl) (by repeat (first | assumption | exact up_s | refine (up_n (by omega)).trans ?_)) rfl (m0_firstLength g18) ?_
      refine ev_icmp_geF dX5_seekAcross_15 61 (by decide) (by first | assumption | exact nI_ge (by omega) (by omega) | decide) ?_
      refine ev_iload dX5_seekAcross_18 rfl ?_
      refine ev_iload_n dX5_seekAcross_20 rfl ?_
      refine ev_icmp_ltF dX5_seekAcross_21 44 (by decide) (by first | assumption | exact nI_nlt (by omega) (by omega) | decide) ?_
      refine ev_iload dX5_seekAcross_24 rfl ?_
      refine ev_iload_n dX5_seekAcross_26 rfl ?_
      refine ev_icmp_gtF dX5_seekAcross_27 44 (by decide) (by first | assumption | exact nI_nlt (by omega) (by omega) | decide) ?_
      refine ev_iload dX5_seekAcross_30 rfl ?_
      first | refine ev_aload_n dX5_seekAcross_32 rfl ?_ | refine ev_aload_nN dX5_seekAcross_32 rfl ?_
      refine ev_iload dX5_seekAcross_33 rfl ?_
      refine ev_V1 dX5_seekAcross_35 st_RX5_35 na_X0_joinedBits (Nat.le_of_ble_eq_true rfl) (Nat.le_of_ble_eq_true rfl) (by repeat (first | assumption | exact up_s | refine (up_n (by omega)).trans ?_)) rfl (m0_joinedBitsN g18 g21 (show i < 8 by omega)) ?_
      first | refine ev_iorN dX5_seekAcross_38 ?_ | refine ev_ior dX5_seekAcross_38 ?_
      refine ev_istore dX5_seekAcross_39 (Nat.le_of_ble_eq_true rfl) ?_
      refine ev_goto (tgt := 55) dX5_seekAcross_41 (by decide) ?_
      refine ev_iincN (b := 1) dX5_seekAcross_55 rfl (Nat.le_of_ble_eq_true rfl) ?_
      refine ev_goto (tgt := 9) dX5_seekAcross_58 (by decide) ?_
      refine ev_sub ?_ (ih)
      repeat (first | exact trivial | refine ⟨rfl, ?_⟩)
    · have e1 : ioF J a b (i + 1) = ((ioF J a b i).1, (ioF J a b i).2 ||| J i) := if_neg q
      rw [e1] at ih
      by_cases q2 : a ≤ i
      · refine ev_iload dX5_seekAcross_9 rfl ?_
        first | refine ev_aload_n dX5_seekAcross_11 rfl ?_ | refine ev_aload_nN dX5_seekAcross_11 rfl ?_
        refine ev_V0 dX5_seekAcross_12 st_RX5_19 na_X0_firstLength (Nat.le_of_ble_eq_true rfl) (Nat.le_of_ble_eq_true rfl) (by repeat (first | assumption | exact up_s | refine (up_n (by omega)).trans ?_)) rfl (m0_firstLength g18) ?_
        refine ev_icmp_geF dX5_seekAcross_15 61 (by decide) (by first | assumption | exact nI_ge (by omega) (by omega) | decide) ?_
        refine ev_iload dX5_seekAcross_18 rfl ?_
        refine ev_iload_n dX5_seekAcross_20 rfl ?_
        refine ev_icmp_ltF dX5_seekAcross_21 44 (by decide) (by first | assumption | exact nI_nlt (by omega) (by omega) | decide) ?_
        refine ev_iload dX5_seekAcross_24 rfl ?_
        refine ev_iload_n dX5_seekAcross_26 rfl ?_
        refine ev_icmp_gtT (tgt := 44) dX5_seekAcross_27 (by decide) (by first | assumption | exact nI_lt (by omega) (by omega) | decide) ?_
        refine ev_iload dX5_seekAcross_44 rfl ?_
        first | refine ev_aload_n dX5_seekAcross_46 rfl ?_ | refine ev_aload_nN dX5_seekAcross_46 rfl ?_
        refine ev_iload dX5_seekAcross_47 rfl ?_
        refine ev_V1 dX5_seekAcross_49 st_RX5_35 na_X0_joinedBits (Nat.le_of_ble_eq_true rfl) (Nat.le_of_ble_eq_true rfl) (by repeat (first | assumption | exact up_s | refine (up_n (by omega)).trans ?_)) rfl (m0_joinedBitsN g18 g21 (show i < 8 by omega)) ?_
        first | refine ev_iorN dX5_seekAcross_52 ?_ | refine ev_ior dX5_seekAcross_52 ?_
        refine ev_istore dX5_seekAcross_53 (Nat.le_of_ble_eq_true rfl) ?_
        refine ev_iincN (b := 1) dX5_seekAcross_55 rfl (Nat.le_of_ble_eq_true rfl) ?_
        refine ev_goto (tgt := 9) dX5_seekAcross_58 (by decide) ?_
        refine ev_sub ?_ (ih)
        repeat (first | exact trivial | refine ⟨rfl, ?_⟩)
      · refine ev_iload dX5_seekAcross_9 rfl ?_
        first | refine ev_aload_n dX5_seekAcross_11 rfl ?_ | refine ev_aload_nN dX5_seekAcross_11 rfl ?_
        refine ev_V0 dX5_seekAcross_12 st_RX5_19 na_X0_firstLength (Nat.le_of_ble_eq_true rfl) (Nat.le_of_ble_eq_true rfl) (by repeat (first | assumption | exact up_s | refine (up_n (by omega)).trans ?_)) rfl (m0_firstLength g18) ?_
        refine ev_icmp_geF dX5_seekAcross_15 61 (by decide) (by first | assumption | exact nI_ge (by omega) (by omega) | decide) ?_
        refine ev_iload dX5_seekAcross_18 rfl ?_
        refine ev_iload_n dX5_seekAcross_20 rfl ?_
        refine ev_icmp_ltT (tgt := 44) dX5_seekAcross_21 (by decide) (by first | assumption | exact nI_lt (by omega) (by omega) | decide) ?_
        refine ev_iload dX5_seekAcross_44 rfl ?_
        first | refine ev_aload_n dX5_seekAcross_46 rfl ?_ | refine ev_aload_nN dX5_seekAcross_46 rfl ?_
        refine ev_iload dX5_seekAcross_47 rfl ?_
        refine ev_V1 dX5_seekAcross_49 st_RX5_35 na_X0_joinedBits (Nat.le_of_ble_eq_true rfl) (Nat.le_of_ble_eq_true rfl) (by repeat (first | assumption | exact up_s | refine (up_n (by omega)).trans ?_)) rfl (m0_joinedBitsN g18 g21 (show i < 8 by omega)) ?_
        first | refine ev_iorN dX5_seekAcross_52 ?_ | refine ev_ior dX5_seekAcross_52 ?_
        refine ev_istore dX5_seekAcross_53 (Nat.le_of_ble_eq_true rfl) ?_
        refine ev_iincN (b := 1) dX5_seekAcross_55 rfl (Nat.le_of_ble_eq_true rfl) ?_
        refine ev_goto (tgt := 9) dX5_seekAcross_58 (by decide) ?_
        refine ev_sub ?_ (ih)
        repeat (first | exact trivial | refine ⟨rfl, ?_⟩)
theorem m5_seekAcross (g : Ah h l0 l1) (gj : h 21 = aI 8 J) (hl0 : l0 ≤ 8) (hl1 : l1 ≤ 8) (hJ : ∀ i, J i < 256) (ha : a < 8) (hb : b < 8) : Ev (d + 4) MX5_seekAcross 0 (lv_args 0 [.ref 22, .ref 18, .int (nI a), .int (nI b), .int wt]) [] n (Sr h s) (.inl none, n, Sr h (pB (isPh J l0) wt l1 a b s), 0, 0) := by
  refine ev_iconst dX5_seekAcross_0 ci0 ?_
  refine ev_istore dX5_seekAcross_1 (Nat.le_of_ble_eq_true rfl) ?_
  refine ev_iconst dX5_seekAcross_3 ci0 ?_
  refine ev_istore dX5_seekAcross_4 (Nat.le_of_ble_eq_true rfl) ?_
  refine ev_iconst dX5_seekAcross_6 ci0 ?_
  refine ev_istore dX5_seekAcross_7 (Nat.le_of_ble_eq_true rfl) ?_
  refine ev_sub ?_ (lp_saI (wt := wt) (a := a) (b := b) (s := s) g gj hl0 ha hb ?_ l0 0 (by omega))
  · repeat (first | exact trivial | refine ⟨rfl, ?_⟩)
  · refine ev_iconst dX5_seekAcross_61 ci0 ?_
    refine ev_istore dX5_seekAcross_62 (Nat.le_of_ble_eq_true rfl) ?_
    refine ev_sub ?_ (lp_saC g gj hl0 hl1 hJ l1 0 (by omega))
    repeat (first | exact trivial | refine ⟨rfl, ?_⟩)
theorem lp_skB (g : Ah h l0 l1) (gj : h 21 = aI 8 J) (hl0 : l0 ≤ 8) (hl1 : l1 ≤ 8) (hJ : ∀ i, J i < 256) (ha : a < l0) {o9 : Out} (K : Ev (d + 5) MX5_seek 52 [(0, .ref 22), (1, .ref 18), (2, .int wt), (3, .int (nI a)), (4, .int (nI (min (a + 4) l0))), (5, .int (nI (min (a + 4) l0)))] [] n (Sr h (pA (isPh J l0) wt l0 l1 a s)) o9) :
    ∀ k i, i + k = min (a + 4) l0 - a → Ev (d + 5) MX5_seek 30 [(0, .ref 22), (1, .ref 18), (2, .int wt), (3, .int (nI a)), (4, .int (nI (min (a + 4) l0))), (5, .int (nI (a + i)))] [] n (Sr h (fo (pB (isPh J l0) wt l1 a) a s i)) o9 := by
  intro k
  induction k with
  | zero =>
    intro i hi
    have e : a + i = min (a + 4) l0 := by omega
    have e2 : i = min (a + 4) l0 - a := by omega
    rw [e]
    subst e2
    refine ev_iload dX5_seek_30 rfl ?_
    refine ev_iload dX5_seek_32 rfl ?_
    refine ev_icmp_geT (tgt := 52) dX5_seek_34 (by decide) (by first | assumption | exact nI_le (by omega) (by omega) | decide) ?_
    refine ev_sub ?_ (K)
    repeat (first | exact trivial | refine ⟨rfl, ?_⟩)
  | succ k ih =>
    intro i hi
    have ih := ih (i + 1) (by omega)
    have g22 : Sr h (fo (pB (isPh J l0) wt l1 a) a s i) 22 = _ := Sr_22
    refine ev_iload dX5_seek_30 rfl ?_
    refine ev_iload dX5_seek_32 rfl ?_
    refine ev_icmp_geF dX5_seek_34 52 (by decide) (by first | assumption | exact nI_ge (by omega) (by omega) | decide) ?_
    first | refine ev_aload_n dX5_seek_37 rfl ?_ | refine ev_aload_nN dX5_seek_37 rfl ?_
    first | refine ev_aload_n dX5_seek_38 rfl ?_ | refine ev_aload_nN dX5_seek_38 rfl ?_
    refine ev_iload_n dX5_seek_39 rfl ?_
    refine ev_iload dX5_seek_40 rfl ?_
    refine ev_iload_n dX5_seek_42 rfl ?_
    refine ev_V4v dX5_seek_43 st_RX5_31 na_X5_seekAcross (Nat.le_of_ble_eq_true rfl) (Nat.le_of_ble_eq_true rfl) (by repeat (first | assumption | exact up_s | refine (up_n (by omega)).trans ?_)) rfl (m5_seekAcross g gj hl0 hl1 hJ (show a < 8 by omega) (show a + i < 8 by omega)) ?_
    refine ev_iincN (b := 1) dX5_seek_46 rfl (Nat.le_of_ble_eq_true rfl) ?_
    refine ev_goto (tgt := 30) dX5_seek_49 (by decide) ?_
    refine ev_sub ?_ (ih)
    repeat (first | exact trivial | refine ⟨rfl, ?_⟩)
theorem lp_skA (g : Ah h l0 l1) (gj : h 21 = aI 8 J) (hl0 : l0 ≤ 8) (hl1 : l1 ≤ 8) (hJ : ∀ i, J i < 256) :
    ∀ k a, a + k = l0 → Ev (d + 5) MX5_seek 7 [(0, .ref 22), (1, .ref 18), (2, .int wt), (3, .int (nI a))] [] n (Sr h (fo (pA (isPh J l0) wt l0 l1) 0 s a)) (.inl none, n, Sr h (pAll (isPh J l0) wt l0 l1 s), 0, 0) := by
  intro k
  induction k with
  | zero =>
    intro a ha
    have e : a = l0 := by omega
    subst e
    have g18 := Sr_Ah (s := fo (pA (isPh J a) wt a l1) 0 s a) g
    refine ev_iload_n dX5_seek_7 rfl ?_
    first | refine ev_aload_n dX5_seek_8 rfl ?_ | refine ev_aload_nN dX5_seek_8 rfl ?_
    refine ev_V0 dX5_seek_9 st_RX5_19 na_X0_firstLength (Nat.le_of_ble_eq_true rfl) (Nat.le_of_ble_eq_true rfl) (by repeat (first | assumption | exact up_s | refine (up_n (by omega)).trans ?_)) rfl (m0_firstLength g18) ?_
    refine ev_icmp_geT (tgt := 58) dX5_seek_12 (by decide) (by first | assumption | exact nI_le (by omega) (by omega) | decide) ?_
    exact ev_vreturnE dX5_seek_58 rfl (by rfl)
  | succ k ih =>
    intro a ha
    have ih := ih (a + 1) (by omega)
    have e1 : fo (pA (isPh J l0) wt l0 l1) 0 s (a + 1) = pA (isPh J l0) wt l0 l1 a (fo (pA (isPh J l0) wt l0 l1) 0 s a) := by
      show pA (isPh J l0) wt l0 l1 (0 + a) _ = _
      rw [Nat.zero_add]
    rw [e1] at ih
    have g18 := Sr_Ah (s := fo (pA (isPh J l0) wt l0 l1) 0 s a) g
    refine ev_iload_n dX5_seek_7 rfl ?_
    first | refine ev_aload_n dX5_seek_8 rfl ?_ | refine ev_aload_nN dX5_seek_8 rfl ?_
    refine ev_V0 dX5_seek_9 st_RX5_19 na_X0_firstLength (Nat.le_of_ble_eq_true rfl) (Nat.le_of_ble_eq_true rfl) (by repeat (first | assumption | exact up_s | refine (up_n (by omega)).trans ?_)) rfl (m0_firstLength g18) ?_
    refine ev_icmp_geF dX5_seek_12 58 (by decide) (by first | assumption | exact nI_ge (by omega) (by omega) | decide) ?_
    refine ev_iload_n dX5_seek_15 rfl ?_
    refine ev_iconst dX5_seek_16 ci4 ?_
    first | refine ev_iaddN dX5_seek_17 ?_ | refine ev_iadd dX5_seek_17 ?_
    first | refine ev_aload_n dX5_seek_18 rfl ?_ | refine ev_aload_nN dX5_seek_18 rfl ?_
    refine ev_V0 dX5_seek_19 st_RX5_19 na_X0_firstLength (Nat.le_of_ble_eq_true rfl) (Nat.le_of_ble_eq_true rfl) (by repeat (first | assumption | exact up_s | refine (up_n (by omega)).trans ?_)) rfl (m0_firstLength g18) ?_
    refine ev_callMinN dX5_seek_22 st_RX5_25 (Nat.le_of_ble_eq_true rfl) (by omega) (by omega) ?_
    refine ev_istore dX5_seek_25 (Nat.le_of_ble_eq_true rfl) ?_
    refine ev_iload_n dX5_seek_27 rfl ?_
    refine ev_istore dX5_seek_28 (Nat.le_of_ble_eq_true rfl) ?_
    refine ev_sub ?_ (lp_skB (wt := wt) (a := a) (s := fo (pA (isPh J l0) wt l0 l1) 0 s a) g gj hl0 hl1 hJ (by omega) ?_ (min (a + 4) l0 - a) 0 (by omega))
    · repeat (first | exact trivial | refine ⟨rfl, ?_⟩)
    · refine ev_iincN (b := 1) dX5_seek_52 rfl (Nat.le_of_ble_eq_true rfl) ?_
      refine ev_goto (tgt := 7) dX5_seek_55 (by decide) ?_
      refine ev_sub ?_ (ih)
      repeat (first | exact trivial | refine ⟨rfl, ?_⟩)
theorem m5_seek {C9 : Nat} {F9 : Nat → Nat} (g : Ah h l0 l1) (gj : h 21 = aI 8 J) (g22 : h 22 = .inr (5, [.ref 23, .int (nI C9)])) (g23 : h 23 = aI 4 F9) (hl0 : l0 ≤ 8) (hl1 : l1 ≤ 8) (hJ : ∀ i, J i < 256) : Ev (d + 5) MX5_seek 0 (lv_args 0 [.ref 22, .ref 18, .int wt]) [] n h (.inl none, n, Sr h (pAll (isPh J l0) wt l0 l1 (0, F9)), 0, 0) := by
  first | refine ev_aload_n dX5_seek_0 rfl ?_ | refine ev_aload_nN dX5_seek_0 rfl ?_
  refine ev_iconst dX5_seek_1 ci0 ?_
  refine ev_putfield dX5_seek_2 fl_RX5_15 (fit_5_1 _) (fun q => absurd q (by decide)) (by repeat (first | assumption | exact up_s | refine (up_n (by omega)).trans ?_)) (Nat.le_of_ble_eq_true rfl) ?_
  refine ev_iconst dX5_seek_5 ci0 ?_
  refine ev_istore_n dX5_seek_6 (Nat.le_of_ble_eq_true rfl) ?_
  refine ev_heap (h2 := Sr h (0, F9)) (up_id ((up_n (by omega)).trans g23)).symm ?_
  refine ev_sub ?_ (lp_skA (s := (0, F9)) g gj hl0 hl1 hJ l0 0 (by omega))
  repeat (first | exact trivial | refine ⟨rfl, ?_⟩)
theorem m5_count {C9 : Nat} (g22 : h 22 = .inr (5, [.ref 23, .int (nI C9)])) : Ev d MX5_count 0 (lv_args 0 [.ref 22]) [] n h (.inl (some (.int (nI C9))), n, h, 0, 0) := by
  first | refine ev_aload_n dX5_count_0 rfl ?_ | refine ev_aload_nN dX5_count_0 rfl ?_
  refine ev_getfield dX5_count_1 fl_RX5_15 (by repeat (first | assumption | exact up_s | refine (up_n (by omega)).trans ?_)) rfl ?_
  exact ev_ireturnE dX5_count_4 rfl (by rfl)
theorem m5_endOfFound {C9 i : Nat} {F9 : Nat → Nat} (g22 : h 22 = .inr (5, [.ref 23, .int (nI C9)])) (g23 : h 23 = aI 4 F9) (hi : i < 4) : Ev d MX5_endOfFound 0 (lv_args 0 [.ref 22, .int (nI i)]) [] n h (.inl (some (.int (nI (F9 i)))), n, h, 0, 0) := by
  refine ev_iload_n dX5_endOfFound_0 rfl ?_
  refine ev_if_ltF dX5_endOfFound_1 22 (by decide) (by first | assumption | exact nI_pos (by omega) | decide) ?_
  refine ev_iload_n dX5_endOfFound_4 rfl ?_
  first | refine ev_aload_n dX5_endOfFound_5 rfl ?_ | refine ev_aload_nN dX5_endOfFound_5 rfl ?_
  refine ev_getfield dX5_endOfFound_6 fl_RX5_9 (by repeat (first | assumption | exact up_s | refine (up_n (by omega)).trans ?_)) rfl ?_
  refine ev_alen dX5_endOfFound_9 (by repeat (first | assumption | exact up_s | refine (up_n (by omega)).trans ?_)) (by decide) ?_
  refine ev_icmp_geF dX5_endOfFound_10 22 (by decide) (by first | assumption | exact nI_ge (by omega) (by omega) | decide) ?_
  first | refine ev_aload_n dX5_endOfFound_13 rfl ?_ | refine ev_aload_nN dX5_endOfFound_13 rfl ?_
  refine ev_getfield dX5_endOfFound_14 fl_RX5_9 (by repeat (first | assumption | exact up_s | refine (up_n (by omega)).trans ?_)) rfl ?_
  refine ev_iload_n dX5_endOfFound_17 rfl ?_
  refine ev_iald dX5_endOfFound_18 (by repeat (first | assumption | exact up_s | refine (up_n (by omega)).trans ?_)) _ rfl (by omega) (by omega) ?_
  refine ev_goto (tgt := 23) dX5_endOfFound_19 (by decide) ?_
  exact ev_ireturnE dX5_endOfFound_23 rfl (by rfl)
end M5B
