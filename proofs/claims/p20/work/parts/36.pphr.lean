/-! phrases: each is one, and they come in order -/
def ky (a b c e : Nat) : Nat := 512 * a + 64 * b + 8 * c + e
def kf (F : Nat → Nat) : Nat := ky (F 0) (F 1) (F 2) (F 3)
def PV (P : Q4) (l0 l1 : Nat) (F : Nat → Nat) : Prop := F 0 ≤ F 1 ∧ F 1 < F 0 + 4 ∧ F 1 < l0 ∧ F 2 ≤ F 3 ∧ F 3 < F 2 + 4 ∧ F 3 < l1 ∧ P (F 0) (F 1) (F 2) (F 3) = true
def PI (P : Q4) (l0 l1 K K' q : Nat) (s u : Nat × (Nat → Nat)) : Prop := s.1 = u.1 ∧ s.1 ≤ q ∧ (K < s.1 → PV P l0 l1 s.2 ∧ kf s.2 < q) ∧ (K' < s.1 → PV P l0 l1 u.2 ∧ kf u.2 < q ∧ kf s.2 < kf u.2)
theorem PI_mono {P : Q4} {l0 l1 K K' q q' : Nat} {s u : Nat × (Nat → Nat)} (h : q ≤ q') (g : PI P l0 l1 K K' q s u) : PI P l0 l1 K K' q' s u := by
  obtain ⟨g1, g2, g3, g4⟩ := g
  refine ⟨g1, by omega, fun c => ?_, fun c => ?_⟩
  · have := g3 c; exact ⟨this.1, by omega⟩
  · have := g4 c; exact ⟨this.1, by omega, this.2.2⟩
theorem up4 {F : Nat → Nat} {a b c e : Nat} : (va_up (va_up (va_up (va_up F 0 a) 1 b) 2 c) 3 e) 0 = a ∧ (va_up (va_up (va_up (va_up F 0 a) 1 b) 2 c) 3 e) 1 = b ∧ (va_up (va_up (va_up (va_up F 0 a) 1 b) 2 c) 3 e) 2 = c ∧ (va_up (va_up (va_up (va_up F 0 a) 1 b) 2 c) 3 e) 3 = e := by
  refine ⟨?_, ?_, ?_, ?_⟩ <;> simp [va_up]
theorem met_eq {K a b c e : Nat} {s : Nat × (Nat → Nat)} (h : s.1 = K) : (met (nI K) a b c e s).2 = va_up (va_up (va_up (va_up s.2 0 a) 1 b) 2 c) 3 e := if_pos (by rw [h])
theorem met_ne {K a b c e : Nat} {s : Nat × (Nat → Nat)} (h : s.1 ≠ K) (h1 : s.1 < 2 ^ 31) (h2 : K < 2 ^ 31) : (met (nI K) a b c e s).2 = s.2 := if_neg (fun z => h ((nI_eq h1 h2).mp z))
theorem PI_met {P : Q4} {l0 l1 K K' a b c e : Nat} {s u : Nat × (Nat → Nat)} (hK : K < K') (hK2 : K' < 2 ^ 31) (hq : ky a b c e < 2 ^ 30) (hv : a ≤ b ∧ b < a + 4 ∧ b < l0 ∧ c ≤ e ∧ e < c + 4 ∧ e < l1 ∧ P a b c e = true) (g : PI P l0 l1 K K' (ky a b c e) s u) : PI P l0 l1 K K' (ky a b c e + 1) (met (nI K) a b c e s) (met (nI K') a b c e u) := by
  obtain ⟨g1, g2, g3, g4⟩ := g
  refine ⟨congrArg (· + 1) g1, Nat.succ_le_succ g2, fun q => ?_, fun q => ?_⟩
  · have q : K < s.1 + 1 := q
    by_cases z : s.1 = K
    · rw [met_eq z]
      obtain ⟨u0, u1, u2, u3⟩ := up4 (F := s.2) (a := a) (b := b) (c := c) (e := e)
      unfold PV kf
      rw [u0, u1, u2, u3]
      exact ⟨hv, Nat.lt_succ_self _⟩
    · rw [met_ne z (by omega) (by omega)]
      have := g3 (by omega)
      exact ⟨this.1, by omega⟩
  · have q : K' < s.1 + 1 := q
    have ns : s.1 ≠ K := by omega
    rw [met_ne ns (by omega) (by omega)]
    by_cases z : s.1 = K'
    · rw [met_eq (g1.symm.trans z)]
      obtain ⟨u0, u1, u2, u3⟩ := up4 (F := u.2) (a := a) (b := b) (c := c) (e := e)
      have h3 := (g3 (by omega)).2
      have ek : kf (va_up (va_up (va_up (va_up u.2 0 a) 1 b) 2 c) 3 e) = ky a b c e := by
        unfold kf
        rw [u0, u1, u2, u3]
      rw [ek]
      refine ⟨?_, Nat.lt_succ_self _, h3⟩
      unfold PV
      rw [u0, u1, u2, u3]
      exact hv
    · rw [met_ne (by omega) (by omega) (by omega)]
      have := g4 (by omega)
      exact ⟨this.1, by omega, this.2.2⟩
theorem fo_q {σ τ : Type} {f : Nat → σ → σ} {g : Nat → τ → τ} {R : Nat → σ → τ → Prop} {Q : Nat → Nat} (c : Nat) {N : Nat} (hf : ∀ j s u, j < N → R (Q (c + j)) s u → R (Q (c + (j + 1))) (f (c + j) s) (g (c + j) u)) {s : σ} {u : τ} (h : R (Q c) s u) : ∀ k, k ≤ N → R (Q (c + k)) (fo f c s k) (fo g c u k)
  | 0, _ => h
  | k + 1, hk => hf k _ _ (by omega) (fo_q c hf h k (by omega))
theorem PI_all {P : Q4} {l0 l1 K K' : Nat} (h0 : l0 ≤ 8) (h1 : l1 ≤ 8) (hK : K < K') (hK2 : K' < 2 ^ 31) (F : Nat → Nat) : PI P l0 l1 K K' (ky l0 0 0 0) (pAll P (nI K) l0 l1 (0, F)) (pAll P (nI K') l0 l1 (0, F)) := by
  have base : PI P l0 l1 K K' (ky 0 0 0 0) (0, F) (0, F) := ⟨rfl, Nat.zero_le _, fun c => absurd c (Nat.not_lt_zero _), fun c => absurd c (Nat.not_lt_zero _)⟩
  have fin := fo_q (R := PI P l0 l1 K K') (Q := fun a => ky a 0 0 0) (f := pA P (nI K) l0 l1) (g := pA P (nI K') l0 l1) 0 (N := l0) (fun a s u ha g => ?_) base l0 (Nat.le_refl _)
  · rw [Nat.zero_add] at fin
    exact fin
  · rw [Nat.zero_add] at g ⊢
    rw [Nat.zero_add]
    have fb := fo_q (R := PI P l0 l1 K K') (Q := fun b => ky a b 0 0) (f := pB P (nI K) l1 a) (g := pB P (nI K') l1 a) a (N := min (a + 4) l0 - a) (fun b s u hb g => ?_) (PI_mono (by show ky a 0 0 0 ≤ ky a a 0 0; unfold ky; omega) g) _ (Nat.le_refl _)
    · exact PI_mono (by show ky a _ 0 0 ≤ ky (a + 1) 0 0 0; unfold ky; omega) fb
    · have fc := fo_q (R := PI P l0 l1 K K') (Q := fun c => ky a (a + b) c 0) (f := pC P (nI K) l1 a (a + b)) (g := pC P (nI K') l1 a (a + b)) 0 (N := l1) (fun c s u hc g => ?_) (h := g) l1 (Nat.le_refl _)
      · rw [Nat.zero_add] at fc
        exact PI_mono (by show ky a (a + b) l1 0 ≤ ky a (a + (b + 1)) 0 0; unfold ky; omega) fc
      · rw [Nat.zero_add] at g ⊢
        rw [Nat.zero_add]
        have fe := fo_q (R := PI P l0 l1 K K') (Q := fun e => ky a (a + b) c e) (f := pD P (nI K) a (a + b) c) (g := pD P (nI K') a (a + b) c) c (N := min (c + 4) l1 - c) (fun e s u he g => ?_) (PI_mono (by show ky a (a + b) c 0 ≤ ky a (a + b) c c; unfold ky; omega) g) _ (Nat.le_refl _)
        · exact PI_mono (by show ky a (a + b) c _ ≤ ky a (a + b) (c + 1) 0; unfold ky; omega) fe
        · show PI P l0 l1 K K' (ky a (a + b) c (c + e) + 1) _ _
          have g : PI P l0 l1 K K' (ky a (a + b) c (c + e)) s u := g
          unfold pD
          by_cases q : P a (a + b) c (c + e) = true
          · rw [if_pos q, if_pos q]
            exact PI_met hK hK2 (by unfold ky; omega) ⟨by omega, by omega, by omega, by omega, by omega, by omega, q⟩ g
          · rw [if_neg q, if_neg q]
            exact PI_mono (Nat.le_succ _) g
section PP
variable {S : Nat → Nat → Nat} {W : Nat → Nat} {l : Nat → Nat → Nat} {w : Nat → Nat → Nat → Nat} {i : Nat}
/-- the ends of the phrase K -/
def phE (S : Nat → Nat → Nat) (W : Nat → Nat) (l : Nat → Nat → Nat) (w : Nat → Nat → Nat → Nat) (i K : Nat) : Nat → Nat := (phS S W l w i (nI K) (fun _ => 0)).2
theorem phE_ok (h0 : l 0 i ≤ 8) (h1 : l 1 i ≤ 8) {K : Nat} (hK : K < phN S W l w i) : PV (isPh (JJ S W l w i) (l 0 i)) (l 0 i) (l 1 i) (phE S W l w i K) := by
  have hN := phN_le (S := S) (W := W) (w := w) h0 h1
  have g := PI_all (P := isPh (JJ S W l w i) (l 0 i)) (K := K) (K' := K + 1) h0 h1 (by omega) (by omega) (fun _ => 0)
  have e := phS_1 (S := S) (W := W) (l := l) (w := w) (i := i) (wt := nI K) (F := fun _ => 0)
  exact (g.2.2.1 (by unfold phS at e; rw [e]; exact hK)).1
theorem phE_lt (h0 : l 0 i ≤ 8) (h1 : l 1 i ≤ 8) {K : Nat} (hK : K + 1 < phN S W l w i) : kf (phE S W l w i K) < kf (phE S W l w i (K + 1)) := by
  have hN := phN_le (S := S) (W := W) (w := w) h0 h1
  have g := PI_all (P := isPh (JJ S W l w i) (l 0 i)) (K := K) (K' := K + 1) h0 h1 (by omega) (by omega) (fun _ => 0)
  have e := phS_1 (S := S) (W := W) (l := l) (w := w) (i := i) (wt := nI K) (F := fun _ => 0)
  exact (g.2.2.2 (by unfold phS at e; rw [e]; exact hK)).2.2
end PP
theorem not_bit {s j : Nat} (hs : s < 256) (hj : j < 8) : (255 - s).testBit j = !s.testBit j := by
  have h : ∀ s, s < 256 → ∀ j, j < 8 → (255 - s).testBit j = !s.testBit j := by decide +kernel
  exact h s hs j hj
section PQ
variable {J : Nat → Nat} {l0 a b c e : Nat}
theorem isPh_iff (hJ : ∀ i, J i < 256) (hc : c ≤ e) (he : e < 8) (h : isPh J l0 a b c e = true) {i j : Nat} (hi : i < l0) (q : TB J i j) : (a ≤ i ∧ i ≤ b) ↔ (c ≤ j ∧ j ≤ e) := by
  obtain ⟨-, h2, h3⟩ := of_decide_eq_true h
  have hs : spF c (e + 1 - c) < 256 := spF_lt (by omega)
  obtain ⟨b1, b2⟩ := ioF_bit (J := J) (a := a) (b := b) (j := j) l0
  have hj : j < 8 := Classical.byContradiction fun z => by
    have := Nat.testBit_lt_two_pow (i := j) (Nat.lt_of_lt_of_le (hJ i) (Nat.pow_le_pow_right (n := 2) (by omega) (show 8 ≤ j by omega)))
    unfold TB at q
    rw [this] at q
    exact absurd q (by decide)
  have sb := spF_bit c j (e + 1 - c)
  constructor
  · intro z
    have x1 := b1.mpr ⟨i, hi, z, q⟩
    have x2 : ((ioF J a b l0).1 &&& (255 - spF c (e + 1 - c))).testBit j = false := by rw [h2, Nat.zero_testBit]
    rw [Nat.testBit_and, x1, Bool.true_and, not_bit hs hj, Bool.not_eq_false'] at x2
    have := sb.mp x2
    omega
  · intro z
    refine Classical.byContradiction fun z2 => ?_
    have x1 := b2.mpr ⟨i, hi, z2, q⟩
    have x2 : ((ioF J a b l0).2 &&& spF c (e + 1 - c)).testBit j = false := by rw [h3, Nat.zero_testBit]
    rw [Nat.testBit_and, x1, Bool.true_and] at x2
    have := sb.mpr ⟨z.1, by omega⟩
    rw [this] at x2
    exact absurd x2 (by decide)
theorem isPh_in (hJ : ∀ i, J i < 256) (hc : c ≤ e) (he : e < 8) (h : isPh J l0 a b c e = true) : ∃ i j, i < l0 ∧ j < 8 ∧ (a ≤ i ∧ i ≤ b) ∧ (c ≤ j ∧ j ≤ e) ∧ TB J i j := by
  obtain ⟨j, hj⟩ := bits_ex (of_decide_eq_true h).1
  obtain ⟨i, h1, h2, h3⟩ := (ioF_bit (J := J) (a := a) (b := b) (j := j) l0).1.mp hj
  have h4 := (isPh_iff hJ hc he h h1 h3).mp h2
  exact ⟨i, j, h1, by omega, h2, h4, h3⟩
end PQ
