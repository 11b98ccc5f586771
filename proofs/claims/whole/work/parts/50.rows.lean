/-! rows of both directions in one -/
def RX (M : Nat → Nat) (X : Nat → Nat → Nat) : Prop := ∀ D c, D < 2 → c < 240 → M (240 * D + c) = X D c
def sD (X : Nat → Nat → Nat) (D : Nat) (Y : Nat → Nat) : Nat → Nat → Nat := fun D' => if D' = D then Y else X D'
theorem sD_at {X : Nat → Nat → Nat} {D : Nat} {Y : Nat → Nat} : sD X D Y D = Y := if_pos rfl
theorem sD_sD {X : Nat → Nat → Nat} {D : Nat} {Y Z : Nat → Nat} : sD (sD X D Y) D Z = sD X D Z := funext fun D' => by
  unfold sD
  split <;> rfl
theorem sD_id {X : Nat → Nat → Nat} {D : Nat} : sD X D (X D) = X := funext fun D' => by
  unfold sD
  split
  · next e => rw [e]
  · rfl
theorem RX_up {M : Nat → Nat} {X : Nat → Nat → Nat} (g : RX M X) {D k v : Nat} (hD : D < 2) (hk : k < 240) : RX (va_up M (k + 240 * D) v) (sD X D (va_up (X D) (k + 0) v)) := by
  intro D' c hD' hc
  unfold sD
  by_cases e : D' = D
  · subst e
    rw [if_pos rfl]
    by_cases e2 : c = k
    · subst e2
      rw [show 240 * D' + c = c + 240 * D' by omega, up_sN, show c + 0 = c from rfl, up_sN]
    · rw [up_nN (by omega), up_nN (show c ≠ k + 0 from e2)]
      exact g D' c hD' hc
  · rw [if_neg e, up_nN (by omega)]
    exact g D' c hD' hc
theorem RX_mtI {D o : Nat} {wa : Nat → Nat} (hD : D < 2) (ho : o < 15) : ∀ k (M : Nat → Nat) (X : Nat → Nat → Nat), (∀ x, x < k → wa x < 15) → RX M X → RX (mtI (240 * D) o wa k M) (sD X D (mtI 0 o wa k (X D)))
  | 0, M, X, _, g => by
    show RX M (sD X D (X D))
    rw [sD_id]; exact g
  | k + 1, M, X, hw, g => by
    have i1 := RX_mtI hD ho k M X (fun x hx => hw x (by omega)) g
    have hk := hw k (by omega)
    have i2 := RX_up (k := 15 * wa k + o) (v := 1) i1 hD (by omega)
    rw [sD_at, sD_sD] at i2
    exact i2
theorem RX_mtO {D : Nat} {wa wb : Nat → Nat} {la : Nat} (hD : D < 2) (hla : ∀ x, x < la → wa x < 15) : ∀ j (M : Nat → Nat) (X : Nat → Nat → Nat), (∀ x, x < j → wb x < 15) → RX M X → RX (mtO (240 * D) wa la wb j M) (sD X D (mtO 0 wa la wb j (X D)))
  | 0, M, X, _, g => by
    show RX M (sD X D (X D))
    rw [sD_id]; exact g
  | j + 1, M, X, hw, g => by
    have hk := hw j (by omega)
    have i1 := RX_mtO hD hla j M X (fun x hx => hw x (by omega)) g
    have i2 := RX_up (k := 15 * 15 + wb j) (v := 1) i1 hD (by omega)
    rw [sD_at, sD_sD] at i2
    have i3 := RX_mtI (o := wb j) hD hk la _ _ hla i2
    rw [sD_at, sD_sD] at i3
    exact i3
/-- both directions' counts of meeting, one after the other -/
def bmF (t : Nat → Nat) (l : Nat → Nat → Nat) (w : Nat → Nat → Nat → Nat) (made : Nat) : Nat → Nat := ccF t (fun i C => mtO (240 * 1) (w 1 i) (l 1 i) (w 0 i) (l 0 i) (mtO (240 * 0) (w 0 i) (l 0 i) (w 1 i) (l 1 i) C)) made (fun _ => 0)
theorem bmF_RX {made : Nat} {t : Nat → Nat} {l : Nat → Nat → Nat} {w : Nat → Nat → Nat → Nat} {S : Nat → Nat → Nat} {W : Nat → Nat} (q : WF made t l w S W) : ∀ k, k ≤ made → RX (bmF t l w k) (fun D => cmC t l w D 0 k)
  | 0, _ => fun D c _ _ => rfl
  | k + 1, hk => by
    have ih := bmF_RX q k (by omega)
    by_cases ht : t k = 1
    · have e1 : bmF t l w (k + 1) = mtO (240 * 1) (w 1 k) (l 1 k) (w 0 k) (l 0 k) (mtO (240 * 0) (w 0 k) (l 0 k) (w 1 k) (l 1 k) (bmF t l w k)) := if_pos ht
      have a1 := RX_mtO (D := 0) (wa := w 0 k) (wb := w 1 k) (la := l 0 k) (by omega) (fun x hx => q.2.2.2.1 0 k x (by omega) (by omega) hx) (l 1 k) _ _ (fun x hx => q.2.2.2.1 1 k x (by omega) (by omega) hx) ih
      have a2 := RX_mtO (D := 1) (wa := w 1 k) (wb := w 0 k) (la := l 1 k) (by omega) (fun x hx => q.2.2.2.1 1 k x (by omega) (by omega) hx) (l 0 k) _ _ (fun x hx => q.2.2.2.1 0 k x (by omega) (by omega) hx) a1
      rw [e1]
      intro D c hD hc
      rw [a2 D c hD hc]
      rcases (show D = 0 ∨ D = 1 by omega) with rfl | rfl
      · show mtO 0 (w 0 k) (l 0 k) (w 1 k) (l 1 k) (cmC t l w 0 0 k) c = cmC t l w 0 0 (k + 1) c
        rw [show cmC t l w 0 0 (k + 1) = mtO 0 (w 0 k) (l 0 k) (w (1 - 0) k) (l (1 - 0) k) (cmC t l w 0 0 k) from if_pos ht]
      · show mtO 0 (w 1 k) (l 1 k) (w 0 k) (l 0 k) (cmC t l w 1 0 k) c = cmC t l w 1 0 (k + 1) c
        rw [show cmC t l w 1 0 (k + 1) = mtO 0 (w 1 k) (l 1 k) (w (1 - 1) k) (l (1 - 1) k) (cmC t l w 1 0 k) from if_pos ht]
    · have e1 : bmF t l w (k + 1) = bmF t l w k := if_neg ht
      rw [e1]
      intro D c hD hc
      rw [ih D c hD hc]
      show cmC t l w D 0 k c = cmC t l w D 0 (k + 1) c
      rw [show cmC t l w D 0 (k + 1) = cmC t l w D 0 k from if_neg ht]
