/-! the model finds what is joined: whole; one pair's joined cell -/
abbrev FX (h : Hp) (L J R : Nat → Nat) : Hp := va_up (va_up h 42 (aI 64 L)) 43 (aZ 64 (cut J R))
section MH
variable {d n : Nat} {h h' : Hp} {made th : Nat} {t : Nat → Nat} {l : Nat → Nat → Nat} {w : Nat → Nat → Nat → Nat} {S : Nat → Nat → Nat} {W : Nat → Nat} {F : Nat → Nat}
theorem MA_FX {L J R : Nat → Nat} (g : MA h made t l w S W) : MA (FX h L J R) made t l w S W := MA_43 (MA_42 g)
theorem FX_31 {L J R : Nat → Nat} (g31 : h 31 = MO made F th) : FX h L J R 31 = MO made F th := (up_n (by omega)).trans ((up_n (by omega)).trans g31)
theorem FX_43 {L J R : Nat → Nat} : FX h L J R 43 = aZ 64 (cut J R) := up_s
theorem Fm_FX {L J R : Nat → Nat} : Fm h (FX h L J R) := Fm_up (Fm_up Fm_rfl (by omega)) (by omega)
theorem L2_bits {i : Nat} (h0 : l 0 i ≤ 8) (h1 : l 1 i ≤ 8) (c : Nat) : (0 < L2F (lkF S W l w i 0) (lkF S W l w i 1) (l 1 i) (l 0 i) c ↔ ((BE S W l w i).2 (c / 8)).testBit (c % 8) = true) ∧ (L2F (lkF S W l w i 0) (lkF S W l w i 1) (l 1 i) (l 0 i) c = 3 ↔ jm (BE S W l w i).1 c = 1) := by
  rw [jm_1, (BE_bits h0 h1 _ _).1, (BE_bits h0 h1 _ _).2]
  unfold L2F L1F
  by_cases a : c % 8 < l 1 i ∧ lkF S W l w i 0 (c % 8) = c / 8 + 1
  · by_cases b : c / 8 < l 0 i ∧ lkF S W l w i 1 (c / 8) = c % 8 + 1
    · rw [if_pos a, if_pos b]
      exact ⟨⟨fun _ => Or.inl a, fun _ => by decide⟩, ⟨fun _ => ⟨a, b⟩, fun _ => rfl⟩⟩
    · rw [if_pos a, if_neg b]
      exact ⟨⟨fun _ => Or.inl a, fun _ => by decide⟩, ⟨fun c => absurd c (by decide), fun c => absurd c.2 b⟩⟩
  · by_cases b : c / 8 < l 0 i ∧ lkF S W l w i 1 (c / 8) = c % 8 + 1
    · rw [if_neg a, if_pos b]
      exact ⟨⟨fun _ => Or.inr b, fun _ => by decide⟩, ⟨fun c => absurd c (by decide), fun c => absurd c.1 a⟩⟩
    · rw [if_neg a, if_neg b]
      exact ⟨⟨fun c => absurd c (by decide), fun c => c.elim (fun c => absurd c a) (fun c => absurd c b)⟩, ⟨fun c => absurd c (by decide), fun c => absurd c.1 a⟩⟩
theorem mm_finds (q : WF made t l w S W) (g31 : h 31 = MO made F th) (ga : MA h made t l w S W) {i : Nat} (hi : i < made) : ∃ L R, Ev (d + 2) MX10_finds 0 (lv_args 0 [.ref 31, .int (nI i)]) [] n h (.inl none, n, FX h L (JJ S W l w i) R, 0, 0) := by
  have h0 := q.2.2.1 0 i (by omega) (by omega)
  have h1 := q.2.2.1 1 i (by omega) (by omega)
  obtain ⟨L0, b11⟩ := ga.2.2.2.2.2.2.2.2.2.2.1
  obtain ⟨R, b12⟩ := ga.2.2.2.2.2.2.2.2.2.2.2
  obtain ⟨q1, q2, q3, q4, q5⟩ := BE_ok (S := S) (W := W) (l := l) (w := w) (i9 := i) h0 h1
  refine ⟨L2F (lkF S W l w i 0) (lkF S W l w i 1) (l 1 i) (l 0 i), R, ?_⟩
  have G31 : va_up h 42 (aI 64 (L2F (lkF S W l w i 0) (lkF S W l w i 1) (l 1 i) (l 0 i))) 31 = MO made F th := (up_n (by omega)).trans g31
  refine ev_iconst dX10_finds_0 ci0 ?_
  refine ev_istore_n dX10_finds_1 (Nat.le_of_ble_eq_true rfl) ?_
  refine ev_heap (h2 := va_up h 42 (aI 64 (fun x => if x < 0 then 0 else L0 x))) (by rw [show (fun x => if x < 0 then 0 else L0 x) = L0 from funext fun c => if_neg (Nat.not_lt_zero c)]; exact (up_id b11).symm) ?_
  refine ev_sub ?_ (lm_fA (F := F) (th := th) (i := i) g31 ?_ 64 0 (by omega))
  · repeat (first | exact trivial | refine ⟨rfl, ?_⟩)
  · refine ev_iconst dX10_finds_21 ci0 ?_
    refine ev_istore_n dX10_finds_22 (Nat.le_of_ble_eq_true rfl) ?_
    rw [← L1_0 (f := lkF S W l w i 0)]
    refine ev_sub ?_ (lm_fB (F := F) (th := th) (i := i) q g31 ga hi ?_ (l 1 i) 0 (by omega))
    · repeat (first | exact trivial | refine ⟨rfl, ?_⟩)
    · refine ev_iconst dX10_finds_67 ci0 ?_
      refine ev_istore_n dX10_finds_68 (Nat.le_of_ble_eq_true rfl) ?_
      rw [← L2_0 (f := lkF S W l w i 0) (g := lkF S W l w i 1)]
      refine ev_sub ?_ (lm_fC (F := F) (th := th) (i := i) q g31 ga hi ?_ (l 0 i) 0 (by omega))
      · repeat (first | exact trivial | refine ⟨rfl, ?_⟩)
      · refine ev_iconst dX10_finds_113 ci0 ?_
        refine ev_istore_n dX10_finds_114 (Nat.le_of_ble_eq_true rfl) ?_
        refine ev_heap (h2 := va_up (va_up h 42 (aI 64 (L2F (lkF S W l w i 0) (lkF S W l w i 1) (l 1 i) (l 0 i)))) 43 (aZ 64 (fun x => if x < 0 then jm (BE S W l w i).1 x else R x))) (by rw [show (fun x => if x < 0 then jm (BE S W l w i).1 x else R x) = R from funext fun c => if_neg (Nat.not_lt_zero c)]; exact (up_id ((up_n (by omega)).trans b12)).symm) ?_
        refine ev_sub ?_ (lm_fD (F := F) (th := th) (i := i) (L := L2F (lkF S W l w i 0) (lkF S W l w i 1) (l 1 i) (l 0 i)) G31 up_s (fun c => L2_le _ _ _ _ c) (fun c _ => (L2_bits h0 h1 c).2) ?_ 64 0 (by omega))
        · repeat (first | exact trivial | refine ⟨rfl, ?_⟩)
        · refine ev_iconst dX10_finds_148 ci1 ?_
          refine ev_istore_n dX10_finds_149 (Nat.le_of_ble_eq_true rfl) ?_
          refine ev_sub ?_ (lm_fW (F := F) (th := th) (i := i) (E := (BE S W l w i).2) (L := L2F (lkF S W l w i 0) (lkF S W l w i 1) (l 1 i) (l 0 i)) G31 up_s (fun c => L2_le _ _ _ _ c) (fun c _ => (L2_bits h0 h1 c).1) q4 65 (BE S W l w i).1 (by omega) q1 q3)
          repeat (first | exact trivial | refine ⟨rfl, ?_⟩)
end MH
