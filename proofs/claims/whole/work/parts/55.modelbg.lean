/-! the model begins -/
section MR
variable {d n : Nat} {h h' : Hp} {made th : Nat} {t : Nat → Nat} {l : Nat → Nat → Nat} {w : Nat → Nat → Nat → Nat} {S : Nat → Nat → Nat} {W : Nat → Nat} {F : Nat → Nat}
theorem bmF_le (k x : Nat) : bmF t l w k x ≤ 1 := ccF_le1 (fun i C hC k => mtO_le (mtO_le hC _) _ k) k x
theorem MA_sh (g : MA h made t l w S W) {sh' : Nat → Nat} {S' : Nat → Nat → Nat} (q : RX sh' S') : MA (va_up h 38 (aI 480 sh')) made t l w S' W := by
  obtain ⟨⟨a1, b1, c1⟩, ⟨a2, b2, c2⟩, ⟨a3, b3, c3⟩, ⟨a4, b4, c4⟩, ⟨a5, b5, c5⟩, ⟨a6, b6, c6⟩, ⟨a7, b7, c7⟩, ⟨a8, b8⟩, ⟨a9, b9⟩, ⟨a10, b10⟩, ⟨a11, b11⟩, ⟨a12, b12⟩⟩ := g
  exact ⟨⟨a1, (up_n (by omega)).trans b1, c1⟩, ⟨a2, (up_n (by omega)).trans b2, c2⟩, ⟨a3, (up_n (by omega)).trans b3, c3⟩, ⟨a4, (up_n (by omega)).trans b4, c4⟩, ⟨a5, (up_n (by omega)).trans b5, c5⟩, ⟨a6, (up_n (by omega)).trans b6, c6⟩, ⟨sh', up_s, q⟩, ⟨a8, (up_n (by omega)).trans b8⟩, ⟨a9, (up_n (by omega)).trans b9⟩, ⟨a10, (up_n (by omega)).trans b10⟩, ⟨a11, (up_n (by omega)).trans b11⟩, ⟨a12, (up_n (by omega)).trans b12⟩⟩
theorem mm_begin (q : WF made t l w S W) (g : MS h th made t l w S W) : ∃ h', Ev (d + 2) MX10_begin 0 (lv_args 0 [.ref 31]) [] n h (.inl (some (.int (nI (szN (nwS (beC t l w made) S 0) 240 + szN (nwS (beC t l w made) S 1) 240)))), n, h', 0, 0) ∧ MS h' 0 made t l w (nwS (beC t l w made) S) W ∧ Fm h h' := by
  obtain ⟨⟨F, g31⟩, ga⟩ := g
  obtain ⟨sh, b7, c7⟩ := ga.2.2.2.2.2.2.1
  obtain ⟨C, b8⟩ := ga.2.2.2.2.2.2.2.1
  have rx : RX (bmF t l w made) (beC t l w made) := bmF_RX q made (Nat.le_refl _)
  have e9 : szN (nwS (beC t l w made) S 0) 240 + szN (nwS (beC t l w made) S 1) 240 = sumN (bmF t l w made) 480 := by
    rw [sumN_two rx]
    show szN (apS (cmC t l w 0 0 made) 0 16 (S 0)) 240 + szN (apS (cmC t l w 1 0 made) 0 16 (S 1)) 240 = _
    rw [szN_ap (fun k => cmC_le 0 0 made k), szN_ap (fun k => cmC_le 1 0 made k)]
    rfl
  rw [e9]
  have g1 : MA (va_up h 31 (MO made F 0)) made t l w S W := MA_31 ga
  have g2 : MA (va_up (va_up h 31 (MO made F 0)) 39 (aL 480 (bmF t l w made))) made t l w S W := MA_39 g1
  refine ⟨va_up (va_up (va_up h 31 (MO made F 0)) 39 (aL 480 (bmF t l w made))) 38 (aI 480 (apS (bmF t l w made) 0 32 sh)), ?_, ⟨⟨F, (up_n (by omega)).trans ((up_n (by omega)).trans up_s)⟩, MA_sh g2 (RX_apS rx)⟩, Fm_up (Fm_up (Fm_up Fm_rfl (by omega)) (by omega)) (by omega)⟩
  first | refine ev_aload_n dX10_begin_0 rfl ?_ | refine ev_aload_nN dX10_begin_0 rfl ?_
  refine ev_iconst dX10_begin_1 ci0 ?_
  refine ev_putfield dX10_begin_2 fl_RX10_48 (fit_10_17 _) (fun q => absurd q (by decide)) (by repeat (first | assumption | exact up_s | refine (up_n (by omega)).trans ?_)) (Nat.le_of_ble_eq_true rfl) ?_
  first | refine ev_aload_n dX10_begin_5 rfl ?_ | refine ev_aload_nN dX10_begin_5 rfl ?_
  refine ev_V0v dX10_begin_6 st_RX10_84 na_X10_clears (Nat.le_of_ble_eq_true rfl) (Nat.le_of_ble_eq_true rfl) (by repeat (first | assumption | exact up_s | refine (up_n (by omega)).trans ?_)) rfl (mm_clears (C := C) (F := F) (th := 0) (made := made) up_s ((up_n (by omega)).trans b8)) ?_
  refine ev_iconst dX10_begin_9 ci0 ?_
  refine ev_istore_n dX10_begin_10 (Nat.le_of_ble_eq_true rfl) ?_
  refine ev_heap (h2 := va_up (va_up h 31 (MO made F 0)) 39 (aL 480 (bmF t l w 0))) rfl ?_
  refine ev_sub ?_ (lm_bp (h := va_up h 31 (MO made F 0)) (F := F) (th := 0) q up_s g1 ?_ made 0 (by omega))
  · repeat (first | exact trivial | refine ⟨rfl, ?_⟩)
  · refine ev_iconst dX10_begin_46 ci0 ?_
    refine ev_istore_n dX10_begin_47 (Nat.le_of_ble_eq_true rfl) ?_
    refine ev_iconst dX10_begin_48 ci0 ?_
    refine ev_istore_n dX10_begin_49 (Nat.le_of_ble_eq_true rfl) ?_
    refine ev_heap (h2 := va_up (va_up (va_up h 31 (MO made F 0)) 39 (aL 480 (bmF t l w made))) 38 (aI 480 (apS (bmF t l w made) 0 0 sh))) (up_id ((up_n (by omega)).trans ((up_n (by omega)).trans b7))).symm ?_
    refine ev_sub ?_ (lm_br (F := F) (th := 0) (made := made) (h := va_up (va_up h 31 (MO made F 0)) 39 (aL 480 (bmF t l w made))) ((up_n (by omega)).trans up_s) up_s (bmF_le made) 32 0 (by omega))
    repeat (first | exact trivial | refine ⟨rfl, ?_⟩)
end MR
