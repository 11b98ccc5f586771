/-! making sentences and pairs -/
theorem ev_N0vS {d : Nat} {M : MI} {pc : Nat} {ls : List (Nat × Value)} {st : List Value} {n : Nat} {h : Hp} {idx b : Nat} {M2 : MI} {n1 : Nat} {h1 : Hp}  {r : Option Value ⊕ String} {n2 : Nat} {h2 : Hp} {c1 e1 c e : Nat} (g0 : decode (mB M) pc = .ok (.invokespecial idx, 3)) (g1 : am_SN (mC M) idx M2) (g2 : am_NA M2 0) (g3 : csum st ≤ 8) (g4 : csum (.ref b :: []) ≤ mL M2) (gc : c1 ≤ c) (ge : e1 ≤ e) (k0 : Ev d M2 0 (lv_args 0 (.ref b :: [])) [] n h (.inl none, n1, h1, c1, e1)) (k1 : Ev (d + 1) M (pc + 3) ls st n1 h1 (r, n2, h2, c - c1, e - e1)) : Ev (d + 1) M pc ls (.ref b :: st) n h (r, n2, h2, c, e) := ev_N0vK g0 g1 g2 g3 g4 (Nat.add_sub_cancel' gc) (Nat.add_sub_cancel' ge) k0 k1
theorem ev_I1vS {d : Nat} {M : MI} {pc : Nat} {ls : List (Nat × Value)} {st : List Value} {n : Nat} {h : Hp} {idx b : Nat} {M2 : MI} {n1 : Nat} {h1 : Hp} {x0 : Value} {r : Option Value ⊕ String} {n2 : Nat} {h2 : Hp} {c1 e1 c e : Nat} (g0 : decode (mB M) pc = .ok (.invokespecial idx, 3)) (g1 : am_SI (mC M) idx M2) (g2 : am_NA M2 1) (g3 : csum st ≤ 8) (g4 : csum (.ref b :: [x0]) ≤ mL M2) (gc : c1 ≤ c) (ge : e1 ≤ e) (k0 : Ev d M2 0 (lv_args 0 (.ref b :: [x0])) [] n h (.inl none, n1, h1, c1, e1)) (k1 : Ev (d + 1) M (pc + 3) ls st n1 h1 (r, n2, h2, c - c1, e - e1)) : Ev (d + 1) M pc ls (x0 :: .ref b :: st) n h (r, n2, h2, c, e) := ev_I1vK g0 g1 g2 g3 g4 (Nat.add_sub_cancel' gc) (Nat.add_sub_cancel' ge) k0 k1
theorem ev_I0vS {d : Nat} {M : MI} {pc : Nat} {ls : List (Nat × Value)} {st : List Value} {n : Nat} {h : Hp} {idx b : Nat} {M2 : MI} {n1 : Nat} {h1 : Hp}  {r : Option Value ⊕ String} {n2 : Nat} {h2 : Hp} {c1 e1 c e : Nat} (g0 : decode (mB M) pc = .ok (.invokespecial idx, 3)) (g1 : am_SI (mC M) idx M2) (g2 : am_NA M2 0) (g3 : csum st ≤ 8) (g4 : csum (.ref b :: []) ≤ mL M2) (gc : c1 ≤ c) (ge : e1 ≤ e) (k0 : Ev d M2 0 (lv_args 0 (.ref b :: [])) [] n h (.inl none, n1, h1, c1, e1)) (k1 : Ev (d + 1) M (pc + 3) ls st n1 h1 (r, n2, h2, c - c1, e - e1)) : Ev (d + 1) M pc ls (.ref b :: st) n h (r, n2, h2, c, e) := ev_I0vK g0 g1 g2 g3 g4 (Nat.add_sub_cancel' gc) (Nat.add_sub_cancel' ge) k0 k1
theorem ev_V0S {d : Nat} {M : MI} {pc : Nat} {ls : List (Nat × Value)} {st : List Value} {n : Nat} {h : Hp} {idx b : Nat} {M2 : MI} {n1 : Nat} {h1 : Hp} {ci : Nat} {fs : List Value}  {v : Value} {r : Option Value ⊕ String} {n2 : Nat} {h2 : Hp} {c1 e1 c e : Nat} (g0 : decode (mB M) pc = .ok (.invokevirtual idx, 3)) (g1 : am_SV (mC M) idx M2) (g2 : am_NA M2 0) (g3 : csum st ≤ 8) (g4 : csum (.ref b :: []) ≤ mL M2) (g5 : h b = .inr (ci, fs)) (g6 : am_CN ci = (mY M2).cls) (gc : c1 ≤ c) (ge : e1 ≤ e) (k0 : Ev d M2 0 (lv_args 0 (.ref b :: [])) [] n h (.inl (some v), n1, h1, c1, e1)) (k1 : Ev (d + 1) M (pc + 3) ls (v :: st) n1 h1 (r, n2, h2, c - c1, e - e1)) : Ev (d + 1) M pc ls (.ref b :: st) n h (r, n2, h2, c, e) := ev_V0K g0 g1 g2 g3 g4 g5 g6 (Nat.add_sub_cancel' gc) (Nat.add_sub_cancel' ge) k0 k1
theorem ev_V2vS {d : Nat} {M : MI} {pc : Nat} {ls : List (Nat × Value)} {st : List Value} {n : Nat} {h : Hp} {idx b : Nat} {M2 : MI} {n1 : Nat} {h1 : Hp} {ci : Nat} {fs : List Value} {x0 x1 : Value} {r : Option Value ⊕ String} {n2 : Nat} {h2 : Hp} {c1 e1 c e : Nat} (g0 : decode (mB M) pc = .ok (.invokevirtual idx, 3)) (g1 : am_SV (mC M) idx M2) (g2 : am_NA M2 2) (g3 : csum st ≤ 8) (g4 : csum (.ref b :: [x0, x1]) ≤ mL M2) (g5 : h b = .inr (ci, fs)) (g6 : am_CN ci = (mY M2).cls) (gc : c1 ≤ c) (ge : e1 ≤ e) (k0 : Ev d M2 0 (lv_args 0 (.ref b :: [x0, x1])) [] n h (.inl none, n1, h1, c1, e1)) (k1 : Ev (d + 1) M (pc + 3) ls st n1 h1 (r, n2, h2, c - c1, e - e1)) : Ev (d + 1) M pc ls (x1 :: x0 :: .ref b :: st) n h (r, n2, h2, c, e) := ev_V2vK g0 g1 g2 g3 g4 g5 g6 (Nat.add_sub_cancel' gc) (Nat.add_sub_cancel' ge) k0 k1
theorem ev_newS {d : Nat} {M : MI} {pc : Nat} {ls : List (Nat × Value)} {st : List Value} {n : Nat} {h : Hp} {idx ci N : Nat} {fs : List Value} {r : Option Value ⊕ String} {n2 : Nat} {h2 : Hp} {c e : Nat} (g0 : decode (mB M) pc = .ok (.new idx, 3)) (g1 : am_NW (mC M) idx ci N fs) (gc : 1 ≤ c) (ge : N ≤ e) (k0_ : Ev d M (pc + 3) ls (.ref n :: st) (n + 1) (va_up h n (.inr (ci, fs))) (r, n2, h2, c - 1, e - N)) : Ev d M (pc) ls (st) n (h) (r, n2, h2, c, e) := by
  have z := ev_new g0 g1 k0_
  rw [Nat.add_sub_cancel' gc, Nat.add_sub_cancel' ge] at z
  exact z
theorem ev_newarray0S {d : Nat} {M : MI} {pc : Nat} {ls : List (Nat × Value)} {st : List Value} {n : Nat} {h : Hp} {x : Int32} {N : Nat} {r : Option Value ⊕ String} {n2 : Nat} {h2 : Hp} {c e : Nat} (g0 : decode (mB M) pc = .ok (.newarray .int, 2)) (g1 : x = nI N) (g2 : N < 65536) (gc : 1 ≤ c) (ge : N ≤ e) (k0_ : Ev d M (pc + 2) ls (.ref n :: st) (n + 1) (va_up h n (.inl (0, N, .inl (fun _ => 0)))) (r, n2, h2, c - 1, e - N)) : Ev d M (pc) ls (.int x :: st) n (h) (r, n2, h2, c, e) := by
  have z := ev_newarray0 g0 g1 g2 k0_
  rw [Nat.add_sub_cancel' gc, Nat.add_sub_cancel' ge] at z
  exact z
theorem ev_newarray1S {d : Nat} {M : MI} {pc : Nat} {ls : List (Nat × Value)} {st : List Value} {n : Nat} {h : Hp} {x : Int32} {N : Nat} {r : Option Value ⊕ String} {n2 : Nat} {h2 : Hp} {c e : Nat} (g0 : decode (mB M) pc = .ok (.newarray .long, 2)) (g1 : x = nI N) (g2 : N < 65536) (gc : 1 ≤ c) (ge : N ≤ e) (k0_ : Ev d M (pc + 2) ls (.ref n :: st) (n + 1) (va_up h n (.inl (1, N, .inr (.inl (fun _ => 0))))) (r, n2, h2, c - 1, e - N)) : Ev d M (pc) ls (.int x :: st) n (h) (r, n2, h2, c, e) := by
  have z := ev_newarray1 g0 g1 g2 k0_
  rw [Nat.add_sub_cancel' gc, Nat.add_sub_cancel' ge] at z
  exact z
theorem ev_anewarrayS {d : Nat} {M : MI} {pc : Nat} {ls : List (Nat × Value)} {st : List Value} {n : Nat} {h : Hp} {x : Int32} {N idx : Nat} {r : Option Value ⊕ String} {n2 : Nat} {h2 : Hp} {c e : Nat} (g0 : decode (mB M) pc = .ok (.anewarray idx, 3)) (g1 : Cond.classLink (mC M) idx "Glosspair$SentencePair" ∈ am_ws) (g2 : x = nI N) (g3 : N < 65536) (gc : 1 ≤ c) (ge : N ≤ e) (k0_ : Ev d M (pc + 3) ls (.ref n :: st) (n + 1) (va_up h n (.inl (3, N, .inr (.inr (.inr (.inr (fun _ => none))))))) (r, n2, h2, c - 1, e - N)) : Ev d M (pc) ls (.int x :: st) n (h) (r, n2, h2, c, e) := by
  have z := ev_anewarray g0 g1 g2 g3 k0_
  rw [Nat.add_sub_cancel' gc, Nat.add_sub_cancel' ge] at z
  exact z
theorem ev_cloneFWS {d : Nat} {M : MI} {pc : Nat} {ls : List (Nat × Value)} {st : List Value} {n : Nat} {h : Hp} {idx : Nat} {r : Option Value ⊕ String} {n2 : Nat} {h2 : Hp} {c e : Nat} (g0 : decode (mB M) pc = .ok (.invokevirtual idx, 3)) (g1 : Cond.methodLink (mC M) idx ⟨"[I", "clone", "()Ljava/lang/Object;"⟩ ∈ am_ws) (g2 : csum st ≤ 8) (gc : 1 ≤ c) (ge : 5 ≤ e) (k0_ : Ev d M (pc + 3) ls (.ref n :: st) (n + 1) (va_up h n (.inl (0, 5, .inl am_fw))) (r, n2, h2, c - 1, e - 5)) : Ev d M (pc) ls (.ref 1 :: st) n (h) (r, n2, h2, c, e) := by
  have z := ev_cloneFW g0 g1 g2 k0_
  rw [Nat.add_sub_cancel' gc, Nat.add_sub_cancel' ge] at z
  exact z
theorem aI_z {N : Nat} : (.inl (0, N, .inl (fun _ => 0)) : va_E) = aI N (fun _ => 0) := by rw [show (fun _ : Nat => (0 : Int32)) = fun _ => nI 0 from by rw [nI_z]]
section MK
variable {d n : Nat} {h h' : Hp} {made : Nat} {t t' : Nat → Nat} {l l' : Nat → Nat → Nat} {w w' : Nat → Nat → Nat → Nat} {S : Nat → Nat → Nat} {W : Nat → Nat}
abbrev mkS (h : Hp) (b n : Nat) : Hp := va_up (va_up h n (aI 8 (fun _ => 0))) b (.inr (6, [.ref n, .int 0]))
theorem m6_init {b : Nat} (g : h b = .inr (6, [.null, .int 0])) (hb : b < n) (hb2 : 2 ≤ b) : Ev d MX6_init 0 (lv_args 0 [.ref b]) [] n h (.inl none, n + 1, mkS h b n, 1, 8) := by
  first | refine ev_aload_n dX6_init_0 rfl ?_ | refine ev_aload_nN dX6_init_0 rfl ?_
  refine ev_objInit dX6_init_1 (am_in 196 (by decide +kernel) rfl) (Nat.le_of_ble_eq_true rfl) ?_
  first | refine ev_aload_n dX6_init_4 rfl ?_ | refine ev_aload_nN dX6_init_4 rfl ?_
  refine ev_bipush dX6_init_5 bp8 ?_
  refine ev_newarray0S dX6_init_7 rfl (by decide) (by decide) (by decide) ?_
  refine ev_putfield dX6_init_9 fl_RX6_9 (fit_6_0 _) (fun _ => ⟨rfl, rfl⟩) (by repeat (first | assumption | exact up_s | refine (up_n (by omega)).trans ?_)) (Nat.le_of_ble_eq_true rfl) ?_
  refine ev_heap (congrArg (fun e => va_up (va_up h n e) b (.inr (6, [.ref n, .int 0]))) aI_z) ?_
  exact ev_vreturnE dX6_init_12 rfl (by rfl)
abbrev mkP (h : Hp) (b : Nat) : Hp := va_up (mkS (va_up (va_up (mkS (va_up h (b + 1) (.inr (6, [.null, .int 0]))) (b + 1) (b + 2)) b (.inr (7, [.ref (b + 1), .null, .int 0]))) (b + 3) (.inr (6, [.null, .int 0]))) (b + 3) (b + 4)) b (.inr (7, [.ref (b + 1), .ref (b + 3), .int 0]))
theorem mkP_o {b a : Nat} (q : a < b ∨ b + 4 < a) : mkP h b a = h a :=
  (up_n (by omega)).trans ((up_n (by omega)).trans ((up_n (by omega)).trans ((up_n (by omega)).trans ((up_n (by omega)).trans ((up_n (by omega)).trans ((up_n (by omega)).trans (up_n (by omega))))))))
theorem mkP_Pr {b : Nat} : Pr (mkP h b) b 0 0 (fun _ => 0) 0 (fun _ => 0) := by
  refine ⟨up_s.trans (by rw [nI_z]), ⟨?_, ?_, by omega, fun j hj => absurd hj (Nat.not_lt_zero _)⟩, ⟨?_, ?_, by omega, fun j hj => absurd hj (Nat.not_lt_zero _)⟩⟩
  · refine (up_n (by omega)).trans ((up_n (by omega)).trans ((up_n (by omega)).trans ((up_n (by omega)).trans ((up_n (by omega)).trans (up_s.trans ?_)))))
    rw [nI_z]
  · exact (up_n (by omega)).trans ((up_n (by omega)).trans ((up_n (by omega)).trans ((up_n (by omega)).trans ((up_n (by omega)).trans ((up_n (by omega)).trans up_s)))))
  · refine (up_n (by omega)).trans (up_s.trans ?_)
    rw [nI_z]
  · exact (up_n (by omega)).trans ((up_n (by omega)).trans up_s)
theorem m7_init {b : Nat} (g : h b = .inr (7, [.null, .null, .int 0])) (hb2 : 2 ≤ b) : Ev (d + 1) MX7_init 0 (lv_args 0 [.ref b]) [] (b + 1) h (.inl none, b + 5, mkP h b, 4, 20) := by
  first | refine ev_aload_n dX7_init_0 rfl ?_ | refine ev_aload_nN dX7_init_0 rfl ?_
  refine ev_objInit dX7_init_1 (am_in 190 (by decide +kernel) rfl) (Nat.le_of_ble_eq_true rfl) ?_
  first | refine ev_aload_n dX7_init_4 rfl ?_ | refine ev_aload_nN dX7_init_4 rfl ?_
  refine ev_newS dX7_init_5 nw_RX7_7 (by decide) (by decide) ?_
  refine ev_dup dX7_init_8 rfl ?_
  refine ev_N0vS dX7_init_9 st_RX7_9 na_X6_init (Nat.le_of_ble_eq_true rfl) (Nat.le_of_ble_eq_true rfl) (by decide) (by decide) (m6_init (b := b + 1) up_s (by omega) (by omega)) ?_
  refine ev_putfield dX7_init_12 fl_RX7_10 (fit_7_0 _) (fun _ => ⟨rfl, rfl⟩) (by repeat (first | assumption | exact up_s | refine (up_n (by omega)).trans ?_)) (Nat.le_of_ble_eq_true rfl) ?_
  first | refine ev_aload_n dX7_init_15 rfl ?_ | refine ev_aload_nN dX7_init_15 rfl ?_
  refine ev_newS dX7_init_16 nw_RX7_7 (by decide) (by decide) ?_
  refine ev_dup dX7_init_19 rfl ?_
  refine ev_N0vS dX7_init_20 st_RX7_9 na_X6_init (Nat.le_of_ble_eq_true rfl) (Nat.le_of_ble_eq_true rfl) (by decide) (by decide) (m6_init (b := b + 3) up_s (by omega) (by omega)) ?_
  refine ev_putfield dX7_init_23 fl_RX7_16 (fit_7_1 _) (fun _ => ⟨rfl, rfl⟩) (by repeat (first | assumption | exact up_s | refine (up_n (by omega)).trans ?_)) (Nat.le_of_ble_eq_true rfl) ?_
  exact ev_vreturnE dX7_init_26 rfl (by rfl)
theorem pp_lt {i j : Nat} (q : i < j) : pp i + 5 ≤ pp j := by
  unfold pp
  split <;> split <;> omega
theorem pp_s : pp (made + 1) = 35 + 5 * made := (if_neg (by omega)).trans (by omega)
def lN1 (l : Nat → Nat → Nat) (made : Nat) : Nat → Nat → Nat := fun D i => if i = made + 1 then 0 else l D i
def wN1 (w : Nat → Nat → Nat → Nat) (made : Nat) : Nat → Nat → Nat → Nat := fun D i => if i = made + 1 then (fun _ => 0) else w D i
theorem m9_pairNew (g : GS h made t l w S W) (h0 : 0 < l 0 made) (h1 : 0 < l 1 made) (hm20 : made < 20) : ∃ h', Ev (d + 3) MX9_pair 0 (lv_args 0 [.ref 2]) [] (35 + 5 * made) h (.inl (some (.int (nI made))), 35 + 5 * made + 5, h', 5, 23) ∧ GS h' (made + 1) (va_up t made 1) (lN1 l made) (wN1 w made) S W ∧ Fr h h' := by
  have g1 := g.1
  have c1 := g.2.1.1
  have hp := g.2.2.2.1
  have hp1 := hp.1
  have hs2 := hp.2.1.1
  have hs3 := hp.2.2.1
  have hm := pp_gap made
  have hn : pp made + 5 ≤ 35 + 5 * made := by have := pp_lt (show made < made + 1 by omega); rw [pp_s] at this; exact this
  have b0 := hp.2.1.2.2.1
  have b1 := hp.2.2.2.2.1
  have e2 : bI (20 ≤ made) = 0 := bI_f (by omega)
  have ad := m1_add (d := d + 1) (n := 35 + 5 * made) g.2.1 hm20 hp
  have es : sumN (va_up t made 1) (made + 1) = sumN t made + 1 := by
    show sumN (va_up t made 1) made + va_up t made 1 made = _
    rw [show va_up t made 1 made = 1 from if_pos rfl, sumN_congr (f := va_up t made 1) (g := t) (fun j hj => if_neg (by omega))]
  rw [← es] at ad
  generalize hh1 : va_up (va_up (va_up h 4 (aQ 20 (va_up (fun i => if i < made then some (pp i) else none) made (some (pp made))))) (pp made) (.inr (7, [.ref (pp made + 1), .ref (pp made + 3), .int (nI 1)]))) 3 (.inr (1, [.ref 4, .int (nI (made + 1)), .int (nI (sumN (va_up t made 1) (made + 1)))])) = ha at ad
  have eo : ∀ a, a ≠ 3 → a ≠ 4 → a ≠ pp made → ha a = h a := fun a q1 q2 q3 => by rw [← hh1]; exact (up_n q1).trans ((up_n q3).trans (up_n q2))
  have e3 : ha 3 = .inr (1, [.ref 4, .int (nI (made + 1)), .int (nI (sumN (va_up t made 1) (made + 1)))]) := by rw [← hh1]; exact up_s
  have e4 : ha 4 = aQ 20 (va_up (fun i => if i < made then some (pp i) else none) made (some (pp made))) := by rw [← hh1]; exact (up_n (by omega)).trans ((up_n (by omega)).trans up_s)
  have e5 : ha (pp made) = .inr (7, [.ref (pp made + 1), .ref (pp made + 3), .int (nI 1)]) := by rw [← hh1]; exact (up_n (by omega)).trans up_s
  have g2a := (eo 2 (by omega) (by omega) (by omega)).trans g1
  have ho : ∀ a, a ≠ 2 → a < 35 + 5 * made → va_up (mkP (va_up ha (35 + 5 * made) (.inr (7, [.null, .null, .int 0]))) (35 + 5 * made)) 2 (.inr (9, [.ref 3, .ref 5, .ref 18, .ref 22, .ref 24, .ref (35 + 5 * made)])) a = ha a := fun a q1 q2 => (up_n q1).trans ((mkP_o (by omega)).trans (up_n (by omega)))
  have g2b : mkP (va_up ha (35 + 5 * made) (.inr (7, [.null, .null, .int 0]))) (35 + 5 * made) 2 = .inr (9, [.ref 3, .ref 5, .ref 18, .ref 22, .ref 24, .ref (pp made)]) := (mkP_o (by omega)).trans ((up_n (by omega)).trans g2a)
  have ho2 : ∀ a, a ≠ 2 → a ≠ 3 → a ≠ 4 → a ≠ pp made → a < 35 + 5 * made → va_up (mkP (va_up ha (35 + 5 * made) (.inr (7, [.null, .null, .int 0]))) (35 + 5 * made)) 2 (.inr (9, [.ref 3, .ref 5, .ref 18, .ref 22, .ref 24, .ref (35 + 5 * made)])) a = h a := fun a q1 q2 q3 q4 q5 => (ho a q1 q5).trans (eo a q2 q3 q4)
  refine ⟨va_up (mkP (va_up ha (35 + 5 * made) (.inr (7, [.null, .null, .int 0]))) (35 + 5 * made)) 2 (.inr (9, [.ref 3, .ref 5, .ref 18, .ref 22, .ref 24, .ref (35 + 5 * made)])), ?_, ?_, ?_⟩
  · first | refine ev_aload_n dX9_pair_0 rfl ?_ | refine ev_aload_nN dX9_pair_0 rfl ?_
    refine ev_getfield dX9_pair_1 fl_RX9_47 (by repeat (first | assumption | exact up_s | refine (up_n (by omega)).trans ?_)) rfl ?_
    refine ev_iconst dX9_pair_4 ci0 ?_
    refine ev_V1 dX9_pair_5 st_RX9_65 na_X7_ofSide (Nat.le_of_ble_eq_true rfl) (Nat.le_of_ble_eq_true rfl) (by repeat (first | assumption | exact up_s | refine (up_n (by omega)).trans ?_)) rfl (m7_of0 hp) ?_
    refine ev_V0 dX9_pair_8 st_RX9_84 na_X6_length (Nat.le_of_ble_eq_true rfl) (Nat.le_of_ble_eq_true rfl) (by repeat (first | assumption | exact up_s | refine (up_n (by omega)).trans ?_)) rfl (m6_length hp.2.1) ?_
    refine ev_if_eqF dX9_pair_11 28 (by decide) (by first | assumption | exact nI_ne0 (by omega) (by omega) | decide) ?_
    first | refine ev_aload_n dX9_pair_14 rfl ?_ | refine ev_aload_nN dX9_pair_14 rfl ?_
    refine ev_getfield dX9_pair_15 fl_RX9_47 (by repeat (first | assumption | exact up_s | refine (up_n (by omega)).trans ?_)) rfl ?_
    refine ev_iconst dX9_pair_18 ci1 ?_
    refine ev_V1 dX9_pair_19 st_RX9_65 na_X7_ofSide (Nat.le_of_ble_eq_true rfl) (Nat.le_of_ble_eq_true rfl) (by repeat (first | assumption | exact up_s | refine (up_n (by omega)).trans ?_)) rfl (m7_of1 hp) ?_
    refine ev_V0 dX9_pair_22 st_RX9_84 na_X6_length (Nat.le_of_ble_eq_true rfl) (Nat.le_of_ble_eq_true rfl) (by repeat (first | assumption | exact up_s | refine (up_n (by omega)).trans ?_)) rfl (m6_length hp.2.2) ?_
    refine ev_if_neT (tgt := 38) dX9_pair_25 (by decide) (by first | assumption | exact nI_ne0 (by omega) (by omega) | decide) ?_
    first | refine ev_aload_n dX9_pair_38 rfl ?_ | refine ev_aload_nN dX9_pair_38 rfl ?_
    refine ev_getfield dX9_pair_39 fl_RX9_12 (by repeat (first | assumption | exact up_s | refine (up_n (by omega)).trans ?_)) rfl ?_
    refine ev_V0 dX9_pair_42 st_RX9_93 na_X1_isFull (Nat.le_of_ble_eq_true rfl) (Nat.le_of_ble_eq_true rfl) (by repeat (first | assumption | exact up_s | refine (up_n (by omega)).trans ?_)) rfl (m1_isFull g.2.1) ?_
    refine ev_if_eqT (tgt := 58) dX9_pair_45 (by decide) (by first | assumption | exact z_eq (by omega) | decide) ?_
    first | refine ev_aload_n dX9_pair_58 rfl ?_ | refine ev_aload_nN dX9_pair_58 rfl ?_
    refine ev_getfield dX9_pair_59 fl_RX9_12 (by repeat (first | assumption | exact up_s | refine (up_n (by omega)).trans ?_)) rfl ?_
    first | refine ev_aload_n dX9_pair_62 rfl ?_ | refine ev_aload_nN dX9_pair_62 rfl ?_
    refine ev_getfield dX9_pair_63 fl_RX9_47 (by repeat (first | assumption | exact up_s | refine (up_n (by omega)).trans ?_)) rfl ?_
    refine ev_V1 dX9_pair_66 st_RX9_96 na_X1_add (Nat.le_of_ble_eq_true rfl) (Nat.le_of_ble_eq_true rfl) (by repeat (first | assumption | exact up_s | refine (up_n (by omega)).trans ?_)) rfl (ad) ?_
    refine ev_istore_n dX9_pair_69 (Nat.le_of_ble_eq_true rfl) ?_
    first | refine ev_aload_n dX9_pair_70 rfl ?_ | refine ev_aload_nN dX9_pair_70 rfl ?_
    refine ev_newS dX9_pair_71 nw_RX9_44 (by decide) (by decide) ?_
    refine ev_dup dX9_pair_74 rfl ?_
    refine ev_N0vS dX9_pair_75 st_RX9_46 na_X7_init (Nat.le_of_ble_eq_true rfl) (Nat.le_of_ble_eq_true rfl) (by decide) (by decide) (m7_init up_s (by omega)) ?_
    refine ev_putfield dX9_pair_78 fl_RX9_47 (fit_9_5 _) (fun q => absurd q (by decide)) (by repeat (first | assumption | exact up_s | refine (up_n (by omega)).trans ?_)) (Nat.le_of_ble_eq_true rfl) ?_
    refine ev_iload_n dX9_pair_81 rfl ?_
    exact ev_ireturnE dX9_pair_82 rfl (by rfl)
  · obtain ⟨g1, ⟨c1, c2, c3, c4, c5, c6⟩, ⟨k1, k2, k3, k4, k5, k6, k7⟩, g4, ⟨a0, a1, B, E, J, x1, x2, x3, x4⟩, ⟨C1, F1, y1, y2⟩, ⟨P, N, A, z1, z2⟩, ⟨C2, F2, R2, u1, u2, u3⟩, ⟨C3, F3, R3, v1, v2, v3⟩⟩ := g
    have e : ∀ a, 5 ≤ a → a < 26 → _ = h a := fun a q1 q2 => ho2 a (by omega) (by omega) (by omega) (by omega) (by omega)
    refine ⟨by rw [pp_s]; exact up_s, ⟨(ho 3 (by omega) (by omega)).trans e3, ((ho 4 (by omega) (by omega)).trans e4).trans ?_, by omega, by rw [es]; omega, fun j => ?_, fun i hi => ?_⟩, ⟨(e _ (by omega) (by omega)).trans k1, (e _ (by omega) (by omega)).trans k2, (e _ (by omega) (by omega)).trans k3, (e _ (by omega) (by omega)).trans k4, (e _ (by omega) (by omega)).trans k5, ⟨(e _ (by omega) (by omega)).trans k6.1, (e _ (by omega) (by omega)).trans k6.2.1, k6.2.2⟩, k7⟩, ?_,
      ⟨a0, a1, B, E, J, (e _ (by omega) (by omega)).trans x1, (e _ (by omega) (by omega)).trans x2, (e _ (by omega) (by omega)).trans x3, (e _ (by omega) (by omega)).trans x4⟩, ⟨C1, F1, (e _ (by omega) (by omega)).trans y1, (e _ (by omega) (by omega)).trans y2⟩, ⟨P, N, A, (e _ (by omega) (by omega)).trans z1, (e _ (by omega) (by omega)).trans z2⟩, ⟨C2, F2, R2, (e _ (by omega) (by omega)).trans u1, (e _ (by omega) (by omega)).trans u2, (e _ (by omega) (by omega)).trans u3⟩, ⟨C3, F3, R3, (e _ (by omega) (by omega)).trans v1, (e _ (by omega) (by omega)).trans v2, (e _ (by omega) (by omega)).trans v3⟩⟩
    · refine congrArg (aQ 20) (funext fun i => ?_)
      unfold va_up
      by_cases q : i = made
      · subst q; rw [if_pos rfl, if_pos (by omega)]
      · rw [if_neg q]
        show (if i < made then some (pp i) else none) = _
        by_cases q2 : i < made
        · rw [if_pos q2, if_pos (by omega)]
        · rw [if_neg q2, if_neg (by omega)]
    · unfold va_up
      split
      · exact Or.inr rfl
      · exact c5 j
    · have hl : ∀ D, lN1 l made D i = l D i := fun D => if_neg (by omega)
      have hw : ∀ D, wN1 w made D i = w D i := fun D => if_neg (by omega)
      rw [hl, hl, hw, hw]
      have hpi := pp_gap i
      have hin : pp i + 5 ≤ 35 + 5 * made := by have := pp_lt (show i < made + 1 by omega); rw [pp_s] at this; exact this
      by_cases q : i = made
      · subst q
        rw [show va_up t i 1 i = 1 from if_pos rfl]
        exact ⟨(ho _ (by omega) (by omega)).trans e5, Sn_cg (ho2 _ (by omega) (by omega) (by omega) (by omega) (by omega)) (ho2 _ (by omega) (by omega) (by omega) (by omega) (by omega)) g4.2.1, Sn_cg (ho2 _ (by omega) (by omega) (by omega) (by omega) (by omega)) (ho2 _ (by omega) (by omega) (by omega) (by omega) (by omega)) g4.2.2⟩
      · rw [show va_up t made 1 i = t i from if_neg q]
        have := pp_inj q
        exact Pr_cg (fun k hk => ho2 _ (by omega) (by omega) (by omega) (by omega) (by omega)) (c6 i (by omega))
    · rw [pp_s, show lN1 l made 0 (made + 1) = 0 from if_pos rfl, show lN1 l made 1 (made + 1) = 0 from if_pos rfl, show wN1 w made 0 (made + 1) = (fun _ => 0) from if_pos rfl, show wN1 w made 1 (made + 1) = (fun _ => 0) from if_pos rfl]
      exact Pr_up mkP_Pr (by omega)
  · intro a q
    exact ho2 a (by omega) (by omega) (by omega) (by omega) (by omega)
theorem m9_pair1 (g : GS h made t l w S W) (hx : l 0 made = 0 ∨ l 1 made = 0 ∨ 20 ≤ made) : Ev (d + 3) MX9_pair 0 (lv_args 0 [.ref 2]) [] n h (.inr "java/lang/IllegalStateException", n, h, 1, 6) := by
  have g1 := g.1
  have c1 := g.2.1.1
  have hp := g.2.2.2.1
  have hp1 := hp.1
  have hs2 := hp.2.1.1
  have hs3 := hp.2.2.1
  have b0 := hp.2.1.2.2.1
  have b1 := hp.2.2.2.2.1
  have hm := g.2.1.2.2.1
  by_cases q0 : l 0 made = 0
  · first | refine ev_aload_n dX9_pair_0 rfl ?_ | refine ev_aload_nN dX9_pair_0 rfl ?_
    refine ev_getfield dX9_pair_1 fl_RX9_47 (by repeat (first | assumption | exact up_s | refine (up_n (by omega)).trans ?_)) rfl ?_
    refine ev_iconst dX9_pair_4 ci0 ?_
    refine ev_V1 dX9_pair_5 st_RX9_65 na_X7_ofSide (Nat.le_of_ble_eq_true rfl) (Nat.le_of_ble_eq_true rfl) (by repeat (first | assumption | exact up_s | refine (up_n (by omega)).trans ?_)) rfl (m7_of0 hp) ?_
    refine ev_V0 dX9_pair_8 st_RX9_84 na_X6_length (Nat.le_of_ble_eq_true rfl) (Nat.le_of_ble_eq_true rfl) (by repeat (first | assumption | exact up_s | refine (up_n (by omega)).trans ?_)) rfl (m6_length hp.2.1) ?_
    refine ev_if_eqT (tgt := 28) dX9_pair_11 (by decide) (by first | assumption | exact z_eq (by omega) | decide) ?_
    exact ev_throwS th_X9_pair_28 (Nat.le_of_ble_eq_true rfl) rfl
  · by_cases q1 : l 1 made = 0
    · first | refine ev_aload_n dX9_pair_0 rfl ?_ | refine ev_aload_nN dX9_pair_0 rfl ?_
      refine ev_getfield dX9_pair_1 fl_RX9_47 (by repeat (first | assumption | exact up_s | refine (up_n (by omega)).trans ?_)) rfl ?_
      refine ev_iconst dX9_pair_4 ci0 ?_
      refine ev_V1 dX9_pair_5 st_RX9_65 na_X7_ofSide (Nat.le_of_ble_eq_true rfl) (Nat.le_of_ble_eq_true rfl) (by repeat (first | assumption | exact up_s | refine (up_n (by omega)).trans ?_)) rfl (m7_of0 hp) ?_
      refine ev_V0 dX9_pair_8 st_RX9_84 na_X6_length (Nat.le_of_ble_eq_true rfl) (Nat.le_of_ble_eq_true rfl) (by repeat (first | assumption | exact up_s | refine (up_n (by omega)).trans ?_)) rfl (m6_length hp.2.1) ?_
      refine ev_if_eqF dX9_pair_11 28 (by decide) (by first | assumption | exact nI_ne0 (by omega) (by omega) | decide) ?_
      first | refine ev_aload_n dX9_pair_14 rfl ?_ | refine ev_aload_nN dX9_pair_14 rfl ?_
      refine ev_getfield dX9_pair_15 fl_RX9_47 (by repeat (first | assumption | exact up_s | refine (up_n (by omega)).trans ?_)) rfl ?_
      refine ev_iconst dX9_pair_18 ci1 ?_
      refine ev_V1 dX9_pair_19 st_RX9_65 na_X7_ofSide (Nat.le_of_ble_eq_true rfl) (Nat.le_of_ble_eq_true rfl) (by repeat (first | assumption | exact up_s | refine (up_n (by omega)).trans ?_)) rfl (m7_of1 hp) ?_
      refine ev_V0 dX9_pair_22 st_RX9_84 na_X6_length (Nat.le_of_ble_eq_true rfl) (Nat.le_of_ble_eq_true rfl) (by repeat (first | assumption | exact up_s | refine (up_n (by omega)).trans ?_)) rfl (m6_length hp.2.2) ?_
      refine ev_if_neF dX9_pair_25 38 (by decide) (by first | assumption | exact z_eq (by omega) | decide) ?_
      exact ev_throwS th_X9_pair_28 (Nat.le_of_ble_eq_true rfl) rfl
    · have e2 : bI (20 ≤ made) = 1 := bI_t (by omega)
      first | refine ev_aload_n dX9_pair_0 rfl ?_ | refine ev_aload_nN dX9_pair_0 rfl ?_
      refine ev_getfield dX9_pair_1 fl_RX9_47 (by repeat (first | assumption | exact up_s | refine (up_n (by omega)).trans ?_)) rfl ?_
      refine ev_iconst dX9_pair_4 ci0 ?_
      refine ev_V1 dX9_pair_5 st_RX9_65 na_X7_ofSide (Nat.le_of_ble_eq_true rfl) (Nat.le_of_ble_eq_true rfl) (by repeat (first | assumption | exact up_s | refine (up_n (by omega)).trans ?_)) rfl (m7_of0 hp) ?_
      refine ev_V0 dX9_pair_8 st_RX9_84 na_X6_length (Nat.le_of_ble_eq_true rfl) (Nat.le_of_ble_eq_true rfl) (by repeat (first | assumption | exact up_s | refine (up_n (by omega)).trans ?_)) rfl (m6_length hp.2.1) ?_
      refine ev_if_eqF dX9_pair_11 28 (by decide) (by first | assumption | exact nI_ne0 (by omega) (by omega) | decide) ?_
      first | refine ev_aload_n dX9_pair_14 rfl ?_ | refine ev_aload_nN dX9_pair_14 rfl ?_
      refine ev_getfield dX9_pair_15 fl_RX9_47 (by repeat (first | assumption | exact up_s | refine (up_n (by omega)).trans ?_)) rfl ?_
      refine ev_iconst dX9_pair_18 ci1 ?_
      refine ev_V1 dX9_pair_19 st_RX9_65 na_X7_ofSide (Nat.le_of_ble_eq_true rfl) (Nat.le_of_ble_eq_true rfl) (by repeat (first | assumption | exact up_s | refine (up_n (by omega)).trans ?_)) rfl (m7_of1 hp) ?_
      refine ev_V0 dX9_pair_22 st_RX9_84 na_X6_length (Nat.le_of_ble_eq_true rfl) (Nat.le_of_ble_eq_true rfl) (by repeat (first | assumption | exact up_s | refine (up_n (by omega)).trans ?_)) rfl (m6_length hp.2.2) ?_
      refine ev_if_neT (tgt := 38) dX9_pair_25 (by decide) (by first | assumption | exact nI_ne0 (by omega) (by omega) | decide) ?_
      first | refine ev_aload_n dX9_pair_38 rfl ?_ | refine ev_aload_nN dX9_pair_38 rfl ?_
      refine ev_getfield dX9_pair_39 fl_RX9_12 (by repeat (first | assumption | exact up_s | refine (up_n (by omega)).trans ?_)) rfl ?_
      refine ev_V0 dX9_pair_42 st_RX9_93 na_X1_isFull (Nat.le_of_ble_eq_true rfl) (Nat.le_of_ble_eq_true rfl) (by repeat (first | assumption | exact up_s | refine (up_n (by omega)).trans ?_)) rfl (m1_isFull g.2.1) ?_
      refine ev_if_eqF dX9_pair_45 58 (by decide) (by first | assumption | exact nI_ne0 (by omega) (by omega) | decide) ?_
      exact ev_throwS th_X9_pair_48 (Nat.le_of_ble_eq_true rfl) rfl
end MK
