/-! the law: class and reference side by side, a call at a time -/
def LI (L : Nat) (xs : Nat → Int32) (n : Nat) (h : Hp) (th : Nat) : Prop := ∃ (made : Nat) (t : Nat → Nat) (l : Nat → Nat → Nat) (w : Nat → Nat → Nat → Nat) (S : Nat → Nat → Nat) (W : Nat → Nat) (f : Nat → Int64), n = 45 + 5 * made ∧ GS h made t l w S W ∧ MS h th made t l w S W ∧ h 0 = .inl (0, L, .inl xs) ∧ h 44 = .inl (1, 1, .inr (.inl f))
def VI (v : Value) (z : Int64) : Prop := ∃ b : Int32, v = .int b ∧ z = b.toInt64
def VJ (v : Value) (z : Int64) : Prop := v = .long z
def VZ (v : Value) (z : Int64) : Prop := ∃ b : Int32, v = .int b ∧ z = if b = 0 then lN 0 else lN 1
def JI (L : Nat) (xs : Nat → Int32) (n : Nat) (h : Hp) (MLx MXx : MI) (as : List Value) (V : Value → Int64 → Prop) : Prop := ∃ (k n1 : Nat) (h1 : Hp) (c e : Nat) (f : Nat → Int64) (v : Value) (z : Int64) (h2 : Hp), k ≤ 2 ∧ Ev 59 MLx 0 (lv_args 0 (.ref 2 :: as ++ [.ref 44])) [] n h (.inl (some (.int (nI k))), n1, h1, c, e) ∧ c ≤ 5 ∧ e ≤ 23 ∧ h1 0 = .inl (0, L, .inl xs) ∧ (∃ F, h1 31 = .inr (10, F)) ∧ Ev 59 MXx 0 (lv_args 0 (.ref 31 :: as)) [] n1 h1 (.inl (some v), n1, h2, 0, 0) ∧ LI L xs n1 h2 k ∧ h2 44 = .inl (1, 1, .inr (.inl f)) ∧ V v z ∧ (k = 0 → f 0 = z)
def JD (L : Nat) (xs : Nat → Int32) (n : Nat) (h : Hp) (MCx MXx : MI) : Prop := ∃ (h1 : Hp) (v : Nat) (h2 : Hp), (∃ F, h 2 = .inr (9, F)) ∧ Ev 59 MCx 0 (lv_args 0 [.ref 2]) [] n h (.inl (some (.int (nI v))), n, h1, 0, 0) ∧ (∃ F, h1 31 = .inr (10, F)) ∧ Ev 59 MXx 0 (lv_args 0 [.ref 31]) [] n h1 (.inl (some (.int (nI v))), n, h2, 0, 0) ∧ LI L xs n h2 0
section LJ
variable {L n n1 th : Nat} {xs : Nat → Int32} {h h1 : Hp} {made made' : Nat} {t t' : Nat → Nat} {l l' : Nat → Nat → Nat} {w w' : Nat → Nat → Nat → Nat} {S S' : Nat → Nat → Nat} {W W' : Nat → Nat} {f0 : Nat → Int64} {c e : Nat} {MLx MXx : MI} {as : List Value} {V : Value → Int64 → Prop}
theorem LI_0 (g : LI L xs n h th) : h 0 = .inl (0, L, .inl xs) := by
  obtain ⟨made, t, l, w, S, W, f, hn, gs, ms, h0, h44⟩ := g
  exact h0
theorem LI_of {h3 h2 : Hp} {k : Nat} (hn : n1 = 45 + 5 * made') (g3 : GS h3 made' t' l' w' S' W') (m2 : MS h2 k made' t' l' w' S' W') (fm : Fm h3 h2) (e0 : h3 0 = .inl (0, L, .inl xs)) {f : Nat → Int64} (e44 : h3 44 = .inl (1, 1, .inr (.inl f))) : LI L xs n1 h2 k :=
  ⟨made', t', l', w', S', W', f, hn, GS_cg (fun a q => fm a (by omega)) g3, m2, (fm 0 (by omega)).trans e0, (fm 44 (by omega)).trans e44⟩
theorem JT {v : Value} {z : Int64} (hn : n1 = 45 + 5 * made') (hc : c ≤ 5) (he : e ≤ 23) (ms : MS h th made t l w S W) (h0 : h 0 = .inl (0, L, .inl xs)) (h44 : h 44 = .inl (1, 1, .inr (.inl f0))) (g' : GS h1 made' t' l' w' S' W') (fr : Fr h h1) (hV : V v z) (hl : h1 44 = .inl (1, 1, .inr (.inl f0)) → Ev 59 MLx 0 (lv_args 0 (.ref 2 :: as ++ [.ref 44])) [] n h (.inl (some (.int (nI 0))), n1, va_up h1 44 (.inl (1, 1, .inr (.inl (vp_updL f0 0 z)))), c, e)) (hm : ∀ h3, MS h3 th made t l w S W → ∃ h2, Ev 59 MXx 0 (lv_args 0 (.ref 31 :: as)) [] n1 h3 (.inl (some v), n1, h2, 0, 0) ∧ MS h2 0 made' t' l' w' S' W' ∧ Fm h3 h2) : JI L xs n h MLx MXx as V := by
  have e44 : h1 44 = .inl (1, 1, .inr (.inl f0)) := (fr 44 (by omega)).trans h44
  have m3 : MS (va_up h1 44 (.inl (1, 1, .inr (.inl (vp_updL f0 0 z))))) th made t l w S W := MS_cg (fun a q1 q2 => (up_n (by omega)).trans (fr a (by omega))) ms
  have g3 : GS (va_up h1 44 (.inl (1, 1, .inr (.inl (vp_updL f0 0 z))))) made' t' l' w' S' W' := GS_cg (fun a q => up_n (by omega)) g'
  obtain ⟨h2, ev, m2, fm⟩ := hm _ m3
  obtain ⟨F, x31⟩ := m3.1
  have e0 : va_up h1 44 (.inl (1, 1, .inr (.inl (vp_updL f0 0 z)))) 0 = .inl (0, L, .inl xs) := (up_n (by omega)).trans ((fr 0 (by omega)).trans h0)
  exact ⟨0, n1, _, c, e, vp_updL f0 0 z, v, z, h2, by omega, hl e44, hc, he, e0, ⟨_, x31⟩, ev, LI_of hn g3 m2 fm e0 up_s, (fm 44 (by omega)).trans up_s, hV, fun _ => by simp [vp_updL]⟩
theorem JE {k : Nat} (hk : k = 1 ∨ k = 2) (hn : n = 45 + 5 * made) (ms : MS h th made t l w S W) (h0 : h 0 = .inl (0, L, .inl xs)) (h44 : h 44 = .inl (1, 1, .inr (.inl f0))) (g' : GS h1 made t l w S W) (fr : Fr h h1) (hl : Ev 59 MLx 0 (lv_args 0 (.ref 2 :: as ++ [.ref 44])) [] n h (.inl (some (.int (nI k))), n, h1, 1, 6)) (hm : ∀ h3, MS h3 th made t l w S W → ∃ h2 v, (∃ z, V v z) ∧ Ev 59 MXx 0 (lv_args 0 (.ref 31 :: as)) [] n h3 (.inl (some v), n, h2, 0, 0) ∧ MS h2 k made t l w S W ∧ Fm h3 h2) : JI L xs n h MLx MXx as V := by
  have e44 : h1 44 = .inl (1, 1, .inr (.inl f0)) := (fr 44 (by omega)).trans h44
  have m3 : MS h1 th made t l w S W := MS_cg (fun a q1 q2 => fr a (by omega)) ms
  obtain ⟨h2, v, ⟨z, hV⟩, ev, m2, fm⟩ := hm _ m3
  obtain ⟨F, x31⟩ := m3.1
  have e0 : h1 0 = .inl (0, L, .inl xs) := (fr 0 (by omega)).trans h0
  exact ⟨k, n, h1, 1, 6, f0, v, z, h2, by omega, hl, by omega, by omega, e0, ⟨_, x31⟩, ev, LI_of hn g' m2 fm e0 e44, (fm 44 (by omega)).trans e44, hV, fun q => by omega⟩
theorem JDT {MCx : MI} {v : Nat} (hn : n = 45 + 5 * made') (gs : GS h made t l w S W) (ms : MS h th made t l w S W) (h0 : h 0 = .inl (0, L, .inl xs)) (h44 : h 44 = .inl (1, 1, .inr (.inl f0))) (ev1 : Ev 59 MCx 0 (lv_args 0 [.ref 2]) [] n h (.inl (some (.int (nI v))), n, h1, 0, 0)) (g' : GS h1 made' t' l' w' S' W') (fr : Fr h h1) (hm : ∀ h3, MS h3 th made t l w S W → ∃ h2, Ev 59 MXx 0 (lv_args 0 [.ref 31]) [] n h3 (.inl (some (.int (nI v))), n, h2, 0, 0) ∧ MS h2 0 made' t' l' w' S' W' ∧ Fm h3 h2) : JD L xs n h MCx MXx := by
  have e44 : h1 44 = .inl (1, 1, .inr (.inl f0)) := (fr 44 (by omega)).trans h44
  have m3 : MS h1 th made t l w S W := MS_cg (fun a q1 q2 => fr a (by omega)) ms
  obtain ⟨h2, ev, m2, fm⟩ := hm _ m3
  obtain ⟨F, x31⟩ := m3.1
  have e0 : h1 0 = .inl (0, L, .inl xs) := (fr 0 (by omega)).trans h0
  exact ⟨h1, v, h2, ⟨_, gs.1⟩, ev1, ⟨_, x31⟩, ev, LI_of hn g' m2 fm e0 e44⟩
theorem or_of {p q : Prop} (h : ¬ (p ∧ q)) : ¬ p ∨ ¬ q := by
  by_cases z : p
  · exact Or.inr fun y => h ⟨z, y⟩
  · exact Or.inl z
theorem or_of3 {p q r : Prop} (h : ¬ (p ∧ q ∧ r)) : ¬ p ∨ ¬ q ∨ ¬ r := (or_of h).elim Or.inl fun z => Or.inr (or_of z)
theorem hmI {h3 : Hp} {k : Nat} (g : ∃ h2 v, Ev 59 MXx 0 (lv_args 0 (.ref 31 :: as)) [] n h3 (.inl (some (.int v)), n, h2, 0, 0) ∧ MS h2 k made t l w S W ∧ Fm h3 h2) : ∃ h2 v, (∃ z, VI v z) ∧ Ev 59 MXx 0 (lv_args 0 (.ref 31 :: as)) [] n h3 (.inl (some v), n, h2, 0, 0) ∧ MS h2 k made t l w S W ∧ Fm h3 h2 := by
  obtain ⟨h2, v, e1, e2, e3⟩ := g
  exact ⟨h2, _, ⟨_, v, rfl, rfl⟩, e1, e2, e3⟩
theorem hmZ {h3 : Hp} {k : Nat} (g : ∃ h2 v, Ev 59 MXx 0 (lv_args 0 (.ref 31 :: as)) [] n h3 (.inl (some (.int v)), n, h2, 0, 0) ∧ MS h2 k made t l w S W ∧ Fm h3 h2) : ∃ h2 v, (∃ z, VZ v z) ∧ Ev 59 MXx 0 (lv_args 0 (.ref 31 :: as)) [] n h3 (.inl (some v), n, h2, 0, 0) ∧ MS h2 k made t l w S W ∧ Fm h3 h2 := by
  obtain ⟨h2, v, e1, e2, e3⟩ := g
  exact ⟨h2, _, ⟨_, v, rfl, rfl⟩, e1, e2, e3⟩
theorem hmJ {h3 : Hp} {k : Nat} (g : ∃ h2 v, Ev 59 MXx 0 (lv_args 0 (.ref 31 :: as)) [] n h3 (.inl (some (.long v)), n, h2, 0, 0) ∧ MS h2 k made t l w S W ∧ Fm h3 h2) : ∃ h2 v, (∃ z, VJ v z) ∧ Ev 59 MXx 0 (lv_args 0 (.ref 31 :: as)) [] n h3 (.inl (some v), n, h2, 0, 0) ∧ MS h2 k made t l w S W ∧ Fm h3 h2 := by
  obtain ⟨h2, v, e1, e2, e3⟩ := g
  exact ⟨h2, _, ⟨_, rfl⟩, e1, e2, e3⟩
theorem js_put (g : LI L xs n h th) (x y : Int32) : JI L xs n h ML_put MX10_put [.int x, .int y] VI := by
  obtain ⟨made, t, l, w, S, W, f, hn, gs, ms, h0, h44⟩ := g
  have q := GS_WF gs
  have g2 := gs.1
  by_cases c : inN x 2 ∧ inN y 15
  · obtain ⟨⟨D, hD, rfl⟩, ⟨a, ha, rfl⟩⟩ := c
    by_cases c2 : l D made < 8
    · obtain ⟨h1, ev, g', fr⟩ := m9_putT (d := 55) (n := n) gs hD ha c2
      exact JT hn (by omega) (by omega) ms h0 h44 g' fr ⟨_, rfl, rfl⟩ (hl_putR g2 ev) (fun h3 m3 => mm_putT (d := 58) q m3 hD ha c2)
    · exact JE (k := 2) (by omega) hn ms h0 h44 gs Fr_rfl (hl_putE2 g2 (m9_put2 (d := 55) gs hD ha (by omega))) (fun h3 m3 => hmI (mm_put2 (d := 58) m3 hD ha q (by omega)))
  · exact JE (k := 1) (by omega) hn ms h0 h44 gs Fr_rfl (hl_putE1 g2 (m9_put1 (d := 55) (or_of c))) (fun h3 m3 => hmI (mm_put1 (d := 58) m3 (or_of c)))
theorem js_pair (g : LI L xs n h th) : JI L xs n h ML_pair MX10_pair [] VI := by
  obtain ⟨made, t, l, w, S, W, f, hn, gs, ms, h0, h44⟩ := g
  have q := GS_WF gs
  have g2 := gs.1
  by_cases c : 0 < l 0 made ∧ 0 < l 1 made ∧ made < 20
  · obtain ⟨c0, c1, c2⟩ := c
    subst hn
    obtain ⟨h1, ev, g', fr⟩ := m9_pairNew (d := 55) gs c0 c1 c2
    exact JT (made' := made + 1) (by omega) (by omega) (by omega) ms h0 h44 g' fr ⟨_, rfl, rfl⟩ (hl_pairR g2 ev) (fun h3 m3 => mm_pairT (d := 58) q m3 c0 c1 c2)
  · have c : l 0 made = 0 ∨ l 1 made = 0 ∨ 20 ≤ made := by omega
    exact JE (k := 1) (by omega) hn ms h0 h44 gs Fr_rfl (hl_pairE1 g2 (m9_pair1 (d := 55) gs c)) (fun h3 m3 => hmI (mm_pair1 (d := 58) q m3 c))
theorem js_takeBack (g : LI L xs n h th) (x : Int32) : JI L xs n h ML_takeBack MX10_takeBack [.int x] VI := by
  obtain ⟨made, t, l, w, S, W, f, hn, gs, ms, h0, h44⟩ := g
  have q := GS_WF gs
  have g2 := gs.1
  by_cases c : itIs x made t
  · obtain ⟨i, hi, ht, rfl⟩ := c
    obtain ⟨h1, ev, g', fr⟩ := m9_takeBackT (d := 55) (n := n) gs hi ht
    exact JT hn (by omega) (by omega) ms h0 h44 g' fr ⟨_, rfl, rfl⟩ (hl_takeBackR g2 ev) (fun h3 m3 => mm_takeBackT (d := 57) q m3 hi ht)
  · exact JE (k := 1) (by omega) hn ms h0 h44 gs Fr_rfl (hl_takeBackE1 g2 (m9_takeBackF (d := 55) gs c)) (fun h3 m3 => hmI (mm_takeBackF (d := 57) q m3 c))
theorem js_weight (g : LI L xs n h th) (x y : Int32) : JI L xs n h ML_weight MX10_weight [.int x, .int y] VI := by
  obtain ⟨made, t, l, w, S, W, f, hn, gs, ms, h0, h44⟩ := g
  have q := GS_WF gs
  have g2 := gs.1
  by_cases c : inN x 5
  · obtain ⟨k, hk, rfl⟩ := c
    by_cases c2 : inN y 10
    · obtain ⟨v, hv, rfl⟩ := c2
      obtain ⟨h1, ev, g', fr⟩ := m9_weightT (d := 55) (n := n) gs hk hv
      exact JT hn (by omega) (by omega) ms h0 h44 g' fr ⟨_, rfl, rfl⟩ (hl_weightR g2 ev) (fun h3 m3 => mm_weightT (d := 58) m3 hk hv)
    · exact JE (k := 2) (by omega) hn ms h0 h44 gs Fr_rfl (hl_weightE2 g2 (m9_weight2 (d := 55) hk c2)) (fun h3 m3 => hmI (mm_weight2 (d := 58) m3 hk c2))
  · exact JE (k := 1) (by omega) hn ms h0 h44 gs Fr_rfl (hl_weightE1 g2 (m9_weight1 (d := 55) c)) (fun h3 m3 => hmI (mm_weight1 (d := 58) m3 c))
theorem js_word (g : LI L xs n h th) (x y z : Int32) : JI L xs n h ML_word MX10_word [.int x, .int y, .int z] VI := by
  obtain ⟨made, t, l, w, S, W, f, hn, gs, ms, h0, h44⟩ := g
  have q := GS_WF gs
  have g2 := gs.1
  by_cases c : itIs x made t ∧ inN y 2 ∧ ¬ z < 0
  · obtain ⟨⟨i, hi, ht, rfl⟩, ⟨D, hD, rfl⟩, hz⟩ := c
    obtain ⟨j, hj, rfl⟩ := nI_of hz
    exact JT hn (by omega) (by omega) ms h0 h44 gs Fr_rfl ⟨_, rfl, rfl⟩ (hl_wordR g2 (m9_wordT (d := 55) (n := n) gs hi ht hD hj)) (fun h3 m3 => mm_wordT (d := 57) q m3 hi ht hD hj)
  · have c := or_of3 c
    have c : ¬ itIs x made t ∨ ¬ inN y 2 ∨ z < 0 := c.elim Or.inl fun c => Or.inr (c.elim Or.inl fun c => Or.inr (Decidable.not_not.mp c))
    exact JE (k := 1) (by omega) hn ms h0 h44 gs Fr_rfl (hl_wordE1 g2 (m9_wordF (d := 55) gs c)) (fun h3 m3 => hmI (mm_wordF (d := 57) q m3 c))
theorem js_share (g : LI L xs n h th) (x y z : Int32) : JI L xs n h ML_share MX10_share [.int x, .int y, .int z] VI := by
  obtain ⟨made, t, l, w, S, W, f, hn, gs, ms, h0, h44⟩ := g
  have q := GS_WF gs
  have g2 := gs.1
  by_cases c : inN x 2 ∧ inN y 16 ∧ inN z 15
  · obtain ⟨⟨D, hD, rfl⟩, ⟨wd, hw, rfl⟩, ⟨o, ho, rfl⟩⟩ := c
    exact JT hn (by omega) (by omega) ms h0 h44 gs Fr_rfl ⟨_, rfl, rfl⟩ (hl_shareR g2 (m9_shareT (d := 56) (n := n) gs hD (by omega) ho)) (fun h3 m3 => mm_shareT (d := 58) m3 hD (by omega) ho)
  · exact JE (k := 1) (by omega) hn ms h0 h44 gs Fr_rfl (hl_shareE1 g2 (m9_shareF (d := 56) (or_of3 c))) (fun h3 m3 => hmI (mm_shareF (d := 58) m3 (or_of3 c)))
theorem js_link (g : LI L xs n h th) (x y z : Int32) : JI L xs n h ML_link MX10_link [.int x, .int y, .int z] VI := by
  obtain ⟨made, t, l, w, S, W, f, hn, gs, ms, h0, h44⟩ := g
  have q := GS_WF gs
  have g2 := gs.1
  have bad : (¬ itIs y made t ∨ ¬ inN x 2 ∨ ∀ D i, D < 2 → i < made → x = nI D → y = nI i → ¬ inN z (l (1 - D) i)) → JI L xs n h ML_link MX10_link [.int x, .int y, .int z] VI := fun c => JE (k := 1) (by omega) hn ms h0 h44 gs Fr_rfl (hl_linkE1 g2 (m9_linkF (d := 55) gs c)) (fun h3 m3 => hmI (mm_linkF (d := 56) q m3 c))
  by_cases c : itIs y made t ∧ inN x 2
  · obtain ⟨⟨i, hi, ht, rfl⟩, ⟨D, hD, rfl⟩⟩ := c
    by_cases c2 : inN z (l (1 - D) i)
    · obtain ⟨j, hj, rfl⟩ := c2
      exact JT hn (by omega) (by omega) ms h0 h44 gs Fr_rfl ⟨_, rfl, rfl⟩ (hl_linkR g2 (m9_linkT (d := 55) (n := n) gs hi ht hD hj)) (fun h3 m3 => mm_linkT (d := 56) q m3 hi ht hD hj)
    · have hm := q.1
      refine bad (Or.inr (Or.inr fun D' i' hD' hi' e1 e2 => ?_))
      have e1 := (nI_eq (by omega) (by omega)).mp e1
      have e2 := (nI_eq (by omega) (by omega)).mp e2
      rw [← e1, ← e2]
      exact c2
  · exact bad ((or_of c).elim Or.inl fun c => Or.inr (Or.inl c))
theorem js_isJoined (g : LI L xs n h th) (x y z : Int32) : JI L xs n h ML_isJoined MX10_isJoined [.int x, .int y, .int z] VZ := by
  obtain ⟨made, t, l, w, S, W, f, hn, gs, ms, h0, h44⟩ := g
  have q := GS_WF gs
  have hm := q.1
  have g2 := gs.1
  have bad : (¬ itIs x made t ∨ ∀ i, i < made → x = nI i → ¬ inN y (l 0 i) ∨ ¬ inN z (l 1 i)) → JI L xs n h ML_isJoined MX10_isJoined [.int x, .int y, .int z] VZ := fun c => JE (k := 1) (by omega) hn ms h0 h44 gs Fr_rfl (hl_isJoinedE1 g2 (m9_isJoinedF (d := 52) gs c)) (fun h3 m3 => hmZ (mm_isJoinedF (d := 56) q m3 c))
  by_cases c : itIs x made t
  · obtain ⟨i, hi, ht, rfl⟩ := c
    by_cases c2 : inN y (l 0 i) ∧ inN z (l 1 i)
    · obtain ⟨⟨j, hj, rfl⟩, ⟨o, ho, rfl⟩⟩ := c2
      have e9 : lN (bI (JJ S W l w i j &&& 2 ^ o ≠ 0)) = if nI (bI (JJ S W l w i j &&& 2 ^ o ≠ 0)) = 0 then lN 0 else lN 1 := by
        rcases bI_01 (JJ S W l w i j &&& 2 ^ o ≠ 0) with e | e
        · rw [e]; rfl
        · rw [e]; rfl
      exact JT hn (by omega) (by omega) ms h0 h44 (GS_AX gs) Fr_AX ⟨_, rfl, e9⟩ (hl_isJoinedR (bI_01 _) g2 (m9_isJoinedT (d := 52) (n := n) gs hi ht hj ho)) (fun h3 m3 => mm_isJoinedT (d := 56) q m3 hi ht hj ho)
    · refine bad (Or.inr fun i' hi' e2 => ?_)
      have e2 := (nI_eq (by omega) (by omega)).mp e2
      rw [← e2]
      exact or_of c2
  · exact bad (Or.inl c)
theorem js_phrases (g : LI L xs n h th) (x : Int32) : JI L xs n h ML_phrases MX10_phrases [.int x] VI := by
  obtain ⟨made, t, l, w, S, W, f, hn, gs, ms, h0, h44⟩ := g
  have q := GS_WF gs
  have g2 := gs.1
  by_cases c : itIs x made t
  · obtain ⟨i, hi, ht, rfl⟩ := c
    obtain ⟨h1, ev, g', fr⟩ := m9_phrasesT (d := 52) (n := n) gs hi ht
    exact JT hn (by omega) (by omega) ms h0 h44 g' fr ⟨_, rfl, rfl⟩ (hl_phrasesR g2 ev) (fun h3 m3 => mm_phrasesT (d := 55) q m3 hi ht)
  · exact JE (k := 1) (by omega) hn ms h0 h44 gs Fr_rfl (hl_phrasesE1 g2 (m9_phrasesF (d := 52) gs c)) (fun h3 m3 => hmI (mm_phrasesF (d := 55) q m3 c))
theorem js_phrase (g : LI L xs n h th) (x y z : Int32) : JI L xs n h ML_phrase MX10_phrase [.int x, .int y, .int z] VI := by
  obtain ⟨made, t, l, w, S, W, f, hn, gs, ms, h0, h44⟩ := g
  have q := GS_WF gs
  have g2 := gs.1
  by_cases c : itIs x made t
  · obtain ⟨i, hi, ht, rfl⟩ := c
    by_cases c2 : inN y (phN S W l w i)
    · obtain ⟨K, hK, rfl⟩ := c2
      by_cases c3 : inN z 4
      · obtain ⟨k, hk, rfl⟩ := c3
        obtain ⟨h1, ev, g', fr⟩ := m9_phraseT (d := 52) (n := n) gs hi ht hK hk
        exact JT hn (by omega) (by omega) ms h0 h44 g' fr ⟨_, rfl, rfl⟩ (hl_phraseR g2 ev) (fun h3 m3 => mm_phraseT (d := 55) q m3 hi ht hK hk)
      · obtain ⟨h1, ev, g', fr⟩ := m9_phrase2 (d := 52) (n := n) gs hi ht hK c3
        exact JE (k := 2) (by omega) hn ms h0 h44 g' fr (hl_phraseE2 g2 ev) (fun h3 m3 => hmI (mm_phrase2 (d := 55) q m3 hi ht hK c3))
    · obtain ⟨h1, ev, g', fr⟩ := m9_phrase1 (d := 52) (n := n) gs hi ht c2 (z := z)
      exact JE (k := 1) (by omega) hn ms h0 h44 g' fr (hl_phraseE1 g2 ev) (fun h3 m3 => hmI (mm_phrase1 (d := 55) q m3 hi ht c2))
  · exact JE (k := 1) (by omega) hn ms h0 h44 gs Fr_rfl (hl_phraseE1 g2 (m9_phraseF (d := 52) gs c)) (fun h3 m3 => hmI (mm_phraseF (d := 55) q m3 c))
theorem js_fertility (g : LI L xs n h th) (x y : Int32) : JI L xs n h ML_fertility MX10_fertility [.int x, .int y] VI := by
  obtain ⟨made, t, l, w, S, W, f, hn, gs, ms, h0, h44⟩ := g
  have q := GS_WF gs
  have g2 := gs.1
  by_cases c : inN x 15
  · obtain ⟨wd, hw, rfl⟩ := c
    by_cases c2 : inN y 9
    · obtain ⟨v, hv, rfl⟩ := c2
      obtain ⟨h1, ev, g', fr⟩ := m9_fertilityT (d := 52) (n := n) gs hw hv
      exact JT hn (by omega) (by omega) ms h0 h44 g' fr ⟨_, rfl, rfl⟩ (hl_fertilityR g2 ev) (fun h3 m3 => mm_fertilityT (d := 56) q m3 hw hv)
    · exact JE (k := 2) (by omega) hn ms h0 h44 gs Fr_rfl (hl_fertilityE2 g2 (m9_fertility2 (d := 52) hw c2)) (fun h3 m3 => hmI (mm_fertility2 (d := 56) m3 hw c2))
  · exact JE (k := 1) (by omega) hn ms h0 h44 gs Fr_rfl (hl_fertilityE1 g2 (m9_fertility1 (d := 52) c)) (fun h3 m3 => hmI (mm_fertility1 (d := 56) m3 c))
theorem js_total (g : LI L xs n h th) (x : Int32) : JI L xs n h ML_total MX10_total [.int x] VJ := by
  obtain ⟨made, t, l, w, S, W, f, hn, gs, ms, h0, h44⟩ := g
  have q := GS_WF gs
  have g2 := gs.1
  by_cases c : itIs x made t
  · obtain ⟨i, hi, ht, rfl⟩ := c
    by_cases c2 : l 1 i ≤ 4
    · obtain ⟨h1, ev, g', fr⟩ := m9_totalT (d := 50) (n := n) gs hi ht c2
      exact JT hn (by omega) (by omega) ms h0 h44 g' fr rfl (hl_totalR g2 ev) (fun h3 m3 => mm_totalT (d := 57) q m3 hi ht c2)
    · exact JE (k := 2) (by omega) hn ms h0 h44 gs Fr_rfl (hl_totalE2 g2 (m9_total2 (d := 50) gs hi ht (by omega))) (fun h3 m3 => hmJ (mm_total2 (d := 57) q m3 hi ht (by omega)))
  · exact JE (k := 1) (by omega) hn ms h0 h44 gs Fr_rfl (hl_totalE1 g2 (m9_totalF (d := 50) gs c)) (fun h3 m3 => hmJ (mm_totalF (d := 57) q m3 c))
theorem js_totalAnew (g : LI L xs n h th) (x : Int32) : JI L xs n h ML_totalAnew MX10_totalAnew [.int x] VJ := by
  obtain ⟨made, t, l, w, S, W, f, hn, gs, ms, h0, h44⟩ := g
  have q := GS_WF gs
  have g2 := gs.1
  by_cases c : itIs x made t
  · obtain ⟨i, hi, ht, rfl⟩ := c
    by_cases c2 : l 1 i ≤ 4
    · obtain ⟨h1, ev, g', fr⟩ := m9_totalAnewT (d := 50) (n := n) gs hi ht c2
      exact JT hn (by omega) (by omega) ms h0 h44 g' fr rfl (hl_totalAnewR g2 ev) (fun h3 m3 => mm_totalAnewT (d := 56) q m3 hi ht c2)
    · exact JE (k := 2) (by omega) hn ms h0 h44 gs Fr_rfl (hl_totalAnewE2 g2 (m9_totalAnew2 (d := 50) gs hi ht (by omega))) (fun h3 m3 => hmJ (mm_totalAnew2 (d := 56) q m3 hi ht (by omega)))
  · exact JE (k := 1) (by omega) hn ms h0 h44 gs Fr_rfl (hl_totalAnewE1 g2 (m9_totalAnewF (d := 50) gs c)) (fun h3 m3 => hmJ (mm_totalAnewF (d := 56) q m3 c))
theorem js_wipe (g : LI L xs n h th) : JD L xs n h MX9_wipe MX10_wipe := by
  obtain ⟨made, t, l, w, S, W, f, hn, gs, ms, h0, h44⟩ := g
  obtain ⟨h1, ev, g', fr⟩ := m9_wipe (d := 56) (n := n) gs
  exact JDT hn gs ms h0 h44 ev g' fr (fun h3 m3 => mm_wipe m3)
theorem js_begin (g : LI L xs n h th) : JD L xs n h MX9_begin MX10_begin := by
  obtain ⟨made, t, l, w, S, W, f, hn, gs, ms, h0, h44⟩ := g
  obtain ⟨h1, ev, g', fr⟩ := m9_begin (d := 53) (n := n) gs
  exact JDT hn gs ms h0 h44 ev g' fr (fun h3 m3 => mm_begin (d := 57) (GS_WF gs) m3)
theorem js_round (g : LI L xs n h th) : JD L xs n h MX9_round MX10_round := by
  obtain ⟨made, t, l, w, S, W, f, hn, gs, ms, h0, h44⟩ := g
  obtain ⟨h1, ev, g', fr⟩ := m9_round (d := 53) (n := n) gs
  exact JDT hn gs ms h0 h44 ev g' fr (fun h3 m3 => mm_round (d := 56) (GS_WF gs) m3)
theorem js_pairs (g : LI L xs n h th) : JD L xs n h MX9_pairs MX10_pairs := by
  obtain ⟨made, t, l, w, S, W, f, hn, gs, ms, h0, h44⟩ := g
  exact JDT hn gs ms h0 h44 (m9_pairs (d := 58) gs) gs Fr_rfl (fun h3 m3 => mm_pairs (d := 58) (GS_WF gs) m3)
end LJ
