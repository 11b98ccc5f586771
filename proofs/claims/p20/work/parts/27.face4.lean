/-! the class from outside: phrases, fertility, totals -/
theorem fo_rel {σ τ : Type} {R : σ → τ → Prop} {f : Nat → σ → σ} {g : Nat → τ → τ} (c : Nat) (hf : ∀ j s u, R s u → R (f j s) (g j u)) {s : σ} {u : τ} (h : R s u) : ∀ k, R (fo f c s k) (fo g c u k)
  | 0 => h
  | k + 1 => hf (c + k) _ _ (fo_rel c hf h k)
theorem pAll_rel {R : Nat × (Nat → Nat) → Nat × (Nat → Nat) → Prop} {P : Q4} {wt wt' : Int32} {l0 l1 : Nat} (hm : ∀ a b c e s u, R s u → R (met wt a b c e s) (met wt' a b c e u)) {s u : Nat × (Nat → Nat)} (h : R s u) : R (pAll P wt l0 l1 s) (pAll P wt' l0 l1 u) := by
  refine fo_rel 0 (fun a s u h => ?_) h l0
  refine fo_rel a (fun b s u h => ?_) h _
  refine fo_rel 0 (fun c s u h => ?_) h _
  refine fo_rel c (fun e s u h => ?_) h _
  unfold pD
  split
  · exact hm a b c e s u h
  · exact h
theorem pAll_cnt {P : Q4} {wt wt' : Int32} {l0 l1 : Nat} {s u : Nat × (Nat → Nat)} (h : s.1 = u.1) : (pAll P wt l0 l1 s).1 = (pAll P wt' l0 l1 u).1 :=
  pAll_rel (R := fun s u => s.1 = u.1) (fun a b c e s u h => congrArg (· + 1) h) h
theorem pAll_ends {P : Q4} {K l0 l1 : Nat} {F F' : Nat → Nat} (hK : K < (pAll P (nI K) l0 l1 (0, F)).1) {k : Nat} (hk : k < 4) : (pAll P (nI K) l0 l1 (0, F)).2 k = (pAll P (nI K) l0 l1 (0, F')).2 k := by
  have h := pAll_rel (P := P) (wt := nI K) (wt' := nI K) (l0 := l0) (l1 := l1) (R := fun s u => s.1 = u.1 ∧ (K < s.1 → s.2 k = u.2 k)) (fun a b c e s u h => by
    obtain ⟨h1, h2⟩ := h
    refine ⟨congrArg (· + 1) h1, fun c9 => ?_⟩
    unfold met
    rw [← h1]
    by_cases q : nI s.1 = nI K
    · rw [if_pos q, if_pos q]
      unfold va_up
      rcases (show k = 0 ∨ k = 1 ∨ k = 2 ∨ k = 3 by omega) with rfl | rfl | rfl | rfl <;> simp
    · rw [if_neg q, if_neg q]
      have c9 : K < s.1 + 1 := c9
      exact h2 (by have : s.1 ≠ K := fun z => q (by rw [z]); omega)) (s := (0, F)) (u := (0, F')) ⟨rfl, fun c => absurd c (Nat.not_lt_zero _)⟩
  exact h.2 hK
theorem fo_le {f : Nat → Nat × (Nat → Nat) → Nat × (Nat → Nat)} {m : Nat} (c : Nat) (hf : ∀ j s, (f j s).1 ≤ s.1 + m) (s : Nat × (Nat → Nat)) : ∀ k, (fo f c s k).1 ≤ s.1 + m * k
  | 0 => Nat.le_refl _
  | k + 1 => by
    have h1 := fo_le c hf s k
    have h2 := hf (c + k) (fo f c s k)
    have h3 : m * (k + 1) = m * k + m := Nat.mul_succ m k
    show (f (c + k) (fo f c s k)).1 ≤ _
    omega
theorem fo_le' {f : Nat → Nat × (Nat → Nat) → Nat × (Nat → Nat)} {m : Nat} (c : Nat) (hf : ∀ j s, (f j s).1 ≤ s.1 + m) (s : Nat × (Nat → Nat)) {k N : Nat} (hk : k ≤ N) : (fo f c s k).1 ≤ s.1 + m * N :=
  Nat.le_trans (fo_le c hf s k) (Nat.add_le_add_left (Nat.mul_le_mul_left m hk) _)
theorem pAll_le {P : Q4} {wt : Int32} {l0 l1 : Nat} (h0 : l0 ≤ 8) (h1 : l1 ≤ 8) (s : Nat × (Nat → Nat)) : (pAll P wt l0 l1 s).1 ≤ s.1 + 1 * 4 * 8 * 4 * 8 := by
  refine fo_le' 0 (fun a s => ?_) s h0
  refine fo_le' a (fun b s => ?_) s (by omega)
  refine fo_le' 0 (fun c s => ?_) s h1
  refine fo_le' c (fun e s => ?_) s (by omega)
  unfold pD
  split
  · exact Nat.le_refl _
  · omega
section M9D
variable {d n : Nat} {h h' : Hp} {made : Nat} {t : Nat → Nat} {l : Nat → Nat → Nat} {w : Nat → Nat → Nat → Nat} {S : Nat → Nat → Nat} {W : Nat → Nat}
/-- phrases of a pair: the search's end -/
def phS (S : Nat → Nat → Nat) (W : Nat → Nat) (l : Nat → Nat → Nat) (w : Nat → Nat → Nat → Nat) (i : Nat) (wt : Int32) (F : Nat → Nat) : Nat × (Nat → Nat) := pAll (isPh (JJ S W l w i) (l 0 i)) wt (l 0 i) (l 1 i) (0, F)
def phN (S : Nat → Nat → Nat) (W : Nat → Nat) (l : Nat → Nat → Nat) (w : Nat → Nat → Nat → Nat) (i : Nat) : Nat := (phS S W l w i (-1) (fun _ => 0)).1
theorem phS_1 {i : Nat} {wt : Int32} {F : Nat → Nat} : (phS S W l w i wt F).1 = phN S W l w i := pAll_cnt rfl
theorem phN_le {i : Nat} (h0 : l 0 i ≤ 8) (h1 : l 1 i ≤ 8) : phN S W l w i ≤ 1024 := by
  have := pAll_le (P := isPh (JJ S W l w i) (l 0 i)) (wt := -1) h0 h1 (0, fun _ => 0)
  unfold phN phS
  omega
theorem g_seek (g : GS h made t l w S W) {i : Nat} (hi : i < made) (wt : Int32) : ∃ F, Ev (d + 5) MX5_seek 0 (lv_args 0 [.ref 22, .ref 18, .int wt]) [] n (AXi h S W l w i) (.inl none, n, Sr (AXi h S W l w i) (phS S W l w i wt F), 0, 0) := by
  have hp := GS_Pr g hi
  have h0 := hp.2.1.2.2.1
  have h1 := hp.2.2.2.2.1
  obtain ⟨C1, F1, y1, y2⟩ := (GS_AX g (a0 := l 0 i) (a1 := l 1 i) (B := (BE S W l w i).1) (E := (BE S W l w i).2) (J := JJ S W l w i)).2.2.2.2.2.1
  exact ⟨F1, m5_seek AX_Ah up_s y1 y2 h0 h1 (JJ_ok h0 h1).1⟩
theorem m9_phrasesT (g : GS h made t l w S W) {i : Nat} (hi : i < made) (ht : t i = 1) : ∃ h', Ev (d + 6) MX9_phrases 0 (lv_args 0 [.ref 2, .int (nI i)]) [] n h (.inl (some (.int (nI (phN S W l w i)))), n, h', 0, 0) ∧ GS h' made t l w S W ∧ Fr h h' := by
  have g1 := g.1
  have hp := GS_Pr g hi
  have hp1 := hp.1
  obtain ⟨a0, a1, B, E, J, x1, x2, x3, x4⟩ := g.2.2.2.2.1
  have gg : GS (AXi h S W l w i) made t l w S W := GS_AX g
  have gg1 := gg.1
  obtain ⟨C1, F1, y1, y2⟩ := gg.2.2.2.2.2.1
  obtain ⟨F, sk⟩ := g_seek (d := d) (n := n) g hi (-1)
  have g3 : GS (Sr (AXi h S W l w i) (phS S W l w i (-1) F)) made t l w S W := GS_Sr gg
  have g31 := g3.1
  have g32 : Sr (AXi h S W l w i) (phS S W l w i (-1) F) 22 = _ := Sr_22
  refine ⟨_, ?_, g3, Fr_trans Fr_AX Fr_Sr⟩
  rw [← phS_1 (wt := -1) (F := F)]
  first | refine ev_aload_n dX9_phrases_0 rfl ?_ | refine ev_aload_nN dX9_phrases_0 rfl ?_
  refine ev_iload_n dX9_phrases_1 rfl ?_
  refine ev_V1 dX9_phrases_2 st_RX9_100 na_X9_pairThatIsThere (Nat.le_of_ble_eq_true rfl) (Nat.le_of_ble_eq_true rfl) (by repeat (first | assumption | exact up_s | refine (up_n (by omega)).trans ?_)) rfl (m9_pairT g hi ht) ?_
  first | refine ev_astore_n dX9_phrases_5 (Nat.le_of_ble_eq_true rfl) ?_ | refine ev_astore_nN dX9_phrases_5 (Nat.le_of_ble_eq_true rfl) ?_
  first | refine ev_aload_n dX9_phrases_6 rfl ?_ | refine ev_aload_nN dX9_phrases_6 rfl ?_
  refine ev_getfield dX9_phrases_7 fl_RX9_26 (by repeat (first | assumption | exact up_s | refine (up_n (by omega)).trans ?_)) rfl ?_
  first | refine ev_aload_n dX9_phrases_10 rfl ?_ | refine ev_aload_nN dX9_phrases_10 rfl ?_
  first | refine ev_aload_n dX9_phrases_11 rfl ?_ | refine ev_aload_nN dX9_phrases_11 rfl ?_
  refine ev_getfield dX9_phrases_12 fl_RX9_19 (by repeat (first | assumption | exact up_s | refine (up_n (by omega)).trans ?_)) rfl ?_
  refine ev_V2v dX9_phrases_15 st_RX9_157 na_X0_align (Nat.le_of_ble_eq_true rfl) (Nat.le_of_ble_eq_true rfl) (by repeat (first | assumption | exact up_s | refine (up_n (by omega)).trans ?_)) rfl (g_align g hi) ?_
  first | refine ev_aload_n dX9_phrases_18 rfl ?_ | refine ev_aload_nN dX9_phrases_18 rfl ?_
  refine ev_getfield dX9_phrases_19 fl_RX9_33 (by repeat (first | assumption | exact up_s | refine (up_n (by omega)).trans ?_)) rfl ?_
  first | refine ev_aload_n dX9_phrases_22 rfl ?_ | refine ev_aload_nN dX9_phrases_22 rfl ?_
  refine ev_getfield dX9_phrases_23 fl_RX9_26 (by repeat (first | assumption | exact up_s | refine (up_n (by omega)).trans ?_)) rfl ?_
  refine ev_iconst dX9_phrases_26 cm1 ?_
  refine ev_V2v dX9_phrases_27 st_RX9_165 na_X5_seek (Nat.le_of_ble_eq_true rfl) (Nat.le_of_ble_eq_true rfl) (by repeat (first | assumption | exact up_s | refine (up_n (by omega)).trans ?_)) rfl (sk) ?_
  first | refine ev_aload_n dX9_phrases_30 rfl ?_ | refine ev_aload_nN dX9_phrases_30 rfl ?_
  refine ev_getfield dX9_phrases_31 fl_RX9_33 (by repeat (first | assumption | exact up_s | refine (up_n (by omega)).trans ?_)) rfl ?_
  refine ev_V0 dX9_phrases_34 st_RX9_169 na_X5_count (Nat.le_of_ble_eq_true rfl) (Nat.le_of_ble_eq_true rfl) (by repeat (first | assumption | exact up_s | refine (up_n (by omega)).trans ?_)) rfl (m5_count g32) ?_
  exact ev_ireturnE dX9_phrases_37 rfl (by rfl)
theorem m9_phrasesF (g : GS h made t l w S W) {x : Int32} (hx : ¬ itIs x made t) : Ev (d + 6) MX9_phrases 0 (lv_args 0 [.ref 2, .int x]) [] n h (.inr IOE, n, h, 1, 6) := by
  have g1 := g.1
  first | refine ev_aload_n dX9_phrases_0 rfl ?_ | refine ev_aload_nN dX9_phrases_0 rfl ?_
  refine ev_iload_n dX9_phrases_1 rfl ?_
  exact ev_callVx (as := [_]) dX9_phrases_2 st_RX9_100 na_X9_pairThatIsThere (Nat.le_of_ble_eq_true rfl) (Nat.le_of_ble_eq_true rfl) (by repeat (first | assumption | exact up_s | refine (up_n (by omega)).trans ?_)) rfl rfl (m9_pairF g hx)
theorem m9_phraseF (g : GS h made t l w S W) {x y z : Int32} (hx : ¬ itIs x made t) : Ev (d + 6) MX9_phrase 0 (lv_args 0 [.ref 2, .int x, .int y, .int z]) [] n h (.inr IOE, n, h, 1, 6) := by
  have g1 := g.1
  first | refine ev_aload_n dX9_phrase_0 rfl ?_ | refine ev_aload_nN dX9_phrase_0 rfl ?_
  refine ev_iload_n dX9_phrase_1 rfl ?_
  exact ev_callVx (as := [_]) dX9_phrase_2 st_RX9_100 na_X9_pairThatIsThere (Nat.le_of_ble_eq_true rfl) (Nat.le_of_ble_eq_true rfl) (by repeat (first | assumption | exact up_s | refine (up_n (by omega)).trans ?_)) rfl rfl (m9_pairF g hx)
theorem m9_phrase1 (g : GS h made t l w S W) {i : Nat} (hi : i < made) (ht : t i = 1) {y z : Int32} (hy : ¬ inN y (phN S W l w i)) : ∃ h', Ev (d + 6) MX9_phrase 0 (lv_args 0 [.ref 2, .int (nI i), .int y, .int z]) [] n h (.inr IOE, n, h', 1, 6) ∧ GS h' made t l w S W ∧ Fr h h' := by
  have g1 := g.1
  have hp := GS_Pr g hi
  have hp1 := hp.1
  obtain ⟨a0, a1, B, E, J, x1, x2, x3, x4⟩ := g.2.2.2.2.1
  have gg : GS (AXi h S W l w i) made t l w S W := GS_AX g
  have gg1 := gg.1
  obtain ⟨C1, F1, y1, y2⟩ := gg.2.2.2.2.2.1
  obtain ⟨F, sk⟩ := g_seek (d := d) (n := n) g hi y
  have g3 : GS (Sr (AXi h S W l w i) (phS S W l w i y F)) made t l w S W := GS_Sr gg
  have g31 := g3.1
  have g32 : Sr (AXi h S W l w i) (phS S W l w i y F) 22 = _ := Sr_22
  have hN := phN_le (S := S) (W := W) (w := w) hp.2.1.2.2.1 hp.2.2.2.2.1
  have e9 := phS_1 (S := S) (W := W) (l := l) (w := w) (i := i) (wt := y) (F := F)
  refine ⟨_, ?_, g3, Fr_trans Fr_AX Fr_Sr⟩
  rcases inN_not hy with q | ⟨j, q1, q2, rfl⟩
  · first | refine ev_aload_n dX9_phrase_0 rfl ?_ | refine ev_aload_nN dX9_phrase_0 rfl ?_
    refine ev_iload_n dX9_phrase_1 rfl ?_
    refine ev_V1 dX9_phrase_2 st_RX9_100 na_X9_pairThatIsThere (Nat.le_of_ble_eq_true rfl) (Nat.le_of_ble_eq_true rfl) (by repeat (first | assumption | exact up_s | refine (up_n (by omega)).trans ?_)) rfl (m9_pairT g hi ht) ?_
    refine ev_astore dX9_phrase_5 (Nat.le_of_ble_eq_true rfl) ?_
    first | refine ev_aload_n dX9_phrase_7 rfl ?_ | refine ev_aload_nN dX9_phrase_7 rfl ?_
    refine ev_getfield dX9_phrase_8 fl_RX9_26 (by repeat (first | assumption | exact up_s | refine (up_n (by omega)).trans ?_)) rfl ?_
    first | refine ev_aload dX9_phrase_11 rfl ?_ | refine ev_aloadN dX9_phrase_11 rfl ?_
    first | refine ev_aload_n dX9_phrase_13 rfl ?_ | refine ev_aload_nN dX9_phrase_13 rfl ?_
    refine ev_getfield dX9_phrase_14 fl_RX9_19 (by repeat (first | assumption | exact up_s | refine (up_n (by omega)).trans ?_)) rfl ?_
    refine ev_V2v dX9_phrase_17 st_RX9_157 na_X0_align (Nat.le_of_ble_eq_true rfl) (Nat.le_of_ble_eq_true rfl) (by repeat (first | assumption | exact up_s | refine (up_n (by omega)).trans ?_)) rfl (g_align g hi) ?_
    first | refine ev_aload_n dX9_phrase_20 rfl ?_ | refine ev_aload_nN dX9_phrase_20 rfl ?_
    refine ev_getfield dX9_phrase_21 fl_RX9_33 (by repeat (first | assumption | exact up_s | refine (up_n (by omega)).trans ?_)) rfl ?_
    first | refine ev_aload_n dX9_phrase_24 rfl ?_ | refine ev_aload_nN dX9_phrase_24 rfl ?_
    refine ev_getfield dX9_phrase_25 fl_RX9_26 (by repeat (first | assumption | exact up_s | refine (up_n (by omega)).trans ?_)) rfl ?_
    refine ev_iload_n dX9_phrase_28 rfl ?_
    refine ev_V2v dX9_phrase_29 st_RX9_165 na_X5_seek (Nat.le_of_ble_eq_true rfl) (Nat.le_of_ble_eq_true rfl) (by repeat (first | assumption | exact up_s | refine (up_n (by omega)).trans ?_)) rfl (sk) ?_
    refine ev_iload_n dX9_phrase_32 rfl ?_
    refine ev_if_ltT (tgt := 47) dX9_phrase_33 (by decide) (by first | assumption | decide) ?_
    exact ev_throwS th_X9_phrase_47 (Nat.le_of_ble_eq_true rfl) rfl
  · first | refine ev_aload_n dX9_phrase_0 rfl ?_ | refine ev_aload_nN dX9_phrase_0 rfl ?_
    refine ev_iload_n dX9_phrase_1 rfl ?_
    refine ev_V1 dX9_phrase_2 st_RX9_100 na_X9_pairThatIsThere (Nat.le_of_ble_eq_true rfl) (Nat.le_of_ble_eq_true rfl) (by repeat (first | assumption | exact up_s | refine (up_n (by omega)).trans ?_)) rfl (m9_pairT g hi ht) ?_
    refine ev_astore dX9_phrase_5 (Nat.le_of_ble_eq_true rfl) ?_
    first | refine ev_aload_n dX9_phrase_7 rfl ?_ | refine ev_aload_nN dX9_phrase_7 rfl ?_
    refine ev_getfield dX9_phrase_8 fl_RX9_26 (by repeat (first | assumption | exact up_s | refine (up_n (by omega)).trans ?_)) rfl ?_
    first | refine ev_aload dX9_phrase_11 rfl ?_ | refine ev_aloadN dX9_phrase_11 rfl ?_
    first | refine ev_aload_n dX9_phrase_13 rfl ?_ | refine ev_aload_nN dX9_phrase_13 rfl ?_
    refine ev_getfield dX9_phrase_14 fl_RX9_19 (by repeat (first | assumption | exact up_s | refine (up_n (by omega)).trans ?_)) rfl ?_
    refine ev_V2v dX9_phrase_17 st_RX9_157 na_X0_align (Nat.le_of_ble_eq_true rfl) (Nat.le_of_ble_eq_true rfl) (by repeat (first | assumption | exact up_s | refine (up_n (by omega)).trans ?_)) rfl (g_align g hi) ?_
    first | refine ev_aload_n dX9_phrase_20 rfl ?_ | refine ev_aload_nN dX9_phrase_20 rfl ?_
    refine ev_getfield dX9_phrase_21 fl_RX9_33 (by repeat (first | assumption | exact up_s | refine (up_n (by omega)).trans ?_)) rfl ?_
    first | refine ev_aload_n dX9_phrase_24 rfl ?_ | refine ev_aload_nN dX9_phrase_24 rfl ?_
    refine ev_getfield dX9_phrase_25 fl_RX9_26 (by repeat (first | assumption | exact up_s | refine (up_n (by omega)).trans ?_)) rfl ?_
    refine ev_iload_n dX9_phrase_28 rfl ?_
    refine ev_V2v dX9_phrase_29 st_RX9_165 na_X5_seek (Nat.le_of_ble_eq_true rfl) (Nat.le_of_ble_eq_true rfl) (by repeat (first | assumption | exact up_s | refine (up_n (by omega)).trans ?_)) rfl (sk) ?_
    refine ev_iload_n dX9_phrase_32 rfl ?_
    refine ev_if_ltF dX9_phrase_33 47 (by decide) (by first | assumption | exact nI_pos (by omega) | decide) ?_
    refine ev_iload_n dX9_phrase_36 rfl ?_
    first | refine ev_aload_n dX9_phrase_37 rfl ?_ | refine ev_aload_nN dX9_phrase_37 rfl ?_
    refine ev_getfield dX9_phrase_38 fl_RX9_33 (by repeat (first | assumption | exact up_s | refine (up_n (by omega)).trans ?_)) rfl ?_
    refine ev_V0 dX9_phrase_41 st_RX9_169 na_X5_count (Nat.le_of_ble_eq_true rfl) (Nat.le_of_ble_eq_true rfl) (by repeat (first | assumption | exact up_s | refine (up_n (by omega)).trans ?_)) rfl (m5_count g32) ?_
    refine ev_icmp_ltF dX9_phrase_44 57 (by decide) (by first | assumption | exact nI_nlt (by omega) (by omega) | decide) ?_
    exact ev_throwS th_X9_phrase_47 (Nat.le_of_ble_eq_true rfl) rfl
theorem m9_phrase2 (g : GS h made t l w S W) {i K : Nat} (hi : i < made) (ht : t i = 1) {z : Int32} (hy : K < phN S W l w i) (hz : ¬ inN z 4) : ∃ h', Ev (d + 6) MX9_phrase 0 (lv_args 0 [.ref 2, .int (nI i), .int (nI K), .int z]) [] n h (.inr "java/lang/IllegalArgumentException", n, h', 1, 6) ∧ GS h' made t l w S W ∧ Fr h h' := by
  have g1 := g.1
  have hp := GS_Pr g hi
  have hp1 := hp.1
  obtain ⟨a0, a1, B, E, J, x1, x2, x3, x4⟩ := g.2.2.2.2.1
  have gg : GS (AXi h S W l w i) made t l w S W := GS_AX g
  have gg1 := gg.1
  obtain ⟨C1, F1, y1, y2⟩ := gg.2.2.2.2.2.1
  obtain ⟨F, sk⟩ := g_seek (d := d) (n := n) g hi (nI K)
  have g3 : GS (Sr (AXi h S W l w i) (phS S W l w i (nI K) F)) made t l w S W := GS_Sr gg
  have g31 := g3.1
  have g32 : Sr (AXi h S W l w i) (phS S W l w i (nI K) F) 22 = _ := Sr_22
  have hN := phN_le (S := S) (W := W) (w := w) hp.2.1.2.2.1 hp.2.2.2.2.1
  have e9 := phS_1 (S := S) (W := W) (l := l) (w := w) (i := i) (wt := nI K) (F := F)
  refine ⟨_, ?_, g3, Fr_trans Fr_AX Fr_Sr⟩
  rcases inN_not hz with q | ⟨j, q1, q2, rfl⟩
  · first | refine ev_aload_n dX9_phrase_0 rfl ?_ | refine ev_aload_nN dX9_phrase_0 rfl ?_
    refine ev_iload_n dX9_phrase_1 rfl ?_
    refine ev_V1 dX9_phrase_2 st_RX9_100 na_X9_pairThatIsThere (Nat.le_of_ble_eq_true rfl) (Nat.le_of_ble_eq_true rfl) (by repeat (first | assumption | exact up_s | refine (up_n (by omega)).trans ?_)) rfl (m9_pairT g hi ht) ?_
    refine ev_astore dX9_phrase_5 (Nat.le_of_ble_eq_true rfl) ?_
    first | refine ev_aload_n dX9_phrase_7 rfl ?_ | refine ev_aload_nN dX9_phrase_7 rfl ?_
    refine ev_getfield dX9_phrase_8 fl_RX9_26 (by repeat (first | assumption | exact up_s | refine (up_n (by omega)).trans ?_)) rfl ?_
    first | refine ev_aload dX9_phrase_11 rfl ?_ | refine ev_aloadN dX9_phrase_11 rfl ?_
    first | refine ev_aload_n dX9_phrase_13 rfl ?_ | refine ev_aload_nN dX9_phrase_13 rfl ?_
    refine ev_getfield dX9_phrase_14 fl_RX9_19 (by repeat (first | assumption | exact up_s | refine (up_n (by omega)).trans ?_)) rfl ?_
    refine ev_V2v dX9_phrase_17 st_RX9_157 na_X0_align (Nat.le_of_ble_eq_true rfl) (Nat.le_of_ble_eq_true rfl) (by repeat (first | assumption | exact up_s | refine (up_n (by omega)).trans ?_)) rfl (g_align g hi) ?_
    first | refine ev_aload_n dX9_phrase_20 rfl ?_ | refine ev_aload_nN dX9_phrase_20 rfl ?_
    refine ev_getfield dX9_phrase_21 fl_RX9_33 (by repeat (first | assumption | exact up_s | refine (up_n (by omega)).trans ?_)) rfl ?_
    first | refine ev_aload_n dX9_phrase_24 rfl ?_ | refine ev_aload_nN dX9_phrase_24 rfl ?_
    refine ev_getfield dX9_phrase_25 fl_RX9_26 (by repeat (first | assumption | exact up_s | refine (up_n (by omega)).trans ?_)) rfl ?_
    refine ev_iload_n dX9_phrase_28 rfl ?_
    refine ev_V2v dX9_phrase_29 st_RX9_165 na_X5_seek (Nat.le_of_ble_eq_true rfl) (Nat.le_of_ble_eq_true rfl) (by repeat (first | assumption | exact up_s | refine (up_n (by omega)).trans ?_)) rfl (sk) ?_
    refine ev_iload_n dX9_phrase_32 rfl ?_
    refine ev_if_ltF dX9_phrase_33 47 (by decide) (by first | assumption | exact nI_pos (by omega) | decide) ?_
    refine ev_iload_n dX9_phrase_36 rfl ?_
    first | refine ev_aload_n dX9_phrase_37 rfl ?_ | refine ev_aload_nN dX9_phrase_37 rfl ?_
    refine ev_getfield dX9_phrase_38 fl_RX9_33 (by repeat (first | assumption | exact up_s | refine (up_n (by omega)).trans ?_)) rfl ?_
    refine ev_V0 dX9_phrase_41 st_RX9_169 na_X5_count (Nat.le_of_ble_eq_true rfl) (Nat.le_of_ble_eq_true rfl) (by repeat (first | assumption | exact up_s | refine (up_n (by omega)).trans ?_)) rfl (m5_count g32) ?_
    refine ev_icmp_ltT (tgt := 57) dX9_phrase_44 (by decide) (by first | assumption | exact nI_lt (by omega) (by omega) | decide) ?_
    refine ev_iload_n dX9_phrase_57 rfl ?_
    refine ev_if_ltT (tgt := 66) dX9_phrase_58 (by decide) (by first | assumption | decide) ?_
    exact ev_throwS th_X9_phrase_66 (Nat.le_of_ble_eq_true rfl) rfl
  · first | refine ev_aload_n dX9_phrase_0 rfl ?_ | refine ev_aload_nN dX9_phrase_0 rfl ?_
    refine ev_iload_n dX9_phrase_1 rfl ?_
    refine ev_V1 dX9_phrase_2 st_RX9_100 na_X9_pairThatIsThere (Nat.le_of_ble_eq_true rfl) (Nat.le_of_ble_eq_true rfl) (by repeat (first | assumption | exact up_s | refine (up_n (by omega)).trans ?_)) rfl (m9_pairT g hi ht) ?_
    refine ev_astore dX9_phrase_5 (Nat.le_of_ble_eq_true rfl) ?_
    first | refine ev_aload_n dX9_phrase_7 rfl ?_ | refine ev_aload_nN dX9_phrase_7 rfl ?_
    refine ev_getfield dX9_phrase_8 fl_RX9_26 (by repeat (first | assumption | exact up_s | refine (up_n (by omega)).trans ?_)) rfl ?_
    first | refine ev_aload dX9_phrase_11 rfl ?_ | refine ev_aloadN dX9_phrase_11 rfl ?_
    first | refine ev_aload_n dX9_phrase_13 rfl ?_ | refine ev_aload_nN dX9_phrase_13 rfl ?_
    refine ev_getfield dX9_phrase_14 fl_RX9_19 (by repeat (first | assumption | exact up_s | refine (up_n (by omega)).trans ?_)) rfl ?_
    refine ev_V2v dX9_phrase_17 st_RX9_157 na_X0_align (Nat.le_of_ble_eq_true rfl) (Nat.le_of_ble_eq_true rfl) (by repeat (first | assumption | exact up_s | refine (up_n (by omega)).trans ?_)) rfl (g_align g hi) ?_
    first | refine ev_aload_n dX9_phrase_20 rfl ?_ | refine ev_aload_nN dX9_phrase_20 rfl ?_
    refine ev_getfield dX9_phrase_21 fl_RX9_33 (by repeat (first | assumption | exact up_s | refine (up_n (by omega)).trans ?_)) rfl ?_
    first | refine ev_aload_n dX9_phrase_24 rfl ?_ | refine ev_aload_nN dX9_phrase_24 rfl ?_
    refine ev_getfield dX9_phrase_25 fl_RX9_26 (by repeat (first | assumption | exact up_s | refine (up_n (by omega)).trans ?_)) rfl ?_
    refine ev_iload_n dX9_phrase_28 rfl ?_
    refine ev_V2v dX9_phrase_29 st_RX9_165 na_X5_seek (Nat.le_of_ble_eq_true rfl) (Nat.le_of_ble_eq_true rfl) (by repeat (first | assumption | exact up_s | refine (up_n (by omega)).trans ?_)) rfl (sk) ?_
    refine ev_iload_n dX9_phrase_32 rfl ?_
    refine ev_if_ltF dX9_phrase_33 47 (by decide) (by first | assumption | exact nI_pos (by omega) | decide) ?_
    refine ev_iload_n dX9_phrase_36 rfl ?_
    first | refine ev_aload_n dX9_phrase_37 rfl ?_ | refine ev_aload_nN dX9_phrase_37 rfl ?_
    refine ev_getfield dX9_phrase_38 fl_RX9_33 (by repeat (first | assumption | exact up_s | refine (up_n (by omega)).trans ?_)) rfl ?_
    refine ev_V0 dX9_phrase_41 st_RX9_169 na_X5_count (Nat.le_of_ble_eq_true rfl) (Nat.le_of_ble_eq_true rfl) (by repeat (first | assumption | exact up_s | refine (up_n (by omega)).trans ?_)) rfl (m5_count g32) ?_
    refine ev_icmp_ltT (tgt := 57) dX9_phrase_44 (by decide) (by first | assumption | exact nI_lt (by omega) (by omega) | decide) ?_
    refine ev_iload_n dX9_phrase_57 rfl ?_
    refine ev_if_ltF dX9_phrase_58 66 (by decide) (by first | assumption | exact nI_pos (by omega) | decide) ?_
    refine ev_iload_n dX9_phrase_61 rfl ?_
    refine ev_iconst dX9_phrase_62 ci4 ?_
    refine ev_icmp_ltF dX9_phrase_63 76 (by decide) (by first | assumption | exact nI_nlt (by omega) (by omega) | decide) ?_
    exact ev_throwS th_X9_phrase_66 (Nat.le_of_ble_eq_true rfl) rfl
theorem m9_phraseT (g : GS h made t l w S W) {i K k : Nat} (hi : i < made) (ht : t i = 1) (hy : K < phN S W l w i) (hk : k < 4) : ∃ h', Ev (d + 6) MX9_phrase 0 (lv_args 0 [.ref 2, .int (nI i), .int (nI K), .int (nI k)]) [] n h (.inl (some (.int (nI ((phS S W l w i (nI K) (fun _ => 0)).2 k)))), n, h', 0, 0) ∧ GS h' made t l w S W ∧ Fr h h' := by
  have g1 := g.1
  have hp := GS_Pr g hi
  have hp1 := hp.1
  obtain ⟨a0, a1, B, E, J, x1, x2, x3, x4⟩ := g.2.2.2.2.1
  have gg : GS (AXi h S W l w i) made t l w S W := GS_AX g
  have gg1 := gg.1
  obtain ⟨C1, F1, y1, y2⟩ := gg.2.2.2.2.2.1
  obtain ⟨F, sk⟩ := g_seek (d := d) (n := n) g hi (nI K)
  have g3 : GS (Sr (AXi h S W l w i) (phS S W l w i (nI K) F)) made t l w S W := GS_Sr gg
  have g31 := g3.1
  have g32 : Sr (AXi h S W l w i) (phS S W l w i (nI K) F) 22 = _ := Sr_22
  have g33 : Sr (AXi h S W l w i) (phS S W l w i (nI K) F) 23 = _ := Sr_23
  have hN := phN_le (S := S) (W := W) (w := w) hp.2.1.2.2.1 hp.2.2.2.2.1
  have e9 := phS_1 (S := S) (W := W) (l := l) (w := w) (i := i) (wt := nI K) (F := F)
  have e8 : (phS S W l w i (nI K) F).2 k = (phS S W l w i (nI K) (fun _ => 0)).2 k := pAll_ends (by rw [← e9] at hy; exact hy) hk
  refine ⟨_, ?_, g3, Fr_trans Fr_AX Fr_Sr⟩
  rw [← e8]
  first | refine ev_aload_n dX9_phrase_0 rfl ?_ | refine ev_aload_nN dX9_phrase_0 rfl ?_
  refine ev_iload_n dX9_phrase_1 rfl ?_
  refine ev_V1 dX9_phrase_2 st_RX9_100 na_X9_pairThatIsThere (Nat.le_of_ble_eq_true rfl) (Nat.le_of_ble_eq_true rfl) (by repeat (first | assumption | exact up_s | refine (up_n (by omega)).trans ?_)) rfl (m9_pairT g hi ht) ?_
  refine ev_astore dX9_phrase_5 (Nat.le_of_ble_eq_true rfl) ?_
  first | refine ev_aload_n dX9_phrase_7 rfl ?_ | refine ev_aload_nN dX9_phrase_7 rfl ?_
  refine ev_getfield dX9_phrase_8 fl_RX9_26 (by repeat (first | assumption | exact up_s | refine (up_n (by omega)).trans ?_)) rfl ?_
  first | refine ev_aload dX9_phrase_11 rfl ?_ | refine ev_aloadN dX9_phrase_11 rfl ?_
  first | refine ev_aload_n dX9_phrase_13 rfl ?_ | refine ev_aload_nN dX9_phrase_13 rfl ?_
  refine ev_getfield dX9_phrase_14 fl_RX9_19 (by repeat (first | assumption | exact up_s | refine (up_n (by omega)).trans ?_)) rfl ?_
  refine ev_V2v dX9_phrase_17 st_RX9_157 na_X0_align (Nat.le_of_ble_eq_true rfl) (Nat.le_of_ble_eq_true rfl) (by repeat (first | assumption | exact up_s | refine (up_n (by omega)).trans ?_)) rfl (g_align g hi) ?_
  first | refine ev_aload_n dX9_phrase_20 rfl ?_ | refine ev_aload_nN dX9_phrase_20 rfl ?_
  refine ev_getfield dX9_phrase_21 fl_RX9_33 (by repeat (first | assumption | exact up_s | refine (up_n (by omega)).trans ?_)) rfl ?_
  first | refine ev_aload_n dX9_phrase_24 rfl ?_ | refine ev_aload_nN dX9_phrase_24 rfl ?_
  refine ev_getfield dX9_phrase_25 fl_RX9_26 (by repeat (first | assumption | exact up_s | refine (up_n (by omega)).trans ?_)) rfl ?_
  refine ev_iload_n dX9_phrase_28 rfl ?_
  refine ev_V2v dX9_phrase_29 st_RX9_165 na_X5_seek (Nat.le_of_ble_eq_true rfl) (Nat.le_of_ble_eq_true rfl) (by repeat (first | assumption | exact up_s | refine (up_n (by omega)).trans ?_)) rfl (sk) ?_
  refine ev_iload_n dX9_phrase_32 rfl ?_
  refine ev_if_ltF dX9_phrase_33 47 (by decide) (by first | assumption | exact nI_pos (by omega) | decide) ?_
  refine ev_iload_n dX9_phrase_36 rfl ?_
  first | refine ev_aload_n dX9_phrase_37 rfl ?_ | refine ev_aload_nN dX9_phrase_37 rfl ?_
  refine ev_getfield dX9_phrase_38 fl_RX9_33 (by repeat (first | assumption | exact up_s | refine (up_n (by omega)).trans ?_)) rfl ?_
  refine ev_V0 dX9_phrase_41 st_RX9_169 na_X5_count (Nat.le_of_ble_eq_true rfl) (Nat.le_of_ble_eq_true rfl) (by repeat (first | assumption | exact up_s | refine (up_n (by omega)).trans ?_)) rfl (m5_count g32) ?_
  refine ev_icmp_ltT (tgt := 57) dX9_phrase_44 (by decide) (by first | assumption | exact nI_lt (by omega) (by omega) | decide) ?_
  refine ev_iload_n dX9_phrase_57 rfl ?_
  refine ev_if_ltF dX9_phrase_58 66 (by decide) (by first | assumption | exact nI_pos (by omega) | decide) ?_
  refine ev_iload_n dX9_phrase_61 rfl ?_
  refine ev_iconst dX9_phrase_62 ci4 ?_
  refine ev_icmp_ltT (tgt := 76) dX9_phrase_63 (by decide) (by first | assumption | exact nI_lt (by omega) (by omega) | decide) ?_
  first | refine ev_aload_n dX9_phrase_76 rfl ?_ | refine ev_aload_nN dX9_phrase_76 rfl ?_
  refine ev_getfield dX9_phrase_77 fl_RX9_33 (by repeat (first | assumption | exact up_s | refine (up_n (by omega)).trans ?_)) rfl ?_
  refine ev_iload_n dX9_phrase_80 rfl ?_
  refine ev_V1 dX9_phrase_81 st_RX9_176 na_X5_endOfFound (Nat.le_of_ble_eq_true rfl) (Nat.le_of_ble_eq_true rfl) (by repeat (first | assumption | exact up_s | refine (up_n (by omega)).trans ?_)) rfl (m5_endOfFound g32 g33 hk) ?_
  exact ev_ireturnE dX9_phrase_84 rfl (by rfl)
end M9D
