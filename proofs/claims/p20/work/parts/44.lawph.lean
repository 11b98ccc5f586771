/-! the law: phrases -/
theorem bo_ngt {A q : Nat} (h : A ≤ q) (hq : q < 65536) : ¬ nI q ≤ bo A := by
  cases A with
  | zero => exact fun c => nI_pos (show q < 2 ^ 31 by omega) (Int32.lt_of_le_of_lt c m1_lt)
  | succ s => rw [bo_s]; exact nI_ge (by omega) (by omega)
theorem ite01 (p : Prop) [Decidable p] : (if p then 1 else 0 : Nat) ≤ 1 := by split <;> omega
section LPH
variable {d n : Nat} {h : Hp} {made : Nat} {t : Nat → Nat} {l : Nat → Nat → Nat} {w : Nat → Nat → Nat → Nat} {S : Nat → Nat → Nat} {W : Nat → Nat} {i N k a b c e q wn m u x1 x2 : Nat} {o9 : Out}
theorem ph_B (hm : m < 64) (ha : a < 8) (hb : b < 8) (K : Ev d ML_arePhrases 286 [(0, .ref 2), (1, .ref 33), (2, .int (nI i)), (3, .int (nI N)), (4, .int (nI 1)), (6, .int (nI k)), (7, .int (nI a)), (8, .int (nI b)), (9, .int (nI c)), (10, .int (nI e)), (11, .int (nI q)), (12, .int (nI (wn))), (13, .int (nI (m))), (14, .int (nI u)), (15, .int (nI (bI (a ≤ m / 8 ∧ m / 8 ≤ b))))] [] n h o9) : Ev d ML_arePhrases 259 [(0, .ref 2), (1, .ref 33), (2, .int (nI i)), (3, .int (nI N)), (4, .int (nI 1)), (6, .int (nI k)), (7, .int (nI a)), (8, .int (nI b)), (9, .int (nI c)), (10, .int (nI e)), (11, .int (nI q)), (12, .int (nI (wn))), (13, .int (nI (m))), (14, .int (nI u))] [] n h o9 := by
  by_cases z : a ≤ m / 8
  · by_cases z2 : m / 8 ≤ b
    · rw [bI_t ⟨z, z2⟩] at K
      refine ev_iload dL_arePhrases_259 rfl ?_
      refine ev_bipush dL_arePhrases_261 bp8 ?_
      refine ev_idivN dL_arePhrases_263 (by omega) (by omega) (by omega) ?_
      refine ev_iload dL_arePhrases_264 rfl ?_
      refine ev_icmp_ltF dL_arePhrases_266 283 (by decide) (by first | assumption | exact nI_nlt (by omega) (by omega) | decide) ?_
      refine ev_iload dL_arePhrases_269 rfl ?_
      refine ev_bipush dL_arePhrases_271 bp8 ?_
      refine ev_idivN dL_arePhrases_273 (by omega) (by omega) (by omega) ?_
      refine ev_iload dL_arePhrases_274 rfl ?_
      refine ev_icmp_gtF dL_arePhrases_276 283 (by decide) (by first | assumption | exact nI_nlt (by omega) (by omega) | decide) ?_
      refine ev_iconst dL_arePhrases_279 ci1 ?_
      refine ev_goto (tgt := 284) dL_arePhrases_280 (by decide) ?_
      refine ev_istore dL_arePhrases_284 (Nat.le_of_ble_eq_true rfl) ?_
      refine ev_sub ?_ (K)
      repeat (first | exact trivial | refine ⟨rfl, ?_⟩)
    · rw [bI_f (fun y => z2 y.2)] at K
      refine ev_iload dL_arePhrases_259 rfl ?_
      refine ev_bipush dL_arePhrases_261 bp8 ?_
      refine ev_idivN dL_arePhrases_263 (by omega) (by omega) (by omega) ?_
      refine ev_iload dL_arePhrases_264 rfl ?_
      refine ev_icmp_ltF dL_arePhrases_266 283 (by decide) (by first | assumption | exact nI_nlt (by omega) (by omega) | decide) ?_
      refine ev_iload dL_arePhrases_269 rfl ?_
      refine ev_bipush dL_arePhrases_271 bp8 ?_
      refine ev_idivN dL_arePhrases_273 (by omega) (by omega) (by omega) ?_
      refine ev_iload dL_arePhrases_274 rfl ?_
      refine ev_icmp_gtT (tgt := 283) dL_arePhrases_276 (by decide) (by first | assumption | exact nI_lt (by omega) (by omega) | decide) ?_
      refine ev_iconst dL_arePhrases_283 ci0 ?_
      refine ev_istore dL_arePhrases_284 (Nat.le_of_ble_eq_true rfl) ?_
      refine ev_sub ?_ (K)
      repeat (first | exact trivial | refine ⟨rfl, ?_⟩)
  · rw [bI_f (fun y => z y.1)] at K
    refine ev_iload dL_arePhrases_259 rfl ?_
    refine ev_bipush dL_arePhrases_261 bp8 ?_
    refine ev_idivN dL_arePhrases_263 (by omega) (by omega) (by omega) ?_
    refine ev_iload dL_arePhrases_264 rfl ?_
    refine ev_icmp_ltT (tgt := 283) dL_arePhrases_266 (by decide) (by first | assumption | exact nI_lt (by omega) (by omega) | decide) ?_
    refine ev_iconst dL_arePhrases_283 ci0 ?_
    refine ev_istore dL_arePhrases_284 (Nat.le_of_ble_eq_true rfl) ?_
    refine ev_sub ?_ (K)
    repeat (first | exact trivial | refine ⟨rfl, ?_⟩)
theorem ph_C (hm : m < 64) (ha : c < 8) (hb : e < 8) (K : Ev d ML_arePhrases 313 [(0, .ref 2), (1, .ref 33), (2, .int (nI i)), (3, .int (nI N)), (4, .int (nI 1)), (6, .int (nI k)), (7, .int (nI a)), (8, .int (nI b)), (9, .int (nI c)), (10, .int (nI e)), (11, .int (nI q)), (12, .int (nI (wn))), (13, .int (nI (m))), (14, .int (nI u)), (15, .int (nI x1)), (16, .int (nI (bI (c ≤ m % 8 ∧ m % 8 ≤ e))))] [] n h o9) : Ev d ML_arePhrases 286 [(0, .ref 2), (1, .ref 33), (2, .int (nI i)), (3, .int (nI N)), (4, .int (nI 1)), (6, .int (nI k)), (7, .int (nI a)), (8, .int (nI b)), (9, .int (nI c)), (10, .int (nI e)), (11, .int (nI q)), (12, .int (nI (wn))), (13, .int (nI (m))), (14, .int (nI u)), (15, .int (nI x1))] [] n h o9 := by
  by_cases z : c ≤ m % 8
  · by_cases z2 : m % 8 ≤ e
    · rw [bI_t ⟨z, z2⟩] at K
      refine ev_iload dL_arePhrases_286 rfl ?_
      refine ev_bipush dL_arePhrases_288 bp8 ?_
      refine ev_iremN dL_arePhrases_290 (by omega) (by omega) (by omega) ?_
      refine ev_iload dL_arePhrases_291 rfl ?_
      refine ev_icmp_ltF dL_arePhrases_293 310 (by decide) (by first | assumption | exact nI_nlt (by omega) (by omega) | decide) ?_
      refine ev_iload dL_arePhrases_296 rfl ?_
      refine ev_bipush dL_arePhrases_298 bp8 ?_
      refine ev_iremN dL_arePhrases_300 (by omega) (by omega) (by omega) ?_
      refine ev_iload dL_arePhrases_301 rfl ?_
      refine ev_icmp_gtF dL_arePhrases_303 310 (by decide) (by first | assumption | exact nI_nlt (by omega) (by omega) | decide) ?_
      refine ev_iconst dL_arePhrases_306 ci1 ?_
      refine ev_goto (tgt := 311) dL_arePhrases_307 (by decide) ?_
      refine ev_istore dL_arePhrases_311 (Nat.le_of_ble_eq_true rfl) ?_
      refine ev_sub ?_ (K)
      repeat (first | exact trivial | refine ⟨rfl, ?_⟩)
    · rw [bI_f (fun y => z2 y.2)] at K
      refine ev_iload dL_arePhrases_286 rfl ?_
      refine ev_bipush dL_arePhrases_288 bp8 ?_
      refine ev_iremN dL_arePhrases_290 (by omega) (by omega) (by omega) ?_
      refine ev_iload dL_arePhrases_291 rfl ?_
      refine ev_icmp_ltF dL_arePhrases_293 310 (by decide) (by first | assumption | exact nI_nlt (by omega) (by omega) | decide) ?_
      refine ev_iload dL_arePhrases_296 rfl ?_
      refine ev_bipush dL_arePhrases_298 bp8 ?_
      refine ev_iremN dL_arePhrases_300 (by omega) (by omega) (by omega) ?_
      refine ev_iload dL_arePhrases_301 rfl ?_
      refine ev_icmp_gtT (tgt := 310) dL_arePhrases_303 (by decide) (by first | assumption | exact nI_lt (by omega) (by omega) | decide) ?_
      refine ev_iconst dL_arePhrases_310 ci0 ?_
      refine ev_istore dL_arePhrases_311 (Nat.le_of_ble_eq_true rfl) ?_
      refine ev_sub ?_ (K)
      repeat (first | exact trivial | refine ⟨rfl, ?_⟩)
  · rw [bI_f (fun y => z y.1)] at K
    refine ev_iload dL_arePhrases_286 rfl ?_
    refine ev_bipush dL_arePhrases_288 bp8 ?_
    refine ev_iremN dL_arePhrases_290 (by omega) (by omega) (by omega) ?_
    refine ev_iload dL_arePhrases_291 rfl ?_
    refine ev_icmp_ltT (tgt := 310) dL_arePhrases_293 (by decide) (by first | assumption | exact nI_lt (by omega) (by omega) | decide) ?_
    refine ev_iconst dL_arePhrases_310 ci0 ?_
    refine ev_istore dL_arePhrases_311 (Nat.le_of_ble_eq_true rfl) ?_
    refine ev_sub ?_ (K)
    repeat (first | exact trivial | refine ⟨rfl, ?_⟩)
theorem ph_D (hu : u = 0 ∨ u = 1) (h1 : x1 = 0 ∨ x1 = 1) (hx : u = 1 → x1 = x2) (K : Ev d ML_arePhrases 198 [(0, .ref 2), (1, .ref 33), (2, .int (nI i)), (3, .int (nI N)), (4, .int (nI 1)), (6, .int (nI k)), (7, .int (nI a)), (8, .int (nI b)), (9, .int (nI c)), (10, .int (nI e)), (11, .int (nI q)), (12, .int (nI (wn + if u = 1 ∧ x1 = 1 then 1 else 0))), (13, .int (nI (m + 1)))] [] n h o9) : Ev d ML_arePhrases 313 [(0, .ref 2), (1, .ref 33), (2, .int (nI i)), (3, .int (nI N)), (4, .int (nI 1)), (6, .int (nI k)), (7, .int (nI a)), (8, .int (nI b)), (9, .int (nI c)), (10, .int (nI e)), (11, .int (nI q)), (12, .int (nI (wn))), (13, .int (nI (m))), (14, .int (nI u)), (15, .int (nI x1)), (16, .int (nI x2))] [] n h o9 := by
  rcases hu with rfl | rfl
  · rw [if_neg (by omega)] at K
    refine ev_iload dL_arePhrases_313 rfl ?_
    refine ev_iload dL_arePhrases_315 rfl ?_
    refine ev_iconst dL_arePhrases_317 ci1 ?_
    refine ev_icmp_neT (tgt := 335) dL_arePhrases_318 (by decide) (by first | assumption | exact n_ne (by omega) (by omega) (by omega) | decide) ?_
    refine ev_iconst dL_arePhrases_335 ci0 ?_
    first | refine ev_iaddN dL_arePhrases_336 ?_ | refine ev_iadd dL_arePhrases_336 ?_
    refine ev_istore dL_arePhrases_337 (Nat.le_of_ble_eq_true rfl) ?_
    refine ev_iload dL_arePhrases_339 rfl ?_
    refine ev_if_eqT (tgt := 351) dL_arePhrases_341 (by decide) (by first | assumption | exact z_eq (by omega) | decide) ?_
    refine ev_iconst dL_arePhrases_351 ci1 ?_
    refine ev_goto (tgt := 356) dL_arePhrases_352 (by decide) ?_
    refine ev_istore dL_arePhrases_356 (Nat.le_of_ble_eq_true rfl) ?_
    refine ev_iincN (b := 1) dL_arePhrases_358 rfl (Nat.le_of_ble_eq_true rfl) ?_
    refine ev_goto (tgt := 198) dL_arePhrases_361 (by decide) ?_
    refine ev_sub ?_ (K)
    repeat (first | exact trivial | refine ⟨rfl, ?_⟩)
  · have hx := hx rfl
    subst hx
    rcases h1 with rfl | rfl
    · rw [if_neg (by omega)] at K
      refine ev_iload dL_arePhrases_313 rfl ?_
      refine ev_iload dL_arePhrases_315 rfl ?_
      refine ev_iconst dL_arePhrases_317 ci1 ?_
      refine ev_icmp_neF dL_arePhrases_318 335 (by decide) (by first | assumption | exact n_eq (by omega) | decide) ?_
      refine ev_iload dL_arePhrases_321 rfl ?_
      refine ev_if_eqT (tgt := 335) dL_arePhrases_323 (by decide) (by first | assumption | exact z_eq (by omega) | decide) ?_
      refine ev_iconst dL_arePhrases_335 ci0 ?_
      first | refine ev_iaddN dL_arePhrases_336 ?_ | refine ev_iadd dL_arePhrases_336 ?_
      refine ev_istore dL_arePhrases_337 (Nat.le_of_ble_eq_true rfl) ?_
      refine ev_iload dL_arePhrases_339 rfl ?_
      refine ev_if_eqF dL_arePhrases_341 351 (by decide) (by first | assumption | exact nI_ne0 (by omega) (by omega) | decide) ?_
      refine ev_iload dL_arePhrases_344 rfl ?_
      refine ev_iload dL_arePhrases_346 rfl ?_
      refine ev_icmp_neF dL_arePhrases_348 355 (by decide) (by first | assumption | exact n_eq (by omega) | decide) ?_
      refine ev_iconst dL_arePhrases_351 ci1 ?_
      refine ev_goto (tgt := 356) dL_arePhrases_352 (by decide) ?_
      refine ev_istore dL_arePhrases_356 (Nat.le_of_ble_eq_true rfl) ?_
      refine ev_iincN (b := 1) dL_arePhrases_358 rfl (Nat.le_of_ble_eq_true rfl) ?_
      refine ev_goto (tgt := 198) dL_arePhrases_361 (by decide) ?_
      refine ev_sub ?_ (K)
      repeat (first | exact trivial | refine ⟨rfl, ?_⟩)
    · rw [if_pos ⟨rfl, rfl⟩] at K
      refine ev_iload dL_arePhrases_313 rfl ?_
      refine ev_iload dL_arePhrases_315 rfl ?_
      refine ev_iconst dL_arePhrases_317 ci1 ?_
      refine ev_icmp_neF dL_arePhrases_318 335 (by decide) (by first | assumption | exact n_eq (by omega) | decide) ?_
      refine ev_iload dL_arePhrases_321 rfl ?_
      refine ev_if_eqF dL_arePhrases_323 335 (by decide) (by first | assumption | exact nI_ne0 (by omega) (by omega) | decide) ?_
      refine ev_iload dL_arePhrases_326 rfl ?_
      refine ev_if_eqF dL_arePhrases_328 335 (by decide) (by first | assumption | exact nI_ne0 (by omega) (by omega) | decide) ?_
      refine ev_iconst dL_arePhrases_331 ci1 ?_
      refine ev_goto (tgt := 336) dL_arePhrases_332 (by decide) ?_
      first | refine ev_iaddN dL_arePhrases_336 ?_ | refine ev_iadd dL_arePhrases_336 ?_
      refine ev_istore dL_arePhrases_337 (Nat.le_of_ble_eq_true rfl) ?_
      refine ev_iload dL_arePhrases_339 rfl ?_
      refine ev_if_eqF dL_arePhrases_341 351 (by decide) (by first | assumption | exact nI_ne0 (by omega) (by omega) | decide) ?_
      refine ev_iload dL_arePhrases_344 rfl ?_
      refine ev_iload dL_arePhrases_346 rfl ?_
      refine ev_icmp_neF dL_arePhrases_348 355 (by decide) (by first | assumption | exact n_eq (by omega) | decide) ?_
      refine ev_iconst dL_arePhrases_351 ci1 ?_
      refine ev_goto (tgt := 356) dL_arePhrases_352 (by decide) ?_
      refine ev_istore dL_arePhrases_356 (Nat.le_of_ble_eq_true rfl) ?_
      refine ev_iincN (b := 1) dL_arePhrases_358 rfl (Nat.le_of_ble_eq_true rfl) ?_
      refine ev_goto (tgt := 198) dL_arePhrases_361 (by decide) ?_
      refine ev_sub ?_ (K)
      repeat (first | exact trivial | refine ⟨rfl, ?_⟩)
/-- joined links within -/
def wiF (J : Nat → Nat) (a b c e : Nat) : Nat → Nat := fun m => if (if TB J (m / 8) (m % 8) then 1 else 0) = 1 ∧ bI (a ≤ m / 8 ∧ m / 8 ≤ b) = 1 then 1 else 0
theorem lp_phI {G Z Lc Wc : Nat → Nat} (v : LW h G Z Lc Wc) (hi : i < made) (ht : t i = 1) (q0 : Lc (2 * i) = l 0 i) (q1 : Lc (2 * i + 1) = l 1 i) (ha : a < 8) (hb : b < 8) (hc : c < 8) (he : e < 8)
    (hJ : ∀ x y, TB (JJ S W l w i) x y → ((a ≤ x ∧ x ≤ b) ↔ (c ≤ y ∧ y ≤ e)))
    (K : ∀ h'', GS h'' made t l w S W → Fr h h'' → ∃ h2, Ev (d + 9) ML_arePhrases 364 [(0, .ref 2), (1, .ref 33), (2, .int (nI i)), (3, .int (nI N)), (4, .int (nI 1)), (6, .int (nI k)), (7, .int (nI a)), (8, .int (nI b)), (9, .int (nI c)), (10, .int (nI e)), (11, .int (nI q)), (12, .int (nI (sumN (wiF (JJ S W l w i) a b c e) 64)))] [] n h'' (.inl (some (.int (nI 1))), n, h2, 0, 0) ∧ GS h2 made t l w S W ∧ Fr h h2) :
    ∀ r m h', m + r = 64 → GS h' made t l w S W → Fr h h' → ∃ h2, Ev (d + 9) ML_arePhrases 198 [(0, .ref 2), (1, .ref 33), (2, .int (nI i)), (3, .int (nI N)), (4, .int (nI 1)), (6, .int (nI k)), (7, .int (nI a)), (8, .int (nI b)), (9, .int (nI c)), (10, .int (nI e)), (11, .int (nI q)), (12, .int (nI (sumN (wiF (JJ S W l w i) a b c e) m))), (13, .int (nI (m)))] [] n h' (.inl (some (.int (nI 1))), n, h2, 0, 0) ∧ GS h2 made t l w S W ∧ Fr h h2 := by
  intro r
  induction r with
  | zero =>
    intro m h' hm g fr
    obtain ⟨h2, e2, z1, z2⟩ := K h' g fr
    have e : m = 64 := by omega
    subst e
    refine ⟨h2, ?_, z1, z2⟩
    refine ev_iload dL_arePhrases_198 rfl ?_
    refine ev_bipush dL_arePhrases_200 bp64 ?_
    refine ev_icmp_geT (tgt := 364) dL_arePhrases_202 (by decide) (by first | assumption | exact nI_le (by omega) (by omega) | decide) ?_
    refine ev_sub ?_ (e2)
    repeat (first | exact trivial | refine ⟨rfl, ?_⟩)
  | succ r ih =>
    intro m h' hm g fr
    have hp := GS_Pr g hi
    have g1 := g.1
    have h0 := hp.2.1.2.2.1
    have h1 := hp.2.2.2.2.1
    have hm20 := g.2.1.2.2.1
    have v3 := (LW_Fr fr v).2.2.1
    have iff1 := hJ (m / 8) (m % 8)
    have hx : ∀ u, (u = 1 → TB (JJ S W l w i) (m / 8) (m % 8)) → u = 1 → bI (a ≤ m / 8 ∧ m / 8 ≤ b) = bI (c ≤ m % 8 ∧ m % 8 ≤ e) := fun u z1 z2 => by
      have z3 := iff1 (z1 z2)
      unfold bI
      by_cases z4 : a ≤ m / 8 ∧ m / 8 ≤ b
      · rw [if_pos z4, if_pos (z3.mp z4)]
      · rw [if_neg z4, if_neg (fun z5 => z4 (z3.mpr z5))]
    have es : sumN (wiF (JJ S W l w i) a b c e) (m + 1) = sumN (wiF (JJ S W l w i) a b c e) m + wiF (JJ S W l w i) a b c e m := rfl
    by_cases qr : m / 8 < l 0 i ∧ m % 8 < l 1 i
    · have s3 := hl_isJoinedR (n := n) (d := d + 7) (bI_01 _) g1 (m9_isJoinedT (d := d + 1) g hi ht qr.1 qr.2)
      obtain ⟨h2, e2, z1, z2⟩ := ih (m + 1) (AXi h' S W l w i) (by omega) (GS_AX g) (Fr_trans fr Fr_AX)
      refine ⟨h2, ?_, z1, z2⟩
      rw [es] at e2
      have eb : bI (JJ S W l w i (m / 8) &&& 2 ^ (m % 8) ≠ 0) = if TB (JJ S W l w i) (m / 8) (m % 8) then 1 else 0 := by
        by_cases z : TB (JJ S W l w i) (m / 8) (m % 8)
        · rw [if_pos z]; exact bI_t (fun y => and_bit0.mp y z)
        · rw [if_neg z]; exact bI_f (fun y => y (and_bit0.mpr z))
      rw [eb] at s3
      refine ev_iload dL_arePhrases_198 rfl ?_
      refine ev_bipush dL_arePhrases_200 bp64 ?_
      refine ev_icmp_geF dL_arePhrases_202 364 (by decide) (by first | assumption | exact nI_ge (by omega) (by omega) | decide) ?_
      refine ev_iload dL_arePhrases_205 rfl ?_
      refine ev_if_eqF dL_arePhrases_207 364 (by decide) (by first | assumption | exact nI_ne0 (by omega) (by omega) | decide) ?_
      refine ev_iload dL_arePhrases_210 rfl ?_
      refine ev_bipush dL_arePhrases_212 bp8 ?_
      refine ev_idivN dL_arePhrases_214 (by omega) (by omega) (by omega) ?_
      first | refine ev_aload_n dL_arePhrases_215 rfl ?_ | refine ev_aload_nN dL_arePhrases_215 rfl ?_
      refine ev_iconst dL_arePhrases_216 ci2 ?_
      refine ev_iload_n dL_arePhrases_217 rfl ?_
      first | refine ev_imulN dL_arePhrases_218 ?_ | refine ev_imul dL_arePhrases_218 ?_
      refine ev_iald dL_arePhrases_219 (by repeat (first | assumption | exact up_s | refine (up_n (by omega)).trans ?_)) _ rfl (by omega) (by omega) ?_
      refine ev_top (v2 := .int (nI (l 0 i))) (congrArg (fun z => Value.int (nI z)) q0) ?_
      refine ev_icmp_geF dL_arePhrases_220 256 (by decide) (by first | assumption | exact nI_ge (by omega) (by omega) | decide) ?_
      refine ev_iload dL_arePhrases_223 rfl ?_
      refine ev_bipush dL_arePhrases_225 bp8 ?_
      refine ev_iremN dL_arePhrases_227 (by omega) (by omega) (by omega) ?_
      first | refine ev_aload_n dL_arePhrases_228 rfl ?_ | refine ev_aload_nN dL_arePhrases_228 rfl ?_
      refine ev_iconst dL_arePhrases_229 ci2 ?_
      refine ev_iload_n dL_arePhrases_230 rfl ?_
      first | refine ev_imulN dL_arePhrases_231 ?_ | refine ev_imul dL_arePhrases_231 ?_
      refine ev_iconst dL_arePhrases_232 ci1 ?_
      first | refine ev_iaddN dL_arePhrases_233 ?_ | refine ev_iadd dL_arePhrases_233 ?_
      refine ev_iald dL_arePhrases_234 (by repeat (first | assumption | exact up_s | refine (up_n (by omega)).trans ?_)) _ rfl (by omega) (by omega) ?_
      refine ev_top (v2 := .int (nI (l 1 i))) (congrArg (fun z => Value.int (nI z)) q1) ?_
      refine ev_icmp_geF dL_arePhrases_235 256 (by decide) (by first | assumption | exact nI_ge (by omega) (by omega) | decide) ?_
      first | refine ev_aload_n dL_arePhrases_238 rfl ?_ | refine ev_aload_nN dL_arePhrases_238 rfl ?_
      refine ev_iload_n dL_arePhrases_239 rfl ?_
      refine ev_iload dL_arePhrases_240 rfl ?_
      refine ev_bipush dL_arePhrases_242 bp8 ?_
      refine ev_idivN dL_arePhrases_244 (by omega) (by omega) (by omega) ?_
      refine ev_iload dL_arePhrases_245 rfl ?_
      refine ev_bipush dL_arePhrases_247 bp8 ?_
      refine ev_iremN dL_arePhrases_249 (by omega) (by omega) (by omega) ?_
      refine ev_callT (as := [_, _, _, _]) dL_arePhrases_250 st_RL_78 na_L_isJoined (Nat.le_of_ble_eq_true rfl) (Nat.le_of_ble_eq_true rfl) (Nat.zero_add _) (Nat.zero_add _) (s3) ?_
      refine ev_goto (tgt := 257) dL_arePhrases_253 (by decide) ?_
      refine ev_istore dL_arePhrases_257 (Nat.le_of_ble_eq_true rfl) ?_
      refine ev_sub ?_ (ph_B (by omega) ha hb (ph_C (by omega) hc he (ph_D (by split <;> simp) (bI_01 _) (hx _ (fun y => by split at y; assumption; exact absurd y (by decide))) e2)))
      repeat (first | exact trivial | refine ⟨rfl, ?_⟩)
    · have nb : ¬ TB (JJ S W l w i) (m / 8) (m % 8) := fun z => qr (JJ_any h0 h1 z).1
      obtain ⟨h2, e2, z1, z2⟩ := ih (m + 1) h' (by omega) g fr
      refine ⟨h2, ?_, z1, z2⟩
      rw [es, show wiF (JJ S W l w i) a b c e m = if (0 : Nat) = 1 ∧ bI (a ≤ m / 8 ∧ m / 8 ≤ b) = 1 then 1 else 0 by unfold wiF; rw [if_neg nb]] at e2
      by_cases qr0 : m / 8 < l 0 i
      · refine ev_iload dL_arePhrases_198 rfl ?_
        refine ev_bipush dL_arePhrases_200 bp64 ?_
        refine ev_icmp_geF dL_arePhrases_202 364 (by decide) (by first | assumption | exact nI_ge (by omega) (by omega) | decide) ?_
        refine ev_iload dL_arePhrases_205 rfl ?_
        refine ev_if_eqF dL_arePhrases_207 364 (by decide) (by first | assumption | exact nI_ne0 (by omega) (by omega) | decide) ?_
        refine ev_iload dL_arePhrases_210 rfl ?_
        refine ev_bipush dL_arePhrases_212 bp8 ?_
        refine ev_idivN dL_arePhrases_214 (by omega) (by omega) (by omega) ?_
        first | refine ev_aload_n dL_arePhrases_215 rfl ?_ | refine ev_aload_nN dL_arePhrases_215 rfl ?_
        refine ev_iconst dL_arePhrases_216 ci2 ?_
        refine ev_iload_n dL_arePhrases_217 rfl ?_
        first | refine ev_imulN dL_arePhrases_218 ?_ | refine ev_imul dL_arePhrases_218 ?_
        refine ev_iald dL_arePhrases_219 (by repeat (first | assumption | exact up_s | refine (up_n (by omega)).trans ?_)) _ rfl (by omega) (by omega) ?_
        refine ev_top (v2 := .int (nI (l 0 i))) (congrArg (fun z => Value.int (nI z)) q0) ?_
        refine ev_icmp_geF dL_arePhrases_220 256 (by decide) (by first | assumption | exact nI_ge (by omega) (by omega) | decide) ?_
        refine ev_iload dL_arePhrases_223 rfl ?_
        refine ev_bipush dL_arePhrases_225 bp8 ?_
        refine ev_iremN dL_arePhrases_227 (by omega) (by omega) (by omega) ?_
        first | refine ev_aload_n dL_arePhrases_228 rfl ?_ | refine ev_aload_nN dL_arePhrases_228 rfl ?_
        refine ev_iconst dL_arePhrases_229 ci2 ?_
        refine ev_iload_n dL_arePhrases_230 rfl ?_
        first | refine ev_imulN dL_arePhrases_231 ?_ | refine ev_imul dL_arePhrases_231 ?_
        refine ev_iconst dL_arePhrases_232 ci1 ?_
        first | refine ev_iaddN dL_arePhrases_233 ?_ | refine ev_iadd dL_arePhrases_233 ?_
        refine ev_iald dL_arePhrases_234 (by repeat (first | assumption | exact up_s | refine (up_n (by omega)).trans ?_)) _ rfl (by omega) (by omega) ?_
        refine ev_top (v2 := .int (nI (l 1 i))) (congrArg (fun z => Value.int (nI z)) q1) ?_
        refine ev_icmp_geT (tgt := 256) dL_arePhrases_235 (by decide) (by first | assumption | exact nI_le (by omega) (by omega) | decide) ?_
        refine ev_iconst dL_arePhrases_256 ci0 ?_
        refine ev_istore dL_arePhrases_257 (Nat.le_of_ble_eq_true rfl) ?_
        refine ev_sub ?_ (ph_B (by omega) ha hb (ph_C (by omega) hc he (ph_D (Or.inl rfl) (bI_01 _) (hx _ (fun y => absurd y (by decide))) e2)))
        repeat (first | exact trivial | refine ⟨rfl, ?_⟩)
      · refine ev_iload dL_arePhrases_198 rfl ?_
        refine ev_bipush dL_arePhrases_200 bp64 ?_
        refine ev_icmp_geF dL_arePhrases_202 364 (by decide) (by first | assumption | exact nI_ge (by omega) (by omega) | decide) ?_
        refine ev_iload dL_arePhrases_205 rfl ?_
        refine ev_if_eqF dL_arePhrases_207 364 (by decide) (by first | assumption | exact nI_ne0 (by omega) (by omega) | decide) ?_
        refine ev_iload dL_arePhrases_210 rfl ?_
        refine ev_bipush dL_arePhrases_212 bp8 ?_
        refine ev_idivN dL_arePhrases_214 (by omega) (by omega) (by omega) ?_
        first | refine ev_aload_n dL_arePhrases_215 rfl ?_ | refine ev_aload_nN dL_arePhrases_215 rfl ?_
        refine ev_iconst dL_arePhrases_216 ci2 ?_
        refine ev_iload_n dL_arePhrases_217 rfl ?_
        first | refine ev_imulN dL_arePhrases_218 ?_ | refine ev_imul dL_arePhrases_218 ?_
        refine ev_iald dL_arePhrases_219 (by repeat (first | assumption | exact up_s | refine (up_n (by omega)).trans ?_)) _ rfl (by omega) (by omega) ?_
        refine ev_top (v2 := .int (nI (l 0 i))) (congrArg (fun z => Value.int (nI z)) q0) ?_
        refine ev_icmp_geT (tgt := 256) dL_arePhrases_220 (by decide) (by first | assumption | exact nI_le (by omega) (by omega) | decide) ?_
        refine ev_iconst dL_arePhrases_256 ci0 ?_
        refine ev_istore dL_arePhrases_257 (Nat.le_of_ble_eq_true rfl) ?_
        refine ev_sub ?_ (ph_B (by omega) ha hb (ph_C (by omega) hc he (ph_D (Or.inl rfl) (bI_01 _) (hx _ (fun y => absurd y (by decide))) e2)))
        repeat (first | exact trivial | refine ⟨rfl, ?_⟩)
/-- the key of the phrase ahead, and one -/
def ahA (S : Nat → Nat → Nat) (W : Nat → Nat) (l : Nat → Nat → Nat) (w : Nat → Nat → Nat → Nat) (i k : Nat) : Nat := if k = 0 then 0 else kf (phE S W l w i (k - 1)) + 1
theorem lp_phO {G Z Lc Wc : Nat → Nat} (v : LW h G Z Lc Wc) (hi : i < made) (ht : t i = 1) (q0 : Lc (2 * i) = l 0 i) (q1 : Lc (2 * i + 1) = l 1 i) :
    ∀ r k h', k + r = phN S W l w i → GS h' made t l w S W → Fr h h' → ∃ h2, Ev (d + 9) ML_arePhrases 35 [(0, .ref 2), (1, .ref 33), (2, .int (nI i)), (3, .int (nI (phN S W l w i))), (4, .int (nI 1)), (5, .int (bo (ahA S W l w i k))), (6, .int (nI k))] [] n h' (.inl (some (.int (nI 1))), n, h2, 0, 0) ∧ GS h2 made t l w S W ∧ Fr h h2 := by
  intro r
  induction r with
  | zero =>
    intro k h' hk g fr
    have hp := GS_Pr g hi
    have hN := phN_le (S := S) (W := W) (w := w) hp.2.1.2.2.1 hp.2.2.2.2.1
    refine ⟨h', ?_, g, fr⟩
    have e : k = phN S W l w i := by omega
    subst e
    refine ev_iload dL_arePhrases_35 rfl ?_
    refine ev_iload_n dL_arePhrases_37 rfl ?_
    refine ev_icmp_geT (tgt := 391) dL_arePhrases_38 (by decide) (by first | assumption | exact nI_le (by omega) (by omega) | decide) ?_
    refine ev_iload dL_arePhrases_391 rfl ?_
    exact ev_zreturnE dL_arePhrases_393 rfl (by first | exact Or.inl rfl | exact Or.inr rfl | assumption | exact z01 (bI_01 _) | exact z01 (by omega)) (by rfl)
  | succ r ih =>
    intro k h' hk g fr
    have hp := GS_Pr g hi
    have h0 := hp.2.1.2.2.1
    have h1 := hp.2.2.2.2.1
    have hm20 := g.2.1.2.2.1
    have hN := phN_le (S := S) (W := W) (w := w) h0 h1
    by_cases k3 : k < 3
    · have hK : k < phN S W l w i := by omega
      obtain ⟨p1, p2, p3, p4, p5, p6, p7⟩ := phE_ok (S := S) (W := W) (w := w) h0 h1 hK
      have hJ := (JJ_ok (S := S) (W := W) (w := w) h0 h1).1
      obtain ⟨x1, e1, y1, f1⟩ := m9_phraseT (d := d + 1) (n := n) (k := 0) g hi ht hK (by omega)
      obtain ⟨x2, e2, y2, f2⟩ := m9_phraseT (d := d + 1) (n := n) (k := 1) y1 hi ht hK (by omega)
      obtain ⟨x3, e3, y3, f3⟩ := m9_phraseT (d := d + 1) (n := n) (k := 2) y2 hi ht hK (by omega)
      obtain ⟨x4, e4, y4, f4⟩ := m9_phraseT (d := d + 1) (n := n) (k := 3) y3 hi ht hK (by omega)
      have fr4 := Fr_trans (Fr_trans (Fr_trans (Fr_trans fr f1) f2) f3) f4
      have v3 := (LW_Fr fr4 v).2.2.1
      have e1 : Ev (d + 7) MX9_phrase 0 (lv_args 0 [.ref 2, .int (nI i), .int (nI k), .int (nI 0)]) [] n h' (.inl (some (.int (nI (phE S W l w i k 0)))), n, x1, 0, 0) := e1
      have e2 : Ev (d + 7) MX9_phrase 0 (lv_args 0 [.ref 2, .int (nI i), .int (nI k), .int (nI 1)]) [] n x1 (.inl (some (.int (nI (phE S W l w i k 1)))), n, x2, 0, 0) := e2
      have e3 : Ev (d + 7) MX9_phrase 0 (lv_args 0 [.ref 2, .int (nI i), .int (nI k), .int (nI 2)]) [] n x2 (.inl (some (.int (nI (phE S W l w i k 2)))), n, x3, 0, 0) := e3
      have e4 : Ev (d + 7) MX9_phrase 0 (lv_args 0 [.ref 2, .int (nI i), .int (nI k), .int (nI 3)]) [] n x3 (.inl (some (.int (nI (phE S W l w i k 3)))), n, x4, 0, 0) := e4
      have hA : ahA S W l w i k ≤ ((phE S W l w i k 0 * 8 + phE S W l w i k 1) * 8 + phE S W l w i k 2) * 8 + phE S W l w i k 3 := by
        unfold ahA
        split
        · omega
        · next z =>
          have := phE_lt (S := S) (W := W) (l := l) (w := w) (i := i) (K := k - 1) h0 h1 (by omega)
          rw [show k - 1 + 1 = k by omega] at this
          have e9 : kf (phE S W l w i k) = 512 * phE S W l w i k 0 + 64 * phE S W l w i k 1 + 8 * phE S W l w i k 2 + phE S W l w i k 3 := rfl
          omega
      have hA1 : bo (ahA S W l w i (k + 1)) = nI (((phE S W l w i k 0 * 8 + phE S W l w i k 1) * 8 + phE S W l w i k 2) * 8 + phE S W l w i k 3) := by
        have e9 : kf (phE S W l w i k) = 512 * phE S W l w i k 0 + 64 * phE S W l w i k 1 + 8 * phE S W l w i k 2 + phE S W l w i k 3 := rfl
        rw [show ahA S W l w i (k + 1) = kf (phE S W l w i k) + 1 from if_neg (by omega), bo_s, e9]
        exact congrArg nI (by omega)
      generalize phE S W l w i k 0 = a at *
      generalize phE S W l w i k 1 = b at *
      generalize phE S W l w i k 2 = c at *
      generalize phE S W l w i k 3 = e at *
      have hw : 0 < sumN (wiF (JJ S W l w i) a b c e) 64 := by
        obtain ⟨x, y, w1, w2, w3, w4, w5⟩ := isPh_in hJ p4 (by omega) p7
        refine sumN_pos 64 (show 8 * x + y < 64 by omega) ?_
        unfold wiF
        rw [show (8 * x + y) / 8 = x by omega, show (8 * x + y) % 8 = y by omega, if_pos w5, if_pos ⟨rfl, bI_t w3⟩]
        omega
      have hw2 : sumN (wiF (JJ S W l w i) a b c e) 64 ≤ 64 := sumN_le1 (fun j => ite01 _) 64
      have K : ∀ h'', GS h'' made t l w S W → Fr h h'' → ∃ h2, Ev (d + 9) ML_arePhrases 364 [(0, .ref 2), (1, .ref 33), (2, .int (nI i)), (3, .int (nI (phN S W l w i))), (4, .int (nI 1)), (6, .int (nI k)), (7, .int (nI a)), (8, .int (nI b)), (9, .int (nI c)), (10, .int (nI e)), (11, .int (nI (((a * 8 + b) * 8 + c) * 8 + e))), (12, .int (nI (sumN (wiF (JJ S W l w i) a b c e) 64)))] [] n h'' (.inl (some (.int (nI 1))), n, h2, 0, 0) ∧ GS h2 made t l w S W ∧ Fr h h2 := by
        intro h'' g'' fr''
        obtain ⟨h2, ev, z1, z2⟩ := ih (k + 1) h'' (by omega) g'' fr''
        rw [hA1] at ev
        refine ⟨h2, ?_, z1, z2⟩
        refine ev_iload dL_arePhrases_364 rfl ?_
        refine ev_if_eqF dL_arePhrases_366 378 (by decide) (by first | assumption | exact nI_ne0 (by omega) (by omega) | decide) ?_
        refine ev_iload dL_arePhrases_369 rfl ?_
        refine ev_if_leF dL_arePhrases_371 378 (by decide) (by first | assumption | exact nI_nle (by omega) (by omega) | decide) ?_
        refine ev_iconst dL_arePhrases_374 ci1 ?_
        refine ev_goto (tgt := 379) dL_arePhrases_375 (by decide) ?_
        refine ev_istore dL_arePhrases_379 (Nat.le_of_ble_eq_true rfl) ?_
        refine ev_iload dL_arePhrases_381 rfl ?_
        refine ev_istore dL_arePhrases_383 (Nat.le_of_ble_eq_true rfl) ?_
        refine ev_iincN (b := 1) dL_arePhrases_385 rfl (Nat.le_of_ble_eq_true rfl) ?_
        refine ev_goto (tgt := 35) dL_arePhrases_388 (by decide) ?_
        refine ev_sub ?_ (ev)
        repeat (first | exact trivial | refine ⟨rfl, ?_⟩)
      obtain ⟨h2, ev, z1, z2⟩ := lp_phI (d := d) (n := n) (h := h) (made := made) (t := t) (N := phN S W l w i) (k := k) (a := a) (b := b) (c := c) (e := e) (q := ((a * 8 + b) * 8 + c) * 8 + e) v hi ht q0 q1 (by omega) (by omega) (by omega) (by omega) (fun x y z => isPh_iff hJ p4 (by omega) p7 (JJ_any h0 h1 z).1.1 z) K 64 0 x4 (by omega) y4 fr4
      refine ⟨h2, ?_, z1, z2⟩
      have t1 := g.1
      have t2 := y1.1
      have t3 := y2.1
      have t4 := y3.1
      have e1 := hl_phraseR t1 e1
      have e2 := hl_phraseR t2 e2
      have e3 := hl_phraseR t3 e3
      have e4 := hl_phraseR t4 e4
      refine ev_iload dL_arePhrases_35 rfl ?_
      refine ev_iload_n dL_arePhrases_37 rfl ?_
      refine ev_icmp_geF dL_arePhrases_38 391 (by decide) (by first | assumption | exact nI_ge (by omega) (by omega) | decide) ?_
      refine ev_iload dL_arePhrases_41 rfl ?_
      refine ev_iconst dL_arePhrases_43 ci3 ?_
      refine ev_icmp_geF dL_arePhrases_44 391 (by decide) (by first | assumption | exact nI_ge (by omega) (by omega) | decide) ?_
      refine ev_iload dL_arePhrases_47 rfl ?_
      refine ev_if_eqF dL_arePhrases_49 391 (by decide) (by first | assumption | exact nI_ne0 (by omega) (by omega) | decide) ?_
      first | refine ev_aload_n dL_arePhrases_52 rfl ?_ | refine ev_aload_nN dL_arePhrases_52 rfl ?_
      refine ev_iload_n dL_arePhrases_53 rfl ?_
      refine ev_iload dL_arePhrases_54 rfl ?_
      refine ev_iconst dL_arePhrases_56 ci0 ?_
      refine ev_callT (as := [_, _, _, _]) dL_arePhrases_57 st_RL_83 na_L_phrase (Nat.le_of_ble_eq_true rfl) (Nat.le_of_ble_eq_true rfl) (Nat.zero_add _) (Nat.zero_add _) (e1) ?_
      refine ev_istore dL_arePhrases_60 (Nat.le_of_ble_eq_true rfl) ?_
      first | refine ev_aload_n dL_arePhrases_62 rfl ?_ | refine ev_aload_nN dL_arePhrases_62 rfl ?_
      refine ev_iload_n dL_arePhrases_63 rfl ?_
      refine ev_iload dL_arePhrases_64 rfl ?_
      refine ev_iconst dL_arePhrases_66 ci1 ?_
      refine ev_callT (as := [_, _, _, _]) dL_arePhrases_67 st_RL_83 na_L_phrase (Nat.le_of_ble_eq_true rfl) (Nat.le_of_ble_eq_true rfl) (Nat.zero_add _) (Nat.zero_add _) (e2) ?_
      refine ev_istore dL_arePhrases_70 (Nat.le_of_ble_eq_true rfl) ?_
      first | refine ev_aload_n dL_arePhrases_72 rfl ?_ | refine ev_aload_nN dL_arePhrases_72 rfl ?_
      refine ev_iload_n dL_arePhrases_73 rfl ?_
      refine ev_iload dL_arePhrases_74 rfl ?_
      refine ev_iconst dL_arePhrases_76 ci2 ?_
      refine ev_callT (as := [_, _, _, _]) dL_arePhrases_77 st_RL_83 na_L_phrase (Nat.le_of_ble_eq_true rfl) (Nat.le_of_ble_eq_true rfl) (Nat.zero_add _) (Nat.zero_add _) (e3) ?_
      refine ev_istore dL_arePhrases_80 (Nat.le_of_ble_eq_true rfl) ?_
      first | refine ev_aload_n dL_arePhrases_82 rfl ?_ | refine ev_aload_nN dL_arePhrases_82 rfl ?_
      refine ev_iload_n dL_arePhrases_83 rfl ?_
      refine ev_iload dL_arePhrases_84 rfl ?_
      refine ev_iconst dL_arePhrases_86 ci3 ?_
      refine ev_callT (as := [_, _, _, _]) dL_arePhrases_87 st_RL_83 na_L_phrase (Nat.le_of_ble_eq_true rfl) (Nat.le_of_ble_eq_true rfl) (Nat.zero_add _) (Nat.zero_add _) (e4) ?_
      refine ev_istore dL_arePhrases_90 (Nat.le_of_ble_eq_true rfl) ?_
      refine ev_iload dL_arePhrases_92 rfl ?_
      refine ev_bipush dL_arePhrases_94 bp8 ?_
      first | refine ev_imulN dL_arePhrases_96 ?_ | refine ev_imul dL_arePhrases_96 ?_
      refine ev_iload dL_arePhrases_97 rfl ?_
      first | refine ev_iaddN dL_arePhrases_99 ?_ | refine ev_iadd dL_arePhrases_99 ?_
      refine ev_bipush dL_arePhrases_100 bp8 ?_
      first | refine ev_imulN dL_arePhrases_102 ?_ | refine ev_imul dL_arePhrases_102 ?_
      refine ev_iload dL_arePhrases_103 rfl ?_
      first | refine ev_iaddN dL_arePhrases_105 ?_ | refine ev_iadd dL_arePhrases_105 ?_
      refine ev_bipush dL_arePhrases_106 bp8 ?_
      first | refine ev_imulN dL_arePhrases_108 ?_ | refine ev_imul dL_arePhrases_108 ?_
      refine ev_iload dL_arePhrases_109 rfl ?_
      first | refine ev_iaddN dL_arePhrases_111 ?_ | refine ev_iadd dL_arePhrases_111 ?_
      refine ev_istore dL_arePhrases_112 (Nat.le_of_ble_eq_true rfl) ?_
      refine ev_iconst dL_arePhrases_114 ci0 ?_
      refine ev_istore dL_arePhrases_115 (Nat.le_of_ble_eq_true rfl) ?_
      refine ev_iload dL_arePhrases_117 rfl ?_
      refine ev_if_ltF dL_arePhrases_119 192 (by decide) (by first | assumption | exact nI_pos (by omega) | decide) ?_
      refine ev_iload dL_arePhrases_122 rfl ?_
      refine ev_iload dL_arePhrases_124 rfl ?_
      refine ev_icmp_ltF dL_arePhrases_126 192 (by decide) (by first | assumption | exact nI_nlt (by omega) (by omega) | decide) ?_
      refine ev_iload dL_arePhrases_129 rfl ?_
      refine ev_iload dL_arePhrases_131 rfl ?_
      refine ev_iconst dL_arePhrases_133 ci4 ?_
      first | refine ev_iaddN dL_arePhrases_134 ?_ | refine ev_iadd dL_arePhrases_134 ?_
      refine ev_icmp_geF dL_arePhrases_135 192 (by decide) (by first | assumption | exact nI_ge (by omega) (by omega) | decide) ?_
      refine ev_iload dL_arePhrases_138 rfl ?_
      first | refine ev_aload_n dL_arePhrases_140 rfl ?_ | refine ev_aload_nN dL_arePhrases_140 rfl ?_
      refine ev_iconst dL_arePhrases_141 ci2 ?_
      refine ev_iload_n dL_arePhrases_142 rfl ?_
      first | refine ev_imulN dL_arePhrases_143 ?_ | refine ev_imul dL_arePhrases_143 ?_
      refine ev_iald dL_arePhrases_144 (by repeat (first | assumption | exact up_s | refine (up_n (by omega)).trans ?_)) _ rfl (by omega) (by omega) ?_
      refine ev_top (v2 := .int (nI (l 0 i))) (congrArg (fun z => Value.int (nI z)) q0) ?_
      refine ev_icmp_geF dL_arePhrases_145 192 (by decide) (by first | assumption | exact nI_ge (by omega) (by omega) | decide) ?_
      refine ev_iload dL_arePhrases_148 rfl ?_
      refine ev_if_ltF dL_arePhrases_150 192 (by decide) (by first | assumption | exact nI_pos (by omega) | decide) ?_
      refine ev_iload dL_arePhrases_153 rfl ?_
      refine ev_iload dL_arePhrases_155 rfl ?_
      refine ev_icmp_ltF dL_arePhrases_157 192 (by decide) (by first | assumption | exact nI_nlt (by omega) (by omega) | decide) ?_
      refine ev_iload dL_arePhrases_160 rfl ?_
      refine ev_iload dL_arePhrases_162 rfl ?_
      refine ev_iconst dL_arePhrases_164 ci4 ?_
      first | refine ev_iaddN dL_arePhrases_165 ?_ | refine ev_iadd dL_arePhrases_165 ?_
      refine ev_icmp_geF dL_arePhrases_166 192 (by decide) (by first | assumption | exact nI_ge (by omega) (by omega) | decide) ?_
      refine ev_iload dL_arePhrases_169 rfl ?_
      first | refine ev_aload_n dL_arePhrases_171 rfl ?_ | refine ev_aload_nN dL_arePhrases_171 rfl ?_
      refine ev_iconst dL_arePhrases_172 ci2 ?_
      refine ev_iload_n dL_arePhrases_173 rfl ?_
      first | refine ev_imulN dL_arePhrases_174 ?_ | refine ev_imul dL_arePhrases_174 ?_
      refine ev_iconst dL_arePhrases_175 ci1 ?_
      first | refine ev_iaddN dL_arePhrases_176 ?_ | refine ev_iadd dL_arePhrases_176 ?_
      refine ev_iald dL_arePhrases_177 (by repeat (first | assumption | exact up_s | refine (up_n (by omega)).trans ?_)) _ rfl (by omega) (by omega) ?_
      refine ev_top (v2 := .int (nI (l 1 i))) (congrArg (fun z => Value.int (nI z)) q1) ?_
      refine ev_icmp_geF dL_arePhrases_178 192 (by decide) (by first | assumption | exact nI_ge (by omega) (by omega) | decide) ?_
      refine ev_iload dL_arePhrases_181 rfl ?_
      refine ev_iload dL_arePhrases_183 rfl ?_
      refine ev_icmp_leF dL_arePhrases_185 192 (by decide) (bo_ngt hA (by omega)) ?_
      refine ev_iconst dL_arePhrases_188 ci1 ?_
      refine ev_goto (tgt := 193) dL_arePhrases_189 (by decide) ?_
      refine ev_istore dL_arePhrases_193 (Nat.le_of_ble_eq_true rfl) ?_
      refine ev_iconst dL_arePhrases_195 ci0 ?_
      refine ev_istore dL_arePhrases_196 (Nat.le_of_ble_eq_true rfl) ?_
      refine ev_sub ?_ (ev)
      repeat (first | exact trivial | refine ⟨rfl, ?_⟩)
    · refine ⟨h', ?_, g, fr⟩
      refine ev_iload dL_arePhrases_35 rfl ?_
      refine ev_iload_n dL_arePhrases_37 rfl ?_
      refine ev_icmp_geF dL_arePhrases_38 391 (by decide) (by first | assumption | exact nI_ge (by omega) (by omega) | decide) ?_
      refine ev_iload dL_arePhrases_41 rfl ?_
      refine ev_iconst dL_arePhrases_43 ci3 ?_
      refine ev_icmp_geT (tgt := 391) dL_arePhrases_44 (by decide) (by first | assumption | exact nI_le (by omega) (by omega) | decide) ?_
      refine ev_iload dL_arePhrases_391 rfl ?_
      exact ev_zreturnE dL_arePhrases_393 rfl (by first | exact Or.inl rfl | exact Or.inr rfl | assumption | exact z01 (bI_01 _) | exact z01 (by omega)) (by rfl)
theorem l_arePhrases {G Z Lc Wc : Nat → Nat} (g : GS h made t l w S W) (v : LW h G Z Lc Wc) (hi : i < made) (ht : t i = 1) (q0 : Lc (2 * i) = l 0 i) (q1 : Lc (2 * i + 1) = l 1 i) : ∃ h2, Ev (d + 9) ML_arePhrases 0 (lv_args 0 [.ref 2, .ref 33, .int (nI i)]) [] n h (.inl (some (.int (nI 1))), n, h2, 1 + 0, 6 + 0) ∧ GS h2 made t l w S W ∧ Fr h h2 := by
  have hp := GS_Pr g hi
  have h0 := hp.2.1.2.2.1
  have h1 := hp.2.2.2.2.1
  have hN := phN_le (S := S) (W := W) (w := w) h0 h1
  obtain ⟨x1, e1, y1, f1⟩ := m9_phrasesT (d := d + 1) (n := n) g hi ht
  obtain ⟨x2, e2, y2, f2⟩ := m9_phrase1 (d := d + 1) (n := n) (z := nI 0) y1 hi ht (nin (Nat.le_refl _) (by omega))
  obtain ⟨h2, ev, z1, z2⟩ := lp_phO (d := d) (n := n) v hi ht q0 q1 (phN S W l w i) 0 x2 (by omega) y2 (Fr_trans f1 f2)
  have e1 := hl_phrasesR g.1 e1
  have e2 := hl_phraseE1 y1.1 e2
  refine ⟨h2, ?_, z1, z2⟩
  first | refine ev_aload_n dL_arePhrases_0 rfl ?_ | refine ev_aload_nN dL_arePhrases_0 rfl ?_
  refine ev_iload_n dL_arePhrases_1 rfl ?_
  refine ev_callT (as := [_, _]) dL_arePhrases_2 st_RL_80 na_L_phrases (Nat.le_of_ble_eq_true rfl) (Nat.le_of_ble_eq_true rfl) (Nat.zero_add _) (Nat.zero_add _) (e1) ?_
  refine ev_istore_n dL_arePhrases_5 (Nat.le_of_ble_eq_true rfl) ?_
  refine ev_iload_n dL_arePhrases_6 rfl ?_
  refine ev_if_ltF dL_arePhrases_7 26 (by decide) (by first | assumption | exact nI_pos (by omega) | decide) ?_
  first | refine ev_aload_n dL_arePhrases_10 rfl ?_ | refine ev_aload_nN dL_arePhrases_10 rfl ?_
  refine ev_iload_n dL_arePhrases_11 rfl ?_
  refine ev_iload_n dL_arePhrases_12 rfl ?_
  refine ev_iconst dL_arePhrases_13 ci0 ?_
  refine ev_callT (as := [_, _, _, _]) dL_arePhrases_14 st_RL_83 na_L_phrase (Nat.le_of_ble_eq_true rfl) (Nat.le_of_ble_eq_true rfl) rfl rfl (e2) ?_
  refine ev_ldc (v := -1000001) dL_arePhrases_17 (am_in 342 (by decide +kernel) rfl) ?_
  refine ev_icmp_neF dL_arePhrases_19 26 (by decide) rfl ?_
  refine ev_iconst dL_arePhrases_22 ci1 ?_
  refine ev_goto (tgt := 27) dL_arePhrases_23 (by decide) ?_
  refine ev_istore dL_arePhrases_27 (Nat.le_of_ble_eq_true rfl) ?_
  refine ev_iconst dL_arePhrases_29 cm1 ?_
  refine ev_istore dL_arePhrases_30 (Nat.le_of_ble_eq_true rfl) ?_
  refine ev_iconst dL_arePhrases_32 ci0 ?_
  refine ev_istore dL_arePhrases_33 (Nat.le_of_ble_eq_true rfl) ?_
  refine ev_sub ?_ (ev)
  repeat (first | exact trivial | refine ⟨rfl, ?_⟩)
end LPH
