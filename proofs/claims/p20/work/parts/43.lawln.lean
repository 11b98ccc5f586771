/-! the law: links -/
theorem bo_nlt {m : Nat} (h : m ≤ 9) : ¬ bo m < -1 := by
  have : ∀ m, m ≤ 9 → ¬ bo m < -1 := by decide +kernel
  exact this m h
theorem bo_nge {m N : Nat} (h : m ≤ N) (h9 : N ≤ 8) : ¬ nI N ≤ bo m := by
  have : ∀ N, N ≤ 8 → ∀ m, m ≤ N → ¬ nI N ≤ bo m := by decide +kernel
  exact this N h9 m h
theorem bo_eq {m a : Nat} (h : m = a + 1) : bo m = nI a := by rw [h, bo_s]
theorem bo_ne {m a : Nat} (h : m ≠ a + 1) (hm : m ≤ 9) (ha : a ≤ 9) : ¬ bo m = nI a := by
  have : ∀ m, m ≤ 9 → ∀ a, a ≤ 9 → m ≠ a + 1 → ¬ bo m = nI a := by decide +kernel
  exact this m hm a ha h
/-- what the law keeps of a link -/
def VV (S : Nat → Nat → Nat) (W : Nat → Nat) (l : Nat → Nat → Nat) (w : Nat → Nat → Nat → Nat) (i : Nat) : Nat → Nat := fun c => if TB (JJ S W l w i) (c / 8) (c % 8) then (if lk0 S W l w i (c / 8) (c % 8) ∧ lk1 S W l w i (c / 8) (c % 8) then 2 else 1) else 0
def ck (l1 k : Nat) : Nat := 8 * (k / l1) + k % l1
def jA (V : Nat → Nat) (l1 : Nat) : Nat → Nat → Nat
  | 0 => fun _ => 0
  | k + 1 => va_up (jA V l1 k) (ck l1 k) (V (ck l1 k))
theorem jA_or {V : Nat → Nat} {l1 c : Nat} : ∀ k, jA V l1 k c = 0 ∨ jA V l1 k c = V c
  | 0 => Or.inl rfl
  | k + 1 => by
    show va_up (jA V l1 k) (ck l1 k) (V (ck l1 k)) c = 0 ∨ va_up (jA V l1 k) (ck l1 k) (V (ck l1 k)) c = V c
    unfold va_up
    split
    · next q => rw [q]; exact Or.inr rfl
    · exact jA_or k
theorem jA_at {V : Nat → Nat} {l1 m : Nat} : ∀ k, m < k → jA V l1 k (ck l1 m) = V (ck l1 m)
  | 0, h => absurd h (Nat.not_lt_zero _)
  | k + 1, h => by
    show va_up (jA V l1 k) (ck l1 k) (V (ck l1 k)) (ck l1 m) = _
    unfold va_up
    split
    · next q => rw [q]
    · next q => exact jA_at k (by rcases Nat.lt_or_ge m k with c | c; exact c; exact absurd (by rw [show m = k by omega]) q)
theorem ck_of {a b l1 : Nat} (hb : b < l1) : ck l1 (a * l1 + b) = 8 * a + b := by
  unfold ck
  rw [Nat.add_comm (a * l1) b, Nat.add_mul_div_right _ _ (show 0 < l1 by omega), Nat.div_eq_of_lt hb, Nat.add_mul_mod_self_right, Nat.mod_eq_of_lt hb, Nat.zero_add]
theorem cell_lt {a b l0 l1 : Nat} (ha : a < l0) (hb : b < l1) : a * l1 + b < l0 * l1 := by
  have h1 : (a + 1) * l1 ≤ l0 * l1 := Nat.mul_le_mul_right _ ha
  rw [Nat.succ_mul] at h1
  omega
theorem cell_ge {k l0 l1 : Nat} (hk : k < l0 * l1) (h1 : 0 < l1) : k / l1 < l0 ∧ k % l1 < l1 := ⟨Nat.div_lt_of_lt_mul (by rw [Nat.mul_comm]; exact hk), Nat.mod_lt _ h1⟩
section LLN
variable {S : Nat → Nat → Nat} {W : Nat → Nat} {l : Nat → Nat → Nat} {w : Nat → Nat → Nat → Nat} {i : Nat}
theorem jA_VV (h0 : l 0 i ≤ 8) (h1 : l 1 i ≤ 8) {c : Nat} : jA (VV S W l w i) (l 1 i) (l 0 i * l 1 i) c = VV S W l w i c := by
  by_cases q : c / 8 < l 0 i ∧ c % 8 < l 1 i
  · have e := jA_at (V := VV S W l w i) (l1 := l 1 i) (l 0 i * l 1 i) (cell_lt q.1 q.2)
    rw [ck_of q.2, show 8 * (c / 8) + c % 8 = c by omega] at e
    exact e
  · have e : VV S W l w i c = 0 := if_neg (fun z => q (JJ_any h0 h1 z).1)
    rcases jA_or (V := VV S W l w i) (l1 := l 1 i) (c := c) (l 0 i * l 1 i) with z | z
    · rw [z, e]
    · exact z
theorem VV_le {c : Nat} : VV S W l w i c ≤ 2 := by
  unfold VV
  split
  · split <;> omega
  · omega
/-- a cell beside another -/
def adj (k n : Nat) : Prop := (n / 8 ≤ k / 8 + 1 ∧ k / 8 ≤ n / 8 + 1) ∧ n % 8 ≤ k % 8 + 1 ∧ k % 8 ≤ n % 8 + 1
theorem VV_beside (h0 : l 0 i ≤ 8) (h1 : l 1 i ≤ 8) {k : Nat} (h : VV S W l w i k = 1) : ∃ n, n < 64 ∧ n ≠ k ∧ 0 < VV S W l w i n ∧ adj k n := by
  unfold VV at h
  split at h
  · next q =>
    split at h
    · omega
    · next q2 =>
      obtain ⟨a, b, ha, hb, z, z1, z2, z3⟩ := JJ_beside h0 h1 q q2
      have e1 : (8 * a + b) / 8 = a := by omega
      have e2 : (8 * a + b) % 8 = b := by omega
      refine ⟨8 * a + b, by omega, by omega, ?_, ?_⟩
      · unfold VV
        rw [e1, e2, if_pos z]
        split <;> omega
      · unfold adj
        rw [e1, e2]
        exact ⟨z2, z3⟩
  · omega
/-- besides, as the law looks for them -/
def bsN (V : Nat → Nat) (k : Nat) : Nat → Nat
  | 0 => if V k = 1 then 0 else 1
  | n + 1 => if bsN V k n = 1 then 1 else if n ≠ k ∧ 0 < V n ∧ (n / 8 ≤ k / 8 + 1 ∧ k / 8 ≤ n / 8 + 1) ∧ n % 8 ≤ k % 8 + 1 ∧ k % 8 ≤ n % 8 + 1 then 1 else 0
theorem bsN_01 {V : Nat → Nat} {k : Nat} : ∀ n, bsN V k n = 0 ∨ bsN V k n = 1
  | 0 => by unfold bsN; split <;> simp
  | n + 1 => by
    unfold bsN
    split
    · exact Or.inr rfl
    · split <;> simp
theorem bsN_s {V : Nat → Nat} {k n : Nat} (h : bsN V k n = 1) : bsN V k (n + 1) = 1 := if_pos h
theorem bsN_st {V : Nat → Nat} {k n : Nat} (h : bsN V k n = 1) : ∀ m, bsN V k (n + m) = 1
  | 0 => h
  | m + 1 => bsN_s (bsN_st h m)
theorem bsN_64 {V : Nat → Nat} {k : Nat} (h : V k = 1 → ∃ n, n < 64 ∧ n ≠ k ∧ 0 < V n ∧ adj k n) : bsN V k 64 = 1 := by
  by_cases q : V k = 1
  · obtain ⟨n, hn, z1, z2, z3⟩ := h q
    have e : bsN V k (n + 1) = 1 := by
      show (if bsN V k n = 1 then 1 else if _ then 1 else 0) = 1
      split
      · rfl
      · exact if_pos ⟨z1, z2, z3⟩
    have := bsN_st e (64 - (n + 1))
    rwa [show n + 1 + (64 - (n + 1)) = 64 by omega] at this
  · have e : bsN V k 0 = 1 := if_neg q
    have := bsN_st e 64
    rwa [Nat.zero_add] at this
end LLN
theorem sq_t {x y : Nat} (hx : x < 8) (hy : y < 8) (h : x ≤ y + 1 ∧ y ≤ x + 1) : ¬ nI 2 ≤ (nI x - nI y) * (nI x - nI y) := by
  have : ∀ x, x < 8 → ∀ y, y < 8 → (x ≤ y + 1 ∧ y ≤ x + 1) → ¬ nI 2 ≤ (nI x - nI y) * (nI x - nI y) := by decide +kernel
  exact this x hx y hy h
theorem sq_f {x y : Nat} (hx : x < 8) (hy : y < 8) (h : ¬ (x ≤ y + 1 ∧ y ≤ x + 1)) : nI 2 ≤ (nI x - nI y) * (nI x - nI y) := by
  have : ∀ x, x < 8 → ∀ y, y < 8 → ¬ (x ≤ y + 1 ∧ y ≤ x + 1) → nI 2 ≤ (nI x - nI y) * (nI x - nI y) := by decide +kernel
  exact this x hx y hy h
section LLW
variable {d n : Nat} {h : Hp} {made : Nat} {t : Nat → Nat} {l : Nat → Nat → Nat} {w : Nat → Nat → Nat → Nat} {S : Nat → Nat → Nat} {W : Nat → Nat} {i : Nat}
/-- the inner loop of what is beside -/
theorem lp_bsI {V : Nat → Nat} (hV : ∀ c, V c ≤ 2) (gj : h n = aI 64 V) {k l0 l1 : Nat} (hk : k < 64) {o9 : Out} (K : Ev (d + 9) ML_areLinks 365 [(0, .ref 2), (2, .int (nI i)), (3, .int (nI l0)), (4, .int (nI l1)), (6, .ref n), (7, .int (nI k)), (8, .int (nI (bsN V k 64)))] [] (n + 1) h o9) :
    ∀ m j, j + m = 64 → Ev (d + 9) ML_areLinks 281 [(0, .ref 2), (2, .int (nI i)), (3, .int (nI l0)), (4, .int (nI l1)), (6, .ref n), (7, .int (nI k)), (8, .int (nI (bsN V k j))), (9, .int (nI j))] [] (n + 1) h o9 := by
  intro m
  induction m with
  | zero =>
    intro j hj
    have e : j = 64 := by omega
    subst e
    refine ev_iload dL_areLinks_281 rfl ?_
    refine ev_bipush dL_areLinks_283 bp64 ?_
    refine ev_icmp_geT (tgt := 365) dL_areLinks_285 (by decide) (by first | assumption | exact nI_le (by omega) (by omega) | decide) ?_
    refine ev_sub ?_ (K)
    repeat (first | exact trivial | refine ⟨rfl, ?_⟩)
  | succ m ih =>
    intro j hj
    have ih := ih (j + 1) (by omega)
    have hVj := hV j
    have hx : j / 8 < 8 := by omega
    have hy : k / 8 < 8 := by omega
    have hx2 : j % 8 < 8 := by omega
    have hy2 : k % 8 < 8 := by omega
    rcases bsN_01 (V := V) (k := k) j with q | q
    · by_cases q1 : j ≠ k
      · by_cases q2 : 0 < V j
        · by_cases q3 : j / 8 ≤ k / 8 + 1 ∧ k / 8 ≤ j / 8 + 1
          · by_cases q4 : j % 8 ≤ k % 8 + 1 ∧ k % 8 ≤ j % 8 + 1
            · have e : bsN V k (j + 1) = 1 := by
                show (if bsN V k j = 1 then 1 else if _ then 1 else 0) = 1
                rw [if_neg (by omega), if_pos ⟨q1, q2, q3, q4⟩]
              rw [e] at ih
              rw [q]
              refine ev_iload dL_areLinks_281 rfl ?_
              refine ev_bipush dL_areLinks_283 bp64 ?_
              refine ev_icmp_geF dL_areLinks_285 365 (by decide) (by first | assumption | exact nI_ge (by omega) (by omega) | decide) ?_
              refine ev_iload dL_areLinks_288 rfl ?_
              refine ev_bipush dL_areLinks_290 bp8 ?_
              refine ev_idivN dL_areLinks_292 (by omega) (by omega) (by omega) ?_
              refine ev_iload dL_areLinks_293 rfl ?_
              refine ev_bipush dL_areLinks_295 bp8 ?_
              refine ev_idivN dL_areLinks_297 (by omega) (by omega) (by omega) ?_
              refine ev_isub dL_areLinks_298 ?_
              refine ev_istore dL_areLinks_299 (Nat.le_of_ble_eq_true rfl) ?_
              refine ev_iload dL_areLinks_301 rfl ?_
              refine ev_bipush dL_areLinks_303 bp8 ?_
              refine ev_iremN dL_areLinks_305 (by omega) (by omega) (by omega) ?_
              refine ev_iload dL_areLinks_306 rfl ?_
              refine ev_bipush dL_areLinks_308 bp8 ?_
              refine ev_iremN dL_areLinks_310 (by omega) (by omega) (by omega) ?_
              refine ev_isub dL_areLinks_311 ?_
              refine ev_istore dL_areLinks_312 (Nat.le_of_ble_eq_true rfl) ?_
              refine ev_iload dL_areLinks_314 rfl ?_
              refine ev_if_neF dL_areLinks_316 352 (by decide) (by first | assumption | exact z_eq (by omega) | decide) ?_
              refine ev_iload dL_areLinks_319 rfl ?_
              refine ev_iload dL_areLinks_321 rfl ?_
              refine ev_icmp_eqF dL_areLinks_323 356 (by decide) (by first | assumption | exact n_ne (by omega) (by omega) (by omega) | decide) ?_
              first | refine ev_aload dL_areLinks_326 rfl ?_ | refine ev_aloadN dL_areLinks_326 rfl ?_
              refine ev_iload dL_areLinks_328 rfl ?_
              refine ev_iald dL_areLinks_330 (by repeat (first | assumption | exact up_s | refine (up_n (by omega)).trans ?_)) _ rfl (by omega) (by omega) ?_
              refine ev_if_leF dL_areLinks_331 356 (by decide) (by first | assumption | exact nI_nle (by omega) (by omega) | decide) ?_
              refine ev_iload dL_areLinks_334 rfl ?_
              refine ev_iload dL_areLinks_336 rfl ?_
              refine ev_imul dL_areLinks_338 ?_
              refine ev_iconst dL_areLinks_339 ci2 ?_
              refine ev_icmp_geF dL_areLinks_340 356 (by decide) (sq_t hx hy q3) ?_
              refine ev_iload dL_areLinks_343 rfl ?_
              refine ev_iload dL_areLinks_345 rfl ?_
              refine ev_imul dL_areLinks_347 ?_
              refine ev_iconst dL_areLinks_348 ci2 ?_
              refine ev_icmp_geF dL_areLinks_349 356 (by decide) (sq_t hx2 hy2 q4) ?_
              refine ev_iconst dL_areLinks_352 ci1 ?_
              refine ev_goto (tgt := 357) dL_areLinks_353 (by decide) ?_
              refine ev_istore dL_areLinks_357 (Nat.le_of_ble_eq_true rfl) ?_
              refine ev_iincN (b := 1) dL_areLinks_359 rfl (Nat.le_of_ble_eq_true rfl) ?_
              refine ev_goto (tgt := 281) dL_areLinks_362 (by decide) ?_
              refine ev_sub ?_ (ih)
              repeat (first | exact trivial | refine ⟨rfl, ?_⟩)
            · have e : bsN V k (j + 1) = 0 := by
                show (if bsN V k j = 1 then 1 else if _ then 1 else 0) = 0
                rw [if_neg (by omega), if_neg (fun c => q4 c.2.2.2)]
              rw [e] at ih
              rw [q]
              refine ev_iload dL_areLinks_281 rfl ?_
              refine ev_bipush dL_areLinks_283 bp64 ?_
              refine ev_icmp_geF dL_areLinks_285 365 (by decide) (by first | assumption | exact nI_ge (by omega) (by omega) | decide) ?_
              refine ev_iload dL_areLinks_288 rfl ?_
              refine ev_bipush dL_areLinks_290 bp8 ?_
              refine ev_idivN dL_areLinks_292 (by omega) (by omega) (by omega) ?_
              refine ev_iload dL_areLinks_293 rfl ?_
              refine ev_bipush dL_areLinks_295 bp8 ?_
              refine ev_idivN dL_areLinks_297 (by omega) (by omega) (by omega) ?_
              refine ev_isub dL_areLinks_298 ?_
              refine ev_istore dL_areLinks_299 (Nat.le_of_ble_eq_true rfl) ?_
              refine ev_iload dL_areLinks_301 rfl ?_
              refine ev_bipush dL_areLinks_303 bp8 ?_
              refine ev_iremN dL_areLinks_305 (by omega) (by omega) (by omega) ?_
              refine ev_iload dL_areLinks_306 rfl ?_
              refine ev_bipush dL_areLinks_308 bp8 ?_
              refine ev_iremN dL_areLinks_310 (by omega) (by omega) (by omega) ?_
              refine ev_isub dL_areLinks_311 ?_
              refine ev_istore dL_areLinks_312 (Nat.le_of_ble_eq_true rfl) ?_
              refine ev_iload dL_areLinks_314 rfl ?_
              refine ev_if_neF dL_areLinks_316 352 (by decide) (by first | assumption | exact z_eq (by omega) | decide) ?_
              refine ev_iload dL_areLinks_319 rfl ?_
              refine ev_iload dL_areLinks_321 rfl ?_
              refine ev_icmp_eqF dL_areLinks_323 356 (by decide) (by first | assumption | exact n_ne (by omega) (by omega) (by omega) | decide) ?_
              first | refine ev_aload dL_areLinks_326 rfl ?_ | refine ev_aloadN dL_areLinks_326 rfl ?_
              refine ev_iload dL_areLinks_328 rfl ?_
              refine ev_iald dL_areLinks_330 (by repeat (first | assumption | exact up_s | refine (up_n (by omega)).trans ?_)) _ rfl (by omega) (by omega) ?_
              refine ev_if_leF dL_areLinks_331 356 (by decide) (by first | assumption | exact nI_nle (by omega) (by omega) | decide) ?_
              refine ev_iload dL_areLinks_334 rfl ?_
              refine ev_iload dL_areLinks_336 rfl ?_
              refine ev_imul dL_areLinks_338 ?_
              refine ev_iconst dL_areLinks_339 ci2 ?_
              refine ev_icmp_geF dL_areLinks_340 356 (by decide) (sq_t hx hy q3) ?_
              refine ev_iload dL_areLinks_343 rfl ?_
              refine ev_iload dL_areLinks_345 rfl ?_
              refine ev_imul dL_areLinks_347 ?_
              refine ev_iconst dL_areLinks_348 ci2 ?_
              refine ev_icmp_geT (tgt := 356) dL_areLinks_349 (by decide) (sq_f hx2 hy2 q4) ?_
              refine ev_iconst dL_areLinks_356 ci0 ?_
              refine ev_istore dL_areLinks_357 (Nat.le_of_ble_eq_true rfl) ?_
              refine ev_iincN (b := 1) dL_areLinks_359 rfl (Nat.le_of_ble_eq_true rfl) ?_
              refine ev_goto (tgt := 281) dL_areLinks_362 (by decide) ?_
              refine ev_sub ?_ (ih)
              repeat (first | exact trivial | refine ⟨rfl, ?_⟩)
          · have e : bsN V k (j + 1) = 0 := by
              show (if bsN V k j = 1 then 1 else if _ then 1 else 0) = 0
              rw [if_neg (by omega), if_neg (fun c => q3 c.2.2.1)]
            rw [e] at ih
            rw [q]
            refine ev_iload dL_areLinks_281 rfl ?_
            refine ev_bipush dL_areLinks_283 bp64 ?_
            refine ev_icmp_geF dL_areLinks_285 365 (by decide) (by first | assumption | exact nI_ge (by omega) (by omega) | decide) ?_
            refine ev_iload dL_areLinks_288 rfl ?_
            refine ev_bipush dL_areLinks_290 bp8 ?_
            refine ev_idivN dL_areLinks_292 (by omega) (by omega) (by omega) ?_
            refine ev_iload dL_areLinks_293 rfl ?_
            refine ev_bipush dL_areLinks_295 bp8 ?_
            refine ev_idivN dL_areLinks_297 (by omega) (by omega) (by omega) ?_
            refine ev_isub dL_areLinks_298 ?_
            refine ev_istore dL_areLinks_299 (Nat.le_of_ble_eq_true rfl) ?_
            refine ev_iload dL_areLinks_301 rfl ?_
            refine ev_bipush dL_areLinks_303 bp8 ?_
            refine ev_iremN dL_areLinks_305 (by omega) (by omega) (by omega) ?_
            refine ev_iload dL_areLinks_306 rfl ?_
            refine ev_bipush dL_areLinks_308 bp8 ?_
            refine ev_iremN dL_areLinks_310 (by omega) (by omega) (by omega) ?_
            refine ev_isub dL_areLinks_311 ?_
            refine ev_istore dL_areLinks_312 (Nat.le_of_ble_eq_true rfl) ?_
            refine ev_iload dL_areLinks_314 rfl ?_
            refine ev_if_neF dL_areLinks_316 352 (by decide) (by first | assumption | exact z_eq (by omega) | decide) ?_
            refine ev_iload dL_areLinks_319 rfl ?_
            refine ev_iload dL_areLinks_321 rfl ?_
            refine ev_icmp_eqF dL_areLinks_323 356 (by decide) (by first | assumption | exact n_ne (by omega) (by omega) (by omega) | decide) ?_
            first | refine ev_aload dL_areLinks_326 rfl ?_ | refine ev_aloadN dL_areLinks_326 rfl ?_
            refine ev_iload dL_areLinks_328 rfl ?_
            refine ev_iald dL_areLinks_330 (by repeat (first | assumption | exact up_s | refine (up_n (by omega)).trans ?_)) _ rfl (by omega) (by omega) ?_
            refine ev_if_leF dL_areLinks_331 356 (by decide) (by first | assumption | exact nI_nle (by omega) (by omega) | decide) ?_
            refine ev_iload dL_areLinks_334 rfl ?_
            refine ev_iload dL_areLinks_336 rfl ?_
            refine ev_imul dL_areLinks_338 ?_
            refine ev_iconst dL_areLinks_339 ci2 ?_
            refine ev_icmp_geT (tgt := 356) dL_areLinks_340 (by decide) (sq_f hx hy q3) ?_
            refine ev_iconst dL_areLinks_356 ci0 ?_
            refine ev_istore dL_areLinks_357 (Nat.le_of_ble_eq_true rfl) ?_
            refine ev_iincN (b := 1) dL_areLinks_359 rfl (Nat.le_of_ble_eq_true rfl) ?_
            refine ev_goto (tgt := 281) dL_areLinks_362 (by decide) ?_
            refine ev_sub ?_ (ih)
            repeat (first | exact trivial | refine ⟨rfl, ?_⟩)
        · have e : bsN V k (j + 1) = 0 := by
            show (if bsN V k j = 1 then 1 else if _ then 1 else 0) = 0
            rw [if_neg (by omega), if_neg (fun c => q2 c.2.1)]
          rw [e] at ih
          rw [q]
          refine ev_iload dL_areLinks_281 rfl ?_
          refine ev_bipush dL_areLinks_283 bp64 ?_
          refine ev_icmp_geF dL_areLinks_285 365 (by decide) (by first | assumption | exact nI_ge (by omega) (by omega) | decide) ?_
          refine ev_iload dL_areLinks_288 rfl ?_
          refine ev_bipush dL_areLinks_290 bp8 ?_
          refine ev_idivN dL_areLinks_292 (by omega) (by omega) (by omega) ?_
          refine ev_iload dL_areLinks_293 rfl ?_
          refine ev_bipush dL_areLinks_295 bp8 ?_
          refine ev_idivN dL_areLinks_297 (by omega) (by omega) (by omega) ?_
          refine ev_isub dL_areLinks_298 ?_
          refine ev_istore dL_areLinks_299 (Nat.le_of_ble_eq_true rfl) ?_
          refine ev_iload dL_areLinks_301 rfl ?_
          refine ev_bipush dL_areLinks_303 bp8 ?_
          refine ev_iremN dL_areLinks_305 (by omega) (by omega) (by omega) ?_
          refine ev_iload dL_areLinks_306 rfl ?_
          refine ev_bipush dL_areLinks_308 bp8 ?_
          refine ev_iremN dL_areLinks_310 (by omega) (by omega) (by omega) ?_
          refine ev_isub dL_areLinks_311 ?_
          refine ev_istore dL_areLinks_312 (Nat.le_of_ble_eq_true rfl) ?_
          refine ev_iload dL_areLinks_314 rfl ?_
          refine ev_if_neF dL_areLinks_316 352 (by decide) (by first | assumption | exact z_eq (by omega) | decide) ?_
          refine ev_iload dL_areLinks_319 rfl ?_
          refine ev_iload dL_areLinks_321 rfl ?_
          refine ev_icmp_eqF dL_areLinks_323 356 (by decide) (by first | assumption | exact n_ne (by omega) (by omega) (by omega) | decide) ?_
          first | refine ev_aload dL_areLinks_326 rfl ?_ | refine ev_aloadN dL_areLinks_326 rfl ?_
          refine ev_iload dL_areLinks_328 rfl ?_
          refine ev_iald dL_areLinks_330 (by repeat (first | assumption | exact up_s | refine (up_n (by omega)).trans ?_)) _ rfl (by omega) (by omega) ?_
          refine ev_if_leT (tgt := 356) dL_areLinks_331 (by decide) (by first | assumption | exact z_le (by omega) | decide) ?_
          refine ev_iconst dL_areLinks_356 ci0 ?_
          refine ev_istore dL_areLinks_357 (Nat.le_of_ble_eq_true rfl) ?_
          refine ev_iincN (b := 1) dL_areLinks_359 rfl (Nat.le_of_ble_eq_true rfl) ?_
          refine ev_goto (tgt := 281) dL_areLinks_362 (by decide) ?_
          refine ev_sub ?_ (ih)
          repeat (first | exact trivial | refine ⟨rfl, ?_⟩)
      · have e : bsN V k (j + 1) = 0 := by
          show (if bsN V k j = 1 then 1 else if _ then 1 else 0) = 0
          rw [if_neg (by omega), if_neg (fun c => q1 c.1)]
        rw [e] at ih
        rw [q]
        refine ev_iload dL_areLinks_281 rfl ?_
        refine ev_bipush dL_areLinks_283 bp64 ?_
        refine ev_icmp_geF dL_areLinks_285 365 (by decide) (by first | assumption | exact nI_ge (by omega) (by omega) | decide) ?_
        refine ev_iload dL_areLinks_288 rfl ?_
        refine ev_bipush dL_areLinks_290 bp8 ?_
        refine ev_idivN dL_areLinks_292 (by omega) (by omega) (by omega) ?_
        refine ev_iload dL_areLinks_293 rfl ?_
        refine ev_bipush dL_areLinks_295 bp8 ?_
        refine ev_idivN dL_areLinks_297 (by omega) (by omega) (by omega) ?_
        refine ev_isub dL_areLinks_298 ?_
        refine ev_istore dL_areLinks_299 (Nat.le_of_ble_eq_true rfl) ?_
        refine ev_iload dL_areLinks_301 rfl ?_
        refine ev_bipush dL_areLinks_303 bp8 ?_
        refine ev_iremN dL_areLinks_305 (by omega) (by omega) (by omega) ?_
        refine ev_iload dL_areLinks_306 rfl ?_
        refine ev_bipush dL_areLinks_308 bp8 ?_
        refine ev_iremN dL_areLinks_310 (by omega) (by omega) (by omega) ?_
        refine ev_isub dL_areLinks_311 ?_
        refine ev_istore dL_areLinks_312 (Nat.le_of_ble_eq_true rfl) ?_
        refine ev_iload dL_areLinks_314 rfl ?_
        refine ev_if_neF dL_areLinks_316 352 (by decide) (by first | assumption | exact z_eq (by omega) | decide) ?_
        refine ev_iload dL_areLinks_319 rfl ?_
        refine ev_iload dL_areLinks_321 rfl ?_
        refine ev_icmp_eqT (tgt := 356) dL_areLinks_323 (by decide) (by first | assumption | exact n_eq (by omega) | decide) ?_
        refine ev_iconst dL_areLinks_356 ci0 ?_
        refine ev_istore dL_areLinks_357 (Nat.le_of_ble_eq_true rfl) ?_
        refine ev_iincN (b := 1) dL_areLinks_359 rfl (Nat.le_of_ble_eq_true rfl) ?_
        refine ev_goto (tgt := 281) dL_areLinks_362 (by decide) ?_
        refine ev_sub ?_ (ih)
        repeat (first | exact trivial | refine ⟨rfl, ?_⟩)
    · have e : bsN V k (j + 1) = 1 := bsN_s q
      rw [e] at ih
      rw [q]
      refine ev_iload dL_areLinks_281 rfl ?_
      refine ev_bipush dL_areLinks_283 bp64 ?_
      refine ev_icmp_geF dL_areLinks_285 365 (by decide) (by first | assumption | exact nI_ge (by omega) (by omega) | decide) ?_
      refine ev_iload dL_areLinks_288 rfl ?_
      refine ev_bipush dL_areLinks_290 bp8 ?_
      refine ev_idivN dL_areLinks_292 (by omega) (by omega) (by omega) ?_
      refine ev_iload dL_areLinks_293 rfl ?_
      refine ev_bipush dL_areLinks_295 bp8 ?_
      refine ev_idivN dL_areLinks_297 (by omega) (by omega) (by omega) ?_
      refine ev_isub dL_areLinks_298 ?_
      refine ev_istore dL_areLinks_299 (Nat.le_of_ble_eq_true rfl) ?_
      refine ev_iload dL_areLinks_301 rfl ?_
      refine ev_bipush dL_areLinks_303 bp8 ?_
      refine ev_iremN dL_areLinks_305 (by omega) (by omega) (by omega) ?_
      refine ev_iload dL_areLinks_306 rfl ?_
      refine ev_bipush dL_areLinks_308 bp8 ?_
      refine ev_iremN dL_areLinks_310 (by omega) (by omega) (by omega) ?_
      refine ev_isub dL_areLinks_311 ?_
      refine ev_istore dL_areLinks_312 (Nat.le_of_ble_eq_true rfl) ?_
      refine ev_iload dL_areLinks_314 rfl ?_
      refine ev_if_neT (tgt := 352) dL_areLinks_316 (by decide) (by first | assumption | exact nI_ne0 (by omega) (by omega) | decide) ?_
      refine ev_iconst dL_areLinks_352 ci1 ?_
      refine ev_goto (tgt := 357) dL_areLinks_353 (by decide) ?_
      refine ev_istore dL_areLinks_357 (Nat.le_of_ble_eq_true rfl) ?_
      refine ev_iincN (b := 1) dL_areLinks_359 rfl (Nat.le_of_ble_eq_true rfl) ?_
      refine ev_goto (tgt := 281) dL_areLinks_362 (by decide) ?_
      refine ev_sub ?_ (ih)
      repeat (first | exact trivial | refine ⟨rfl, ?_⟩)
theorem lp_bsO {V : Nat → Nat} (hV : ∀ c, V c ≤ 2) (gj : h n = aI 64 V) {l0 l1 : Nat} (hb : ∀ k, k < 64 → bsN V k 64 = 1) :
    ∀ m k, k + m = 64 → Ev (d + 9) ML_areLinks 250 [(0, .ref 2), (2, .int (nI i)), (3, .int (nI l0)), (4, .int (nI l1)), (5, .int (nI 1)), (6, .ref n), (7, .int (nI k))] [] (n + 1) h (.inl (some (.int (nI 1))), n + 1, h, 0, 0) := by
  intro m
  induction m with
  | zero =>
    intro k hk
    have e : k = 64 := by omega
    subst e
    refine ev_iload dL_areLinks_250 rfl ?_
    refine ev_bipush dL_areLinks_252 bp64 ?_
    refine ev_icmp_geT (tgt := 375) dL_areLinks_254 (by decide) (by first | assumption | exact nI_le (by omega) (by omega) | decide) ?_
    refine ev_iload dL_areLinks_375 rfl ?_
    exact ev_zreturnE dL_areLinks_377 rfl (by first | exact Or.inl rfl | exact Or.inr rfl | assumption | exact z01 (bI_01 _) | exact z01 (by omega)) (by rfl)
  | succ m ih =>
    intro k hk
    have ih := ih (k + 1) (by omega)
    have hVk := hV k
    have K : Ev (d + 9) ML_areLinks 365 [(0, .ref 2), (2, .int (nI i)), (3, .int (nI l0)), (4, .int (nI l1)), (6, .ref n), (7, .int (nI k)), (8, .int (nI (bsN V k 64)))] [] (n + 1) h (.inl (some (.int (nI 1))), n + 1, h, 0, 0) := by
      rw [hb k (by omega)]
      refine ev_iload dL_areLinks_365 rfl ?_
      refine ev_istore dL_areLinks_367 (Nat.le_of_ble_eq_true rfl) ?_
      refine ev_iincN (b := 1) dL_areLinks_369 rfl (Nat.le_of_ble_eq_true rfl) ?_
      refine ev_goto (tgt := 250) dL_areLinks_372 (by decide) ?_
      refine ev_sub ?_ (ih)
      repeat (first | exact trivial | refine ⟨rfl, ?_⟩)
    have K2 := lp_bsI hV gj (show k < 64 by omega) K 64 0 (by omega)
    by_cases q : V k = 1
    · rw [show bsN V k 0 = 0 from if_pos q] at K2
      refine ev_iload dL_areLinks_250 rfl ?_
      refine ev_bipush dL_areLinks_252 bp64 ?_
      refine ev_icmp_geF dL_areLinks_254 375 (by decide) (by first | assumption | exact nI_ge (by omega) (by omega) | decide) ?_
      refine ev_iload dL_areLinks_257 rfl ?_
      refine ev_if_eqF dL_areLinks_259 375 (by decide) (by first | assumption | exact nI_ne0 (by omega) (by omega) | decide) ?_
      first | refine ev_aload dL_areLinks_262 rfl ?_ | refine ev_aloadN dL_areLinks_262 rfl ?_
      refine ev_iload dL_areLinks_264 rfl ?_
      refine ev_iald dL_areLinks_266 (by repeat (first | assumption | exact up_s | refine (up_n (by omega)).trans ?_)) _ rfl (by omega) (by omega) ?_
      refine ev_iconst dL_areLinks_267 ci1 ?_
      refine ev_icmp_eqT (tgt := 275) dL_areLinks_268 (by decide) (by first | assumption | exact n_eq (by omega) | decide) ?_
      refine ev_iconst dL_areLinks_275 ci0 ?_
      refine ev_istore dL_areLinks_276 (Nat.le_of_ble_eq_true rfl) ?_
      refine ev_iconst dL_areLinks_278 ci0 ?_
      refine ev_istore dL_areLinks_279 (Nat.le_of_ble_eq_true rfl) ?_
      refine ev_sub ?_ (K2)
      repeat (first | exact trivial | refine ⟨rfl, ?_⟩)
    · rw [show bsN V k 0 = 1 from if_neg q] at K2
      refine ev_iload dL_areLinks_250 rfl ?_
      refine ev_bipush dL_areLinks_252 bp64 ?_
      refine ev_icmp_geF dL_areLinks_254 375 (by decide) (by first | assumption | exact nI_ge (by omega) (by omega) | decide) ?_
      refine ev_iload dL_areLinks_257 rfl ?_
      refine ev_if_eqF dL_areLinks_259 375 (by decide) (by first | assumption | exact nI_ne0 (by omega) (by omega) | decide) ?_
      first | refine ev_aload dL_areLinks_262 rfl ?_ | refine ev_aloadN dL_areLinks_262 rfl ?_
      refine ev_iload dL_areLinks_264 rfl ?_
      refine ev_iald dL_areLinks_266 (by repeat (first | assumption | exact up_s | refine (up_n (by omega)).trans ?_)) _ rfl (by omega) (by omega) ?_
      refine ev_iconst dL_areLinks_267 ci1 ?_
      refine ev_icmp_eqF dL_areLinks_268 275 (by decide) (by first | assumption | exact n_ne (by omega) (by omega) (by omega) | decide) ?_
      refine ev_iconst dL_areLinks_271 ci1 ?_
      refine ev_goto (tgt := 276) dL_areLinks_272 (by decide) ?_
      refine ev_istore dL_areLinks_276 (Nat.le_of_ble_eq_true rfl) ?_
      refine ev_iconst dL_areLinks_278 ci0 ?_
      refine ev_istore dL_areLinks_279 (Nat.le_of_ble_eq_true rfl) ?_
      refine ev_sub ?_ (K2)
      repeat (first | exact trivial | refine ⟨rfl, ?_⟩)
theorem lk_F (g : GS h made t l w S W) {D j : Nat} (hi : i < made) (hD : D < 2) (hj : l (1 - D) i ≤ j) (hj2 : j < 2 ^ 31) : Ev (d + 3) MX9_link 0 (lv_args 0 [.ref 2, .int (nI D), .int (nI i), .int (nI j)]) [] n h (.inr IOE, n, h, 1, 6) := by
  have hm := g.2.1.2.2.1
  refine m9_linkF g (Or.inr (Or.inr fun D' i' h1 h2 e1 e2 => ?_))
  have e1 := (nI_eq (by omega) (by omega)).mp e1
  have e2 := (nI_eq (by omega) (by omega)).mp e2
  subst e1; subst e2
  exact nin hj hj2
theorem jo_F (g : GS h made t l w S W) {j o : Nat} (hi : i < made) (hj : l 0 i ≤ j) (hj2 : j < 2 ^ 31) : Ev (d + 6) MX9_isJoined 0 (lv_args 0 [.ref 2, .int (nI i), .int (nI j), .int (nI o)]) [] n h (.inr IOE, n, h, 1, 6) := by
  have hm := g.2.1.2.2.1
  refine m9_isJoinedF g (Or.inr fun i' h2 e2 => Or.inl ?_)
  have e2 := (nI_eq (by omega) (by omega)).mp e2
  subst e2
  exact nin hj hj2
theorem lp_lk (hn : n = 35 + 5 * made) (hi : i < made) (ht : t i = 1) :
    ∀ m k h', k + m = l 0 i * l 1 i → GS h' made t l w S W → Fr h h' → h' n = aI 64 (jA (VV S W l w i) (l 1 i) k) → ∃ h2, Ev (d + 9) ML_areLinks 68 [(0, .ref 2), (2, .int (nI i)), (3, .int (nI (l 0 i))), (4, .int (nI (l 1 i))), (5, .int (nI 1)), (6, .ref n), (7, .int (nI k))] [] (n + 1) h' (.inl (some (.int (nI 1))), n + 1, h2, 0, 0) ∧ GS h2 made t l w S W ∧ Fr h h2 := by
  intro m
  induction m with
  | zero =>
    intro k h' hk g fr gj
    have hp := GS_Pr g hi
    have h0 := hp.2.1.2.2.1
    have h1 := hp.2.2.2.2.1
    have hP : l 0 i * l 1 i ≤ 8 * 8 := Nat.mul_le_mul h0 h1
    have e : k = l 0 i * l 1 i := by omega
    subst e
    rw [show jA (VV S W l w i) (l 1 i) (l 0 i * l 1 i) = VV S W l w i from funext fun c => jA_VV h0 h1] at gj
    refine ⟨h', ?_, g, fr⟩
    refine ev_iload dL_areLinks_68 rfl ?_
    refine ev_iload_n dL_areLinks_70 rfl ?_
    refine ev_iload dL_areLinks_71 rfl ?_
    first | refine ev_imulN dL_areLinks_73 ?_ | refine ev_imul dL_areLinks_73 ?_
    refine ev_icmp_geT (tgt := 247) dL_areLinks_74 (by decide) (by first | assumption | exact nI_le (by omega) (by omega) | decide) ?_
    refine ev_iconst dL_areLinks_247 ci0 ?_
    refine ev_istore dL_areLinks_248 (Nat.le_of_ble_eq_true rfl) ?_
    refine ev_sub ?_ (lp_bsO (i := i) (l0 := l 0 i) (l1 := l 1 i) (fun c => VV_le) gj (fun k hk => bsN_64 (fun q => VV_beside h0 h1 q)) 64 0 (by omega))
    repeat (first | exact trivial | refine ⟨rfl, ?_⟩)
  | succ m ih =>
    intro k h' hk g fr gj
    have hp := GS_Pr g hi
    have g1 := g.1
    have h0 := hp.2.1.2.2.1
    have h1 := hp.2.2.2.2.1
    have hP : l 0 i * l 1 i ≤ 8 * 8 := Nat.mul_le_mul h0 h1
    have hl1 : 0 < l 1 i := by
      rcases Nat.eq_zero_or_pos (l 1 i) with z | z
      · rw [z, Nat.mul_zero] at hk; omega
      · exact z
    obtain ⟨ha, hb⟩ := cell_ge (show k < l 0 i * l 1 i by omega) hl1
    have hm := pp_top (Nat.le_refl made)
    have gg : GS (AXi h' S W l w i) made t l w S W := GS_AX g
    have gn : AXi h' S W l w i n = aI 64 (jA (VV S W l w i) (l 1 i) k) := (up_n (by omega)).trans ((up_n (by omega)).trans ((up_n (by omega)).trans ((up_n (by omega)).trans gj)))
    have c1 : ck (l 1 i) k / 8 = k / l 1 i := by unfold ck; omega
    have c2 : ck (l 1 i) k % 8 = k % l 1 i := by unfold ck; omega
    have s1 := hl_linkR (n := n + 1) (d := d + 7) g1 (m9_linkT (d := d + 4) g (D := 0) hi ht (by omega) (show k % l 1 i < l (1 - 0) i from hb))
    have s2 := hl_linkR (n := n + 1) (d := d + 7) g1 (m9_linkT (d := d + 4) g (D := 1) hi ht (by omega) (show k / l 1 i < l (1 - 1) i from ha))
    have s3 := hl_isJoinedR (n := n + 1) (d := d + 7) (bI_01 _) g1 (m9_isJoinedT (d := d + 1) g hi ht ha hb)
    have b0 : lkF S W l w i 0 (k % l 1 i) ≤ l 0 i := lkF_le
    have b1 : lkF S W l w i 1 (k / l 1 i) ≤ l 1 i := lkF_le
    obtain ⟨h2, e2, q2, q3⟩ := ih (k + 1) (va_up (AXi h' S W l w i) n (aI 64 (jA (VV S W l w i) (l 1 i) (k + 1)))) (by omega) (GS_upN gg (by omega)) (Fr_up (Fr_trans fr Fr_AX) (by omega)) up_s
    refine ⟨h2, ?_, q2, q3⟩
    have jq : ∀ v, VV S W l w i (ck (l 1 i) k) = v → jA (VV S W l w i) (l 1 i) (k + 1) = va_up (jA (VV S W l w i) (l 1 i) k) (8 * (k / l 1 i) + k % l 1 i) v := fun v e => by rw [← e]; rfl
    by_cases qj : TB (JJ S W l w i) (k / l 1 i) (k % l 1 i)
    · rw [bI_t (p := JJ S W l w i (k / l 1 i) &&& 2 ^ (k % l 1 i) ≠ 0) (fun z => and_bit0.mp z qj)] at s3
      by_cases qa : lk0 S W l w i (k / l 1 i) (k % l 1 i)
      · by_cases qb : lk1 S W l w i (k / l 1 i) (k % l 1 i)
        · rw [jq 2 (by unfold VV; rw [c1, c2]; exact (if_pos qj).trans (if_pos ⟨qa, qb⟩))] at e2
          refine ev_iload dL_areLinks_68 rfl ?_
          refine ev_iload_n dL_areLinks_70 rfl ?_
          refine ev_iload dL_areLinks_71 rfl ?_
          first | refine ev_imulN dL_areLinks_73 ?_ | refine ev_imul dL_areLinks_73 ?_
          refine ev_icmp_geF dL_areLinks_74 247 (by decide) (by first | assumption | exact nI_ge (by omega) (by omega) | decide) ?_
          refine ev_iload dL_areLinks_77 rfl ?_
          refine ev_iload dL_areLinks_79 rfl ?_
          refine ev_idivN dL_areLinks_81 (by omega) (by omega) (by omega) ?_
          refine ev_istore dL_areLinks_82 (Nat.le_of_ble_eq_true rfl) ?_
          refine ev_iload dL_areLinks_84 rfl ?_
          refine ev_iload dL_areLinks_86 rfl ?_
          refine ev_iremN dL_areLinks_88 (by omega) (by omega) (by omega) ?_
          refine ev_istore dL_areLinks_89 (Nat.le_of_ble_eq_true rfl) ?_
          first | refine ev_aload_n dL_areLinks_91 rfl ?_ | refine ev_aload_nN dL_areLinks_91 rfl ?_
          refine ev_iconst dL_areLinks_92 ci0 ?_
          refine ev_iload_n dL_areLinks_93 rfl ?_
          refine ev_iload dL_areLinks_94 rfl ?_
          refine ev_callT (as := [_, _, _, _]) dL_areLinks_96 st_RL_76 na_L_link (Nat.le_of_ble_eq_true rfl) (Nat.le_of_ble_eq_true rfl) (Nat.zero_add _) (Nat.zero_add _) (s1) ?_
          refine ev_istore dL_areLinks_99 (Nat.le_of_ble_eq_true rfl) ?_
          first | refine ev_aload_n dL_areLinks_101 rfl ?_ | refine ev_aload_nN dL_areLinks_101 rfl ?_
          refine ev_iconst dL_areLinks_102 ci1 ?_
          refine ev_iload_n dL_areLinks_103 rfl ?_
          refine ev_iload dL_areLinks_104 rfl ?_
          refine ev_callT (as := [_, _, _, _]) dL_areLinks_106 st_RL_76 na_L_link (Nat.le_of_ble_eq_true rfl) (Nat.le_of_ble_eq_true rfl) (Nat.zero_add _) (Nat.zero_add _) (s2) ?_
          refine ev_istore dL_areLinks_109 (Nat.le_of_ble_eq_true rfl) ?_
          first | refine ev_aload_n dL_areLinks_111 rfl ?_ | refine ev_aload_nN dL_areLinks_111 rfl ?_
          refine ev_iload_n dL_areLinks_112 rfl ?_
          refine ev_iload dL_areLinks_113 rfl ?_
          refine ev_iload dL_areLinks_115 rfl ?_
          refine ev_callT (as := [_, _, _, _]) dL_areLinks_117 st_RL_78 na_L_isJoined (Nat.le_of_ble_eq_true rfl) (Nat.le_of_ble_eq_true rfl) (Nat.zero_add _) (Nat.zero_add _) (s3) ?_
          refine ev_istore dL_areLinks_120 (Nat.le_of_ble_eq_true rfl) ?_
          refine ev_iload dL_areLinks_122 rfl ?_
          refine ev_if_eqF dL_areLinks_124 198 (by decide) (by first | assumption | exact nI_ne0 (by omega) (by omega) | decide) ?_
          refine ev_iload dL_areLinks_127 rfl ?_
          refine ev_iconst dL_areLinks_129 cm1 ?_
          refine ev_icmp_ltF dL_areLinks_130 198 (by decide) (bo_nlt (by omega)) ?_
          refine ev_iload dL_areLinks_133 rfl ?_
          refine ev_iload_n dL_areLinks_135 rfl ?_
          refine ev_icmp_geF dL_areLinks_136 198 (by decide) (bo_nge b0 h0) ?_
          refine ev_iload dL_areLinks_139 rfl ?_
          refine ev_iconst dL_areLinks_141 cm1 ?_
          refine ev_icmp_ltF dL_areLinks_142 198 (by decide) (bo_nlt (by omega)) ?_
          refine ev_iload dL_areLinks_145 rfl ?_
          refine ev_iload dL_areLinks_147 rfl ?_
          refine ev_icmp_geF dL_areLinks_149 198 (by decide) (bo_nge b1 h1) ?_
          refine ev_iload dL_areLinks_152 rfl ?_
          refine ev_if_neT (tgt := 174) dL_areLinks_154 (by decide) (by first | assumption | exact nI_ne0 (by omega) (by omega) | decide) ?_
          refine ev_iload dL_areLinks_174 rfl ?_
          refine ev_iconst dL_areLinks_176 ci1 ?_
          refine ev_icmp_neF dL_areLinks_177 198 (by decide) (by first | assumption | exact n_eq (by omega) | decide) ?_
          refine ev_iload dL_areLinks_180 rfl ?_
          refine ev_iload dL_areLinks_182 rfl ?_
          refine ev_icmp_eqT (tgt := 194) dL_areLinks_184 (by decide) (bo_eq qa) ?_
          refine ev_iconst dL_areLinks_194 ci1 ?_
          refine ev_goto (tgt := 199) dL_areLinks_195 (by decide) ?_
          refine ev_istore dL_areLinks_199 (Nat.le_of_ble_eq_true rfl) ?_
          first | refine ev_aload dL_areLinks_201 rfl ?_ | refine ev_aloadN dL_areLinks_201 rfl ?_
          refine ev_bipush dL_areLinks_203 bp8 ?_
          refine ev_iload dL_areLinks_205 rfl ?_
          first | refine ev_imulN dL_areLinks_207 ?_ | refine ev_imul dL_areLinks_207 ?_
          refine ev_iload dL_areLinks_208 rfl ?_
          first | refine ev_iaddN dL_areLinks_210 ?_ | refine ev_iadd dL_areLinks_210 ?_
          refine ev_iload dL_areLinks_211 rfl ?_
          refine ev_iconst dL_areLinks_213 ci1 ?_
          refine ev_icmp_neF dL_areLinks_214 239 (by decide) (by first | assumption | exact n_eq (by omega) | decide) ?_
          refine ev_iload dL_areLinks_217 rfl ?_
          refine ev_iload dL_areLinks_219 rfl ?_
          refine ev_icmp_neF dL_areLinks_221 235 (by decide) (bo_eq qa) ?_
          refine ev_iload dL_areLinks_224 rfl ?_
          refine ev_iload dL_areLinks_226 rfl ?_
          refine ev_icmp_neF dL_areLinks_228 235 (by decide) (bo_eq qb) ?_
          refine ev_iconst dL_areLinks_231 ci2 ?_
          refine ev_goto (tgt := 240) dL_areLinks_232 (by decide) ?_
          refine ev_iast dL_areLinks_240 (by omega) (by repeat (first | assumption | exact up_s | refine (up_n (by omega)).trans ?_)) _ _ rfl rfl (by omega) (by omega) ?_
          refine ev_iincN (b := 1) dL_areLinks_241 rfl (Nat.le_of_ble_eq_true rfl) ?_
          refine ev_goto (tgt := 68) dL_areLinks_244 (by decide) ?_
          refine ev_sub ?_ (e2)
          repeat (first | exact trivial | refine ⟨rfl, ?_⟩)
        · rw [jq 1 (by unfold VV; rw [c1, c2]; exact (if_pos qj).trans (if_neg fun z => qb z.2))] at e2
          refine ev_iload dL_areLinks_68 rfl ?_
          refine ev_iload_n dL_areLinks_70 rfl ?_
          refine ev_iload dL_areLinks_71 rfl ?_
          first | refine ev_imulN dL_areLinks_73 ?_ | refine ev_imul dL_areLinks_73 ?_
          refine ev_icmp_geF dL_areLinks_74 247 (by decide) (by first | assumption | exact nI_ge (by omega) (by omega) | decide) ?_
          refine ev_iload dL_areLinks_77 rfl ?_
          refine ev_iload dL_areLinks_79 rfl ?_
          refine ev_idivN dL_areLinks_81 (by omega) (by omega) (by omega) ?_
          refine ev_istore dL_areLinks_82 (Nat.le_of_ble_eq_true rfl) ?_
          refine ev_iload dL_areLinks_84 rfl ?_
          refine ev_iload dL_areLinks_86 rfl ?_
          refine ev_iremN dL_areLinks_88 (by omega) (by omega) (by omega) ?_
          refine ev_istore dL_areLinks_89 (Nat.le_of_ble_eq_true rfl) ?_
          first | refine ev_aload_n dL_areLinks_91 rfl ?_ | refine ev_aload_nN dL_areLinks_91 rfl ?_
          refine ev_iconst dL_areLinks_92 ci0 ?_
          refine ev_iload_n dL_areLinks_93 rfl ?_
          refine ev_iload dL_areLinks_94 rfl ?_
          refine ev_callT (as := [_, _, _, _]) dL_areLinks_96 st_RL_76 na_L_link (Nat.le_of_ble_eq_true rfl) (Nat.le_of_ble_eq_true rfl) (Nat.zero_add _) (Nat.zero_add _) (s1) ?_
          refine ev_istore dL_areLinks_99 (Nat.le_of_ble_eq_true rfl) ?_
          first | refine ev_aload_n dL_areLinks_101 rfl ?_ | refine ev_aload_nN dL_areLinks_101 rfl ?_
          refine ev_iconst dL_areLinks_102 ci1 ?_
          refine ev_iload_n dL_areLinks_103 rfl ?_
          refine ev_iload dL_areLinks_104 rfl ?_
          refine ev_callT (as := [_, _, _, _]) dL_areLinks_106 st_RL_76 na_L_link (Nat.le_of_ble_eq_true rfl) (Nat.le_of_ble_eq_true rfl) (Nat.zero_add _) (Nat.zero_add _) (s2) ?_
          refine ev_istore dL_areLinks_109 (Nat.le_of_ble_eq_true rfl) ?_
          first | refine ev_aload_n dL_areLinks_111 rfl ?_ | refine ev_aload_nN dL_areLinks_111 rfl ?_
          refine ev_iload_n dL_areLinks_112 rfl ?_
          refine ev_iload dL_areLinks_113 rfl ?_
          refine ev_iload dL_areLinks_115 rfl ?_
          refine ev_callT (as := [_, _, _, _]) dL_areLinks_117 st_RL_78 na_L_isJoined (Nat.le_of_ble_eq_true rfl) (Nat.le_of_ble_eq_true rfl) (Nat.zero_add _) (Nat.zero_add _) (s3) ?_
          refine ev_istore dL_areLinks_120 (Nat.le_of_ble_eq_true rfl) ?_
          refine ev_iload dL_areLinks_122 rfl ?_
          refine ev_if_eqF dL_areLinks_124 198 (by decide) (by first | assumption | exact nI_ne0 (by omega) (by omega) | decide) ?_
          refine ev_iload dL_areLinks_127 rfl ?_
          refine ev_iconst dL_areLinks_129 cm1 ?_
          refine ev_icmp_ltF dL_areLinks_130 198 (by decide) (bo_nlt (by omega)) ?_
          refine ev_iload dL_areLinks_133 rfl ?_
          refine ev_iload_n dL_areLinks_135 rfl ?_
          refine ev_icmp_geF dL_areLinks_136 198 (by decide) (bo_nge b0 h0) ?_
          refine ev_iload dL_areLinks_139 rfl ?_
          refine ev_iconst dL_areLinks_141 cm1 ?_
          refine ev_icmp_ltF dL_areLinks_142 198 (by decide) (bo_nlt (by omega)) ?_
          refine ev_iload dL_areLinks_145 rfl ?_
          refine ev_iload dL_areLinks_147 rfl ?_
          refine ev_icmp_geF dL_areLinks_149 198 (by decide) (bo_nge b1 h1) ?_
          refine ev_iload dL_areLinks_152 rfl ?_
          refine ev_if_neT (tgt := 174) dL_areLinks_154 (by decide) (by first | assumption | exact nI_ne0 (by omega) (by omega) | decide) ?_
          refine ev_iload dL_areLinks_174 rfl ?_
          refine ev_iconst dL_areLinks_176 ci1 ?_
          refine ev_icmp_neF dL_areLinks_177 198 (by decide) (by first | assumption | exact n_eq (by omega) | decide) ?_
          refine ev_iload dL_areLinks_180 rfl ?_
          refine ev_iload dL_areLinks_182 rfl ?_
          refine ev_icmp_eqT (tgt := 194) dL_areLinks_184 (by decide) (bo_eq qa) ?_
          refine ev_iconst dL_areLinks_194 ci1 ?_
          refine ev_goto (tgt := 199) dL_areLinks_195 (by decide) ?_
          refine ev_istore dL_areLinks_199 (Nat.le_of_ble_eq_true rfl) ?_
          first | refine ev_aload dL_areLinks_201 rfl ?_ | refine ev_aloadN dL_areLinks_201 rfl ?_
          refine ev_bipush dL_areLinks_203 bp8 ?_
          refine ev_iload dL_areLinks_205 rfl ?_
          first | refine ev_imulN dL_areLinks_207 ?_ | refine ev_imul dL_areLinks_207 ?_
          refine ev_iload dL_areLinks_208 rfl ?_
          first | refine ev_iaddN dL_areLinks_210 ?_ | refine ev_iadd dL_areLinks_210 ?_
          refine ev_iload dL_areLinks_211 rfl ?_
          refine ev_iconst dL_areLinks_213 ci1 ?_
          refine ev_icmp_neF dL_areLinks_214 239 (by decide) (by first | assumption | exact n_eq (by omega) | decide) ?_
          refine ev_iload dL_areLinks_217 rfl ?_
          refine ev_iload dL_areLinks_219 rfl ?_
          refine ev_icmp_neF dL_areLinks_221 235 (by decide) (bo_eq qa) ?_
          refine ev_iload dL_areLinks_224 rfl ?_
          refine ev_iload dL_areLinks_226 rfl ?_
          refine ev_icmp_neT (tgt := 235) dL_areLinks_228 (by decide) (bo_ne qb (by omega) (by omega)) ?_
          refine ev_iconst dL_areLinks_235 ci1 ?_
          refine ev_goto (tgt := 240) dL_areLinks_236 (by decide) ?_
          refine ev_iast dL_areLinks_240 (by omega) (by repeat (first | assumption | exact up_s | refine (up_n (by omega)).trans ?_)) _ _ rfl rfl (by omega) (by omega) ?_
          refine ev_iincN (b := 1) dL_areLinks_241 rfl (Nat.le_of_ble_eq_true rfl) ?_
          refine ev_goto (tgt := 68) dL_areLinks_244 (by decide) ?_
          refine ev_sub ?_ (e2)
          repeat (first | exact trivial | refine ⟨rfl, ?_⟩)
      · have qb := (JJ_any h0 h1 qj).2.resolve_left qa
        rw [jq 1 (by unfold VV; rw [c1, c2]; exact (if_pos qj).trans (if_neg fun z => qa z.1))] at e2
        refine ev_iload dL_areLinks_68 rfl ?_
        refine ev_iload_n dL_areLinks_70 rfl ?_
        refine ev_iload dL_areLinks_71 rfl ?_
        first | refine ev_imulN dL_areLinks_73 ?_ | refine ev_imul dL_areLinks_73 ?_
        refine ev_icmp_geF dL_areLinks_74 247 (by decide) (by first | assumption | exact nI_ge (by omega) (by omega) | decide) ?_
        refine ev_iload dL_areLinks_77 rfl ?_
        refine ev_iload dL_areLinks_79 rfl ?_
        refine ev_idivN dL_areLinks_81 (by omega) (by omega) (by omega) ?_
        refine ev_istore dL_areLinks_82 (Nat.le_of_ble_eq_true rfl) ?_
        refine ev_iload dL_areLinks_84 rfl ?_
        refine ev_iload dL_areLinks_86 rfl ?_
        refine ev_iremN dL_areLinks_88 (by omega) (by omega) (by omega) ?_
        refine ev_istore dL_areLinks_89 (Nat.le_of_ble_eq_true rfl) ?_
        first | refine ev_aload_n dL_areLinks_91 rfl ?_ | refine ev_aload_nN dL_areLinks_91 rfl ?_
        refine ev_iconst dL_areLinks_92 ci0 ?_
        refine ev_iload_n dL_areLinks_93 rfl ?_
        refine ev_iload dL_areLinks_94 rfl ?_
        refine ev_callT (as := [_, _, _, _]) dL_areLinks_96 st_RL_76 na_L_link (Nat.le_of_ble_eq_true rfl) (Nat.le_of_ble_eq_true rfl) (Nat.zero_add _) (Nat.zero_add _) (s1) ?_
        refine ev_istore dL_areLinks_99 (Nat.le_of_ble_eq_true rfl) ?_
        first | refine ev_aload_n dL_areLinks_101 rfl ?_ | refine ev_aload_nN dL_areLinks_101 rfl ?_
        refine ev_iconst dL_areLinks_102 ci1 ?_
        refine ev_iload_n dL_areLinks_103 rfl ?_
        refine ev_iload dL_areLinks_104 rfl ?_
        refine ev_callT (as := [_, _, _, _]) dL_areLinks_106 st_RL_76 na_L_link (Nat.le_of_ble_eq_true rfl) (Nat.le_of_ble_eq_true rfl) (Nat.zero_add _) (Nat.zero_add _) (s2) ?_
        refine ev_istore dL_areLinks_109 (Nat.le_of_ble_eq_true rfl) ?_
        first | refine ev_aload_n dL_areLinks_111 rfl ?_ | refine ev_aload_nN dL_areLinks_111 rfl ?_
        refine ev_iload_n dL_areLinks_112 rfl ?_
        refine ev_iload dL_areLinks_113 rfl ?_
        refine ev_iload dL_areLinks_115 rfl ?_
        refine ev_callT (as := [_, _, _, _]) dL_areLinks_117 st_RL_78 na_L_isJoined (Nat.le_of_ble_eq_true rfl) (Nat.le_of_ble_eq_true rfl) (Nat.zero_add _) (Nat.zero_add _) (s3) ?_
        refine ev_istore dL_areLinks_120 (Nat.le_of_ble_eq_true rfl) ?_
        refine ev_iload dL_areLinks_122 rfl ?_
        refine ev_if_eqF dL_areLinks_124 198 (by decide) (by first | assumption | exact nI_ne0 (by omega) (by omega) | decide) ?_
        refine ev_iload dL_areLinks_127 rfl ?_
        refine ev_iconst dL_areLinks_129 cm1 ?_
        refine ev_icmp_ltF dL_areLinks_130 198 (by decide) (bo_nlt (by omega)) ?_
        refine ev_iload dL_areLinks_133 rfl ?_
        refine ev_iload_n dL_areLinks_135 rfl ?_
        refine ev_icmp_geF dL_areLinks_136 198 (by decide) (bo_nge b0 h0) ?_
        refine ev_iload dL_areLinks_139 rfl ?_
        refine ev_iconst dL_areLinks_141 cm1 ?_
        refine ev_icmp_ltF dL_areLinks_142 198 (by decide) (bo_nlt (by omega)) ?_
        refine ev_iload dL_areLinks_145 rfl ?_
        refine ev_iload dL_areLinks_147 rfl ?_
        refine ev_icmp_geF dL_areLinks_149 198 (by decide) (bo_nge b1 h1) ?_
        refine ev_iload dL_areLinks_152 rfl ?_
        refine ev_if_neT (tgt := 174) dL_areLinks_154 (by decide) (by first | assumption | exact nI_ne0 (by omega) (by omega) | decide) ?_
        refine ev_iload dL_areLinks_174 rfl ?_
        refine ev_iconst dL_areLinks_176 ci1 ?_
        refine ev_icmp_neF dL_areLinks_177 198 (by decide) (by first | assumption | exact n_eq (by omega) | decide) ?_
        refine ev_iload dL_areLinks_180 rfl ?_
        refine ev_iload dL_areLinks_182 rfl ?_
        refine ev_icmp_eqF dL_areLinks_184 194 (by decide) (bo_ne qa (by omega) (by omega)) ?_
        refine ev_iload dL_areLinks_187 rfl ?_
        refine ev_iload dL_areLinks_189 rfl ?_
        refine ev_icmp_neF dL_areLinks_191 198 (by decide) (bo_eq qb) ?_
        refine ev_iconst dL_areLinks_194 ci1 ?_
        refine ev_goto (tgt := 199) dL_areLinks_195 (by decide) ?_
        refine ev_istore dL_areLinks_199 (Nat.le_of_ble_eq_true rfl) ?_
        first | refine ev_aload dL_areLinks_201 rfl ?_ | refine ev_aloadN dL_areLinks_201 rfl ?_
        refine ev_bipush dL_areLinks_203 bp8 ?_
        refine ev_iload dL_areLinks_205 rfl ?_
        first | refine ev_imulN dL_areLinks_207 ?_ | refine ev_imul dL_areLinks_207 ?_
        refine ev_iload dL_areLinks_208 rfl ?_
        first | refine ev_iaddN dL_areLinks_210 ?_ | refine ev_iadd dL_areLinks_210 ?_
        refine ev_iload dL_areLinks_211 rfl ?_
        refine ev_iconst dL_areLinks_213 ci1 ?_
        refine ev_icmp_neF dL_areLinks_214 239 (by decide) (by first | assumption | exact n_eq (by omega) | decide) ?_
        refine ev_iload dL_areLinks_217 rfl ?_
        refine ev_iload dL_areLinks_219 rfl ?_
        refine ev_icmp_neT (tgt := 235) dL_areLinks_221 (by decide) (bo_ne qa (by omega) (by omega)) ?_
        refine ev_iconst dL_areLinks_235 ci1 ?_
        refine ev_goto (tgt := 240) dL_areLinks_236 (by decide) ?_
        refine ev_iast dL_areLinks_240 (by omega) (by repeat (first | assumption | exact up_s | refine (up_n (by omega)).trans ?_)) _ _ rfl rfl (by omega) (by omega) ?_
        refine ev_iincN (b := 1) dL_areLinks_241 rfl (Nat.le_of_ble_eq_true rfl) ?_
        refine ev_goto (tgt := 68) dL_areLinks_244 (by decide) ?_
        refine ev_sub ?_ (e2)
        repeat (first | exact trivial | refine ⟨rfl, ?_⟩)
    · rw [bI_f (p := JJ S W l w i (k / l 1 i) &&& 2 ^ (k % l 1 i) ≠ 0) (fun z => z (and_bit0.mpr qj))] at s3
      rw [jq 0 (by unfold VV; rw [c1, c2]; exact if_neg qj)] at e2
      by_cases qa : lk0 S W l w i (k / l 1 i) (k % l 1 i)
      · have qb : ¬ lk1 S W l w i (k / l 1 i) (k % l 1 i) := fun z => qj (JJ_both h0 h1 ha hb qa z)
        refine ev_iload dL_areLinks_68 rfl ?_
        refine ev_iload_n dL_areLinks_70 rfl ?_
        refine ev_iload dL_areLinks_71 rfl ?_
        first | refine ev_imulN dL_areLinks_73 ?_ | refine ev_imul dL_areLinks_73 ?_
        refine ev_icmp_geF dL_areLinks_74 247 (by decide) (by first | assumption | exact nI_ge (by omega) (by omega) | decide) ?_
        refine ev_iload dL_areLinks_77 rfl ?_
        refine ev_iload dL_areLinks_79 rfl ?_
        refine ev_idivN dL_areLinks_81 (by omega) (by omega) (by omega) ?_
        refine ev_istore dL_areLinks_82 (Nat.le_of_ble_eq_true rfl) ?_
        refine ev_iload dL_areLinks_84 rfl ?_
        refine ev_iload dL_areLinks_86 rfl ?_
        refine ev_iremN dL_areLinks_88 (by omega) (by omega) (by omega) ?_
        refine ev_istore dL_areLinks_89 (Nat.le_of_ble_eq_true rfl) ?_
        first | refine ev_aload_n dL_areLinks_91 rfl ?_ | refine ev_aload_nN dL_areLinks_91 rfl ?_
        refine ev_iconst dL_areLinks_92 ci0 ?_
        refine ev_iload_n dL_areLinks_93 rfl ?_
        refine ev_iload dL_areLinks_94 rfl ?_
        refine ev_callT (as := [_, _, _, _]) dL_areLinks_96 st_RL_76 na_L_link (Nat.le_of_ble_eq_true rfl) (Nat.le_of_ble_eq_true rfl) (Nat.zero_add _) (Nat.zero_add _) (s1) ?_
        refine ev_istore dL_areLinks_99 (Nat.le_of_ble_eq_true rfl) ?_
        first | refine ev_aload_n dL_areLinks_101 rfl ?_ | refine ev_aload_nN dL_areLinks_101 rfl ?_
        refine ev_iconst dL_areLinks_102 ci1 ?_
        refine ev_iload_n dL_areLinks_103 rfl ?_
        refine ev_iload dL_areLinks_104 rfl ?_
        refine ev_callT (as := [_, _, _, _]) dL_areLinks_106 st_RL_76 na_L_link (Nat.le_of_ble_eq_true rfl) (Nat.le_of_ble_eq_true rfl) (Nat.zero_add _) (Nat.zero_add _) (s2) ?_
        refine ev_istore dL_areLinks_109 (Nat.le_of_ble_eq_true rfl) ?_
        first | refine ev_aload_n dL_areLinks_111 rfl ?_ | refine ev_aload_nN dL_areLinks_111 rfl ?_
        refine ev_iload_n dL_areLinks_112 rfl ?_
        refine ev_iload dL_areLinks_113 rfl ?_
        refine ev_iload dL_areLinks_115 rfl ?_
        refine ev_callT (as := [_, _, _, _]) dL_areLinks_117 st_RL_78 na_L_isJoined (Nat.le_of_ble_eq_true rfl) (Nat.le_of_ble_eq_true rfl) (Nat.zero_add _) (Nat.zero_add _) (s3) ?_
        refine ev_istore dL_areLinks_120 (Nat.le_of_ble_eq_true rfl) ?_
        refine ev_iload dL_areLinks_122 rfl ?_
        refine ev_if_eqF dL_areLinks_124 198 (by decide) (by first | assumption | exact nI_ne0 (by omega) (by omega) | decide) ?_
        refine ev_iload dL_areLinks_127 rfl ?_
        refine ev_iconst dL_areLinks_129 cm1 ?_
        refine ev_icmp_ltF dL_areLinks_130 198 (by decide) (bo_nlt (by omega)) ?_
        refine ev_iload dL_areLinks_133 rfl ?_
        refine ev_iload_n dL_areLinks_135 rfl ?_
        refine ev_icmp_geF dL_areLinks_136 198 (by decide) (bo_nge b0 h0) ?_
        refine ev_iload dL_areLinks_139 rfl ?_
        refine ev_iconst dL_areLinks_141 cm1 ?_
        refine ev_icmp_ltF dL_areLinks_142 198 (by decide) (bo_nlt (by omega)) ?_
        refine ev_iload dL_areLinks_145 rfl ?_
        refine ev_iload dL_areLinks_147 rfl ?_
        refine ev_icmp_geF dL_areLinks_149 198 (by decide) (bo_nge b1 h1) ?_
        refine ev_iload dL_areLinks_152 rfl ?_
        refine ev_if_neF dL_areLinks_154 174 (by decide) (by first | assumption | exact z_eq (by omega) | decide) ?_
        refine ev_iload dL_areLinks_157 rfl ?_
        refine ev_iload dL_areLinks_159 rfl ?_
        refine ev_icmp_neF dL_areLinks_161 194 (by decide) (bo_eq qa) ?_
        refine ev_iload dL_areLinks_164 rfl ?_
        refine ev_iload dL_areLinks_166 rfl ?_
        refine ev_icmp_eqF dL_areLinks_168 198 (by decide) (bo_ne qb (by omega) (by omega)) ?_
        refine ev_goto (tgt := 194) dL_areLinks_171 (by decide) ?_
        refine ev_iconst dL_areLinks_194 ci1 ?_
        refine ev_goto (tgt := 199) dL_areLinks_195 (by decide) ?_
        refine ev_istore dL_areLinks_199 (Nat.le_of_ble_eq_true rfl) ?_
        first | refine ev_aload dL_areLinks_201 rfl ?_ | refine ev_aloadN dL_areLinks_201 rfl ?_
        refine ev_bipush dL_areLinks_203 bp8 ?_
        refine ev_iload dL_areLinks_205 rfl ?_
        first | refine ev_imulN dL_areLinks_207 ?_ | refine ev_imul dL_areLinks_207 ?_
        refine ev_iload dL_areLinks_208 rfl ?_
        first | refine ev_iaddN dL_areLinks_210 ?_ | refine ev_iadd dL_areLinks_210 ?_
        refine ev_iload dL_areLinks_211 rfl ?_
        refine ev_iconst dL_areLinks_213 ci1 ?_
        refine ev_icmp_neT (tgt := 239) dL_areLinks_214 (by decide) (by first | assumption | exact n_ne (by omega) (by omega) (by omega) | decide) ?_
        refine ev_iconst dL_areLinks_239 ci0 ?_
        refine ev_iast dL_areLinks_240 (by omega) (by repeat (first | assumption | exact up_s | refine (up_n (by omega)).trans ?_)) _ _ rfl rfl (by omega) (by omega) ?_
        refine ev_iincN (b := 1) dL_areLinks_241 rfl (Nat.le_of_ble_eq_true rfl) ?_
        refine ev_goto (tgt := 68) dL_areLinks_244 (by decide) ?_
        refine ev_sub ?_ (e2)
        repeat (first | exact trivial | refine ⟨rfl, ?_⟩)
      · refine ev_iload dL_areLinks_68 rfl ?_
        refine ev_iload_n dL_areLinks_70 rfl ?_
        refine ev_iload dL_areLinks_71 rfl ?_
        first | refine ev_imulN dL_areLinks_73 ?_ | refine ev_imul dL_areLinks_73 ?_
        refine ev_icmp_geF dL_areLinks_74 247 (by decide) (by first | assumption | exact nI_ge (by omega) (by omega) | decide) ?_
        refine ev_iload dL_areLinks_77 rfl ?_
        refine ev_iload dL_areLinks_79 rfl ?_
        refine ev_idivN dL_areLinks_81 (by omega) (by omega) (by omega) ?_
        refine ev_istore dL_areLinks_82 (Nat.le_of_ble_eq_true rfl) ?_
        refine ev_iload dL_areLinks_84 rfl ?_
        refine ev_iload dL_areLinks_86 rfl ?_
        refine ev_iremN dL_areLinks_88 (by omega) (by omega) (by omega) ?_
        refine ev_istore dL_areLinks_89 (Nat.le_of_ble_eq_true rfl) ?_
        first | refine ev_aload_n dL_areLinks_91 rfl ?_ | refine ev_aload_nN dL_areLinks_91 rfl ?_
        refine ev_iconst dL_areLinks_92 ci0 ?_
        refine ev_iload_n dL_areLinks_93 rfl ?_
        refine ev_iload dL_areLinks_94 rfl ?_
        refine ev_callT (as := [_, _, _, _]) dL_areLinks_96 st_RL_76 na_L_link (Nat.le_of_ble_eq_true rfl) (Nat.le_of_ble_eq_true rfl) (Nat.zero_add _) (Nat.zero_add _) (s1) ?_
        refine ev_istore dL_areLinks_99 (Nat.le_of_ble_eq_true rfl) ?_
        first | refine ev_aload_n dL_areLinks_101 rfl ?_ | refine ev_aload_nN dL_areLinks_101 rfl ?_
        refine ev_iconst dL_areLinks_102 ci1 ?_
        refine ev_iload_n dL_areLinks_103 rfl ?_
        refine ev_iload dL_areLinks_104 rfl ?_
        refine ev_callT (as := [_, _, _, _]) dL_areLinks_106 st_RL_76 na_L_link (Nat.le_of_ble_eq_true rfl) (Nat.le_of_ble_eq_true rfl) (Nat.zero_add _) (Nat.zero_add _) (s2) ?_
        refine ev_istore dL_areLinks_109 (Nat.le_of_ble_eq_true rfl) ?_
        first | refine ev_aload_n dL_areLinks_111 rfl ?_ | refine ev_aload_nN dL_areLinks_111 rfl ?_
        refine ev_iload_n dL_areLinks_112 rfl ?_
        refine ev_iload dL_areLinks_113 rfl ?_
        refine ev_iload dL_areLinks_115 rfl ?_
        refine ev_callT (as := [_, _, _, _]) dL_areLinks_117 st_RL_78 na_L_isJoined (Nat.le_of_ble_eq_true rfl) (Nat.le_of_ble_eq_true rfl) (Nat.zero_add _) (Nat.zero_add _) (s3) ?_
        refine ev_istore dL_areLinks_120 (Nat.le_of_ble_eq_true rfl) ?_
        refine ev_iload dL_areLinks_122 rfl ?_
        refine ev_if_eqF dL_areLinks_124 198 (by decide) (by first | assumption | exact nI_ne0 (by omega) (by omega) | decide) ?_
        refine ev_iload dL_areLinks_127 rfl ?_
        refine ev_iconst dL_areLinks_129 cm1 ?_
        refine ev_icmp_ltF dL_areLinks_130 198 (by decide) (bo_nlt (by omega)) ?_
        refine ev_iload dL_areLinks_133 rfl ?_
        refine ev_iload_n dL_areLinks_135 rfl ?_
        refine ev_icmp_geF dL_areLinks_136 198 (by decide) (bo_nge b0 h0) ?_
        refine ev_iload dL_areLinks_139 rfl ?_
        refine ev_iconst dL_areLinks_141 cm1 ?_
        refine ev_icmp_ltF dL_areLinks_142 198 (by decide) (bo_nlt (by omega)) ?_
        refine ev_iload dL_areLinks_145 rfl ?_
        refine ev_iload dL_areLinks_147 rfl ?_
        refine ev_icmp_geF dL_areLinks_149 198 (by decide) (bo_nge b1 h1) ?_
        refine ev_iload dL_areLinks_152 rfl ?_
        refine ev_if_neF dL_areLinks_154 174 (by decide) (by first | assumption | exact z_eq (by omega) | decide) ?_
        refine ev_iload dL_areLinks_157 rfl ?_
        refine ev_iload dL_areLinks_159 rfl ?_
        refine ev_icmp_neT (tgt := 194) dL_areLinks_161 (by decide) (bo_ne qa (by omega) (by omega)) ?_
        refine ev_iconst dL_areLinks_194 ci1 ?_
        refine ev_goto (tgt := 199) dL_areLinks_195 (by decide) ?_
        refine ev_istore dL_areLinks_199 (Nat.le_of_ble_eq_true rfl) ?_
        first | refine ev_aload dL_areLinks_201 rfl ?_ | refine ev_aloadN dL_areLinks_201 rfl ?_
        refine ev_bipush dL_areLinks_203 bp8 ?_
        refine ev_iload dL_areLinks_205 rfl ?_
        first | refine ev_imulN dL_areLinks_207 ?_ | refine ev_imul dL_areLinks_207 ?_
        refine ev_iload dL_areLinks_208 rfl ?_
        first | refine ev_iaddN dL_areLinks_210 ?_ | refine ev_iadd dL_areLinks_210 ?_
        refine ev_iload dL_areLinks_211 rfl ?_
        refine ev_iconst dL_areLinks_213 ci1 ?_
        refine ev_icmp_neT (tgt := 239) dL_areLinks_214 (by decide) (by first | assumption | exact n_ne (by omega) (by omega) (by omega) | decide) ?_
        refine ev_iconst dL_areLinks_239 ci0 ?_
        refine ev_iast dL_areLinks_240 (by omega) (by repeat (first | assumption | exact up_s | refine (up_n (by omega)).trans ?_)) _ _ rfl rfl (by omega) (by omega) ?_
        refine ev_iincN (b := 1) dL_areLinks_241 rfl (Nat.le_of_ble_eq_true rfl) ?_
        refine ev_goto (tgt := 68) dL_areLinks_244 (by decide) ?_
        refine ev_sub ?_ (e2)
        repeat (first | exact trivial | refine ⟨rfl, ?_⟩)
theorem l_areLinks {G Z Lc Wc : Nat → Nat} (g : GS h made t l w S W) (v : LW h G Z Lc Wc) (hn : n = 35 + 5 * made) (hi : i < made) (ht : t i = 1) (q0 : Lc (2 * i) = l 0 i) (q1 : Lc (2 * i + 1) = l 1 i) : ∃ h2, Ev (d + 9) ML_areLinks 0 (lv_args 0 [.ref 2, .ref 33, .int (nI i)]) [] n h (.inl (some (.int (nI 1))), n + 1, h2, 1 + (1 + (1 + (1 + 0))), 6 + (6 + (6 + (64 + 0)))) ∧ GS h2 made t l w S W ∧ Fr h h2 := by
  have g1 := g.1
  have v3 := v.2.2.1
  have hm := g.2.1.2.2.1
  have hp := GS_Pr g hi
  have h0 := hp.2.1.2.2.1
  have h1 := hp.2.2.2.2.1
  obtain ⟨h2, e2, z1, z2⟩ := lp_lk (d := d) hn hi ht (l 0 i * l 1 i) 0 (va_up h n (aI 64 (fun _ => 0))) (by omega) (GS_upN g (by omega)) (Fr_up Fr_rfl (by omega)) up_s
  refine ⟨h2, ?_, z1, z2⟩
  first | refine ev_aload_n dL_areLinks_0 rfl ?_ | refine ev_aload_nN dL_areLinks_0 rfl ?_
  refine ev_iconst dL_areLinks_1 ci2 ?_
  refine ev_iload_n dL_areLinks_2 rfl ?_
  first | refine ev_imulN dL_areLinks_3 ?_ | refine ev_imul dL_areLinks_3 ?_
  refine ev_iald dL_areLinks_4 (by repeat (first | assumption | exact up_s | refine (up_n (by omega)).trans ?_)) _ rfl (by omega) (by omega) ?_
  refine ev_top (v2 := .int (nI (l 0 i))) (congrArg (fun z => Value.int (nI z)) q0) ?_
  refine ev_istore_n dL_areLinks_5 (Nat.le_of_ble_eq_true rfl) ?_
  first | refine ev_aload_n dL_areLinks_6 rfl ?_ | refine ev_aload_nN dL_areLinks_6 rfl ?_
  refine ev_iconst dL_areLinks_7 ci2 ?_
  refine ev_iload_n dL_areLinks_8 rfl ?_
  first | refine ev_imulN dL_areLinks_9 ?_ | refine ev_imul dL_areLinks_9 ?_
  refine ev_iconst dL_areLinks_10 ci1 ?_
  first | refine ev_iaddN dL_areLinks_11 ?_ | refine ev_iadd dL_areLinks_11 ?_
  refine ev_iald dL_areLinks_12 (by repeat (first | assumption | exact up_s | refine (up_n (by omega)).trans ?_)) _ rfl (by omega) (by omega) ?_
  refine ev_top (v2 := .int (nI (l 1 i))) (congrArg (fun z => Value.int (nI z)) q1) ?_
  refine ev_istore dL_areLinks_13 (Nat.le_of_ble_eq_true rfl) ?_
  first | refine ev_aload_n dL_areLinks_15 rfl ?_ | refine ev_aload_nN dL_areLinks_15 rfl ?_
  refine ev_iconst dL_areLinks_16 ci0 ?_
  refine ev_iload_n dL_areLinks_17 rfl ?_
  refine ev_iload dL_areLinks_18 rfl ?_
  refine ev_callT (as := [_, _, _, _]) dL_areLinks_20 st_RL_76 na_L_link (Nat.le_of_ble_eq_true rfl) (Nat.le_of_ble_eq_true rfl) rfl rfl (hl_linkE1 g1 (lk_F g (D := 0) hi (by omega) (Nat.le_refl _) (by omega))) ?_
  refine ev_ldc (v := -1000001) dL_areLinks_23 (am_in 342 (by decide +kernel) rfl) ?_
  refine ev_icmp_neF dL_areLinks_25 56 (by decide) rfl ?_
  first | refine ev_aload_n dL_areLinks_28 rfl ?_ | refine ev_aload_nN dL_areLinks_28 rfl ?_
  refine ev_iconst dL_areLinks_29 ci1 ?_
  refine ev_iload_n dL_areLinks_30 rfl ?_
  refine ev_iload_n dL_areLinks_31 rfl ?_
  refine ev_callT (as := [_, _, _, _]) dL_areLinks_32 st_RL_76 na_L_link (Nat.le_of_ble_eq_true rfl) (Nat.le_of_ble_eq_true rfl) rfl rfl (hl_linkE1 g1 (lk_F g (D := 1) hi (by omega) (Nat.le_refl _) (by omega))) ?_
  refine ev_ldc (v := -1000001) dL_areLinks_35 (am_in 342 (by decide +kernel) rfl) ?_
  refine ev_icmp_neF dL_areLinks_37 56 (by decide) rfl ?_
  first | refine ev_aload_n dL_areLinks_40 rfl ?_ | refine ev_aload_nN dL_areLinks_40 rfl ?_
  refine ev_iload_n dL_areLinks_41 rfl ?_
  refine ev_iload_n dL_areLinks_42 rfl ?_
  refine ev_iconst dL_areLinks_43 ci0 ?_
  refine ev_callT (as := [_, _, _, _]) dL_areLinks_44 st_RL_78 na_L_isJoined (Nat.le_of_ble_eq_true rfl) (Nat.le_of_ble_eq_true rfl) rfl rfl (hl_isJoinedE1 g1 (jo_F g hi (Nat.le_refl _) (by omega))) ?_
  refine ev_ldc (v := -1000001) dL_areLinks_47 (am_in 342 (by decide +kernel) rfl) ?_
  refine ev_icmp_neF dL_areLinks_49 56 (by decide) rfl ?_
  refine ev_iconst dL_areLinks_52 ci1 ?_
  refine ev_goto (tgt := 57) dL_areLinks_53 (by decide) ?_
  refine ev_istore dL_areLinks_57 (Nat.le_of_ble_eq_true rfl) ?_
  refine ev_bipush dL_areLinks_59 bp64 ?_
  refine ev_newarray0 dL_areLinks_61 (N := 64) rfl (by decide) ?_
  refine ev_heap (congrArg (fun e => va_up h n e) aI_z) ?_
  refine ev_astore dL_areLinks_63 (Nat.le_of_ble_eq_true rfl) ?_
  refine ev_iconst dL_areLinks_65 ci0 ?_
  refine ev_istore dL_areLinks_66 (Nat.le_of_ble_eq_true rfl) ?_
  refine ev_sub ?_ (e2)
  repeat (first | exact trivial | refine ⟨rfl, ?_⟩)
end LLW
