/-! the model begins: a row's shares, all rows -/
theorem apF01z {c : Nat → Nat} (hc : ∀ k, c k ≤ 1) {k : Nat} (hk : k < 15) : apF c k = if c k = 0 then 0 else 1000000 / sumN c 15 + if sumN c k < 1000000 % sumN c 15 then 1 else 0 := by
  by_cases q : sumN c 15 = 0
  · have h1 := sumN_le (f := c) hk
    have e : apF c = fun _ => 0 := if_pos q
    rw [e, if_pos (by omega)]
  · exact apF01 hc (by omega) hk
theorem sumN_add (f : Nat → Nat) (a : Nat) : ∀ b, sumN f (a + b) = sumN f a + sumN (fun x => f (a + x)) b
  | 0 => rfl
  | b + 1 => by
    show sumN f (a + b) + f (a + b) = sumN f a + (sumN (fun x => f (a + x)) b + f (a + b))
    rw [sumN_add f a b, Nat.add_assoc]
section MQ
variable {d n : Nat} {h : Hp} {made th : Nat} {F : Nat → Nat}
theorem lm_bs (g31 : h 31 = MO made F th) {C Sh : Nat → Nat} (g39 : h 39 = aL 480 C) (hC : ∀ x, C x ≤ 1) {r s m A : Nat} (hr : r + 15 ≤ 480) (hm : m = sumN (fun x => C (r + x)) 15) (hA : 0 < m → A = 1000000 % m) {o9 : Out} (K : Ev d MX10_begin 194 [(0, .ref 31), (1, .int (nI s)), (2, .int (nI r)), (3, .int (nI m))] [] n (va_up h 38 (aI 480 (rsS (apF (fun x => C (r + x))) r 15 Sh))) o9) :
    ∀ k x, x + k = 15 → Ev d MX10_begin 114 [(0, .ref 31), (1, .int (nI s)), (2, .int (nI r)), (3, .int (nI m)), (4, .int (nI (A - sumN (fun x => C (r + x)) x))), (5, .int (nI (r + x)))] [] n (va_up h 38 (aI 480 (rsS (apF (fun x => C (r + x))) r x Sh))) o9 := by
  have hm15 : m ≤ 15 := by
    have h1 := sumN_bd (f := fun x => C (r + x)) (n := 15) (b := 1) (fun k _ => hC _)
    omega
  intro k
  induction k with
  | zero =>
    intro x hx
    have e : x = 15 := by omega
    subst e
    refine ev_iload dX10_begin_114 rfl ?_
    refine ev_iload_n dX10_begin_116 rfl ?_
    refine ev_bipush dX10_begin_117 bp15 ?_
    first | refine ev_iaddN dX10_begin_119 ?_ | refine ev_iadd dX10_begin_119 ?_
    refine ev_icmp_geT (tgt := 194) dX10_begin_120 (by decide) (by first | assumption | exact nI_le (by omega) (by omega) | decide) ?_
    refine ev_sub ?_ (K)
    repeat (first | exact trivial | refine ⟨rfl, ?_⟩)
  | succ k ih =>
    intro x hx
    have ih := ih (x + 1) (by omega)
    clear K
    have c1 := hC (r + x)
    have e3 := apF01z (c := fun x => C (r + x)) (fun k => hC _) (show x < 15 by omega)
    rw [← hm] at e3
    have e1 : sumN (fun x => C (r + x)) (x + 1) = sumN (fun x => C (r + x)) x + C (r + x) := rfl
    have e2 : rsS (apF (fun x => C (r + x))) r (x + 1) Sh = va_up (rsS (apF (fun x => C (r + x))) r x Sh) (r + x) (apF (fun x => C (r + x)) x) := rfl
    have hl := sumN_le (f := fun x => C (r + x)) (show x < 15 by omega)
    rw [← hm] at hl
    rw [e1, e2] at ih
    clear e1 e2
    have hl : C (r + x) ≤ m := hl
    rcases (show C (r + x) = 0 ∨ C (r + x) = 1 by omega) with q | q
    · rw [if_pos q] at e3
      have e5 : A - (sumN (fun x => C (r + x)) x + C (r + x)) = A - sumN (fun x => C (r + x)) x - 0 := by omega
      rw [e3, e5] at ih
      refine ev_iload dX10_begin_114 rfl ?_
      refine ev_iload_n dX10_begin_116 rfl ?_
      refine ev_bipush dX10_begin_117 bp15 ?_
      first | refine ev_iaddN dX10_begin_119 ?_ | refine ev_iadd dX10_begin_119 ?_
      refine ev_icmp_geF dX10_begin_120 194 (by decide) (by first | assumption | exact nI_ge (by omega) (by omega) | decide) ?_
      first | refine ev_aload_n dX10_begin_123 rfl ?_ | refine ev_aload_nN dX10_begin_123 rfl ?_
      refine ev_getfield dX10_begin_124 fl_RX10_29 (by repeat (first | assumption | exact up_s | refine (up_n (by omega)).trans ?_)) rfl ?_
      refine ev_iload dX10_begin_127 rfl ?_
      first | refine ev_aload_n dX10_begin_129 rfl ?_ | refine ev_aload_nN dX10_begin_129 rfl ?_
      refine ev_getfield dX10_begin_130 fl_RX10_32 (by repeat (first | assumption | exact up_s | refine (up_n (by omega)).trans ?_)) rfl ?_
      refine ev_iload dX10_begin_133 rfl ?_
      refine ev_lald dX10_begin_135 (by repeat (first | assumption | exact up_s | refine (up_n (by omega)).trans ?_)) _ rfl (by omega) (by omega) ?_
      refine ev_lconst dX10_begin_136 lc0 ?_
      refine ev_lcmpN dX10_begin_137 (by omega) (by omega) ?_
      refine ev_if_neF dX10_begin_138 145 (by decide) (by first | assumption | exact cmp_eq (by omega)) ?_
      refine ev_iconst dX10_begin_141 ci0 ?_
      refine ev_goto (tgt := 160) dX10_begin_142 (by decide) ?_
      refine ev_iast dX10_begin_160 (by omega) (by repeat (first | assumption | exact up_s | refine (up_n (by omega)).trans ?_)) _ _ rfl rfl (by omega) (by omega) ?_
      refine ev_heap (up_u) ?_
      refine ev_iload dX10_begin_161 rfl ?_
      first | refine ev_aload_n dX10_begin_163 rfl ?_ | refine ev_aload_nN dX10_begin_163 rfl ?_
      refine ev_getfield dX10_begin_164 fl_RX10_32 (by repeat (first | assumption | exact up_s | refine (up_n (by omega)).trans ?_)) rfl ?_
      refine ev_iload dX10_begin_167 rfl ?_
      refine ev_lald dX10_begin_169 (by repeat (first | assumption | exact up_s | refine (up_n (by omega)).trans ?_)) _ rfl (by omega) (by omega) ?_
      refine ev_lconst dX10_begin_170 lc0 ?_
      refine ev_lcmpN dX10_begin_171 (by omega) (by omega) ?_
      refine ev_if_leT (tgt := 184) dX10_begin_172 (by decide) (by first | assumption | exact cmp_le (by omega)) ?_
      refine ev_iconst dX10_begin_184 ci0 ?_
      first | refine ev_isubN dX10_begin_185 (by omega) ?_ | refine ev_isub dX10_begin_185 ?_
      refine ev_istore dX10_begin_186 (Nat.le_of_ble_eq_true rfl) ?_
      refine ev_iincN (b := 1) dX10_begin_188 rfl (Nat.le_of_ble_eq_true rfl) ?_
      refine ev_goto (tgt := 114) dX10_begin_191 (by decide) ?_
      refine ev_sub ?_ (ih)
      repeat (first | exact trivial | refine ⟨rfl, ?_⟩)
    · have hA := hA (by omega)
      have hA2 := Nat.mod_lt 1000000 (show 0 < m by omega)
      rw [if_neg (by omega)] at e3
      by_cases z : sumN (fun x => C (r + x)) x < 1000000 % m
      · rw [if_pos z] at e3
        have e5 : A - (sumN (fun x => C (r + x)) x + C (r + x)) = A - sumN (fun x => C (r + x)) x - 1 := by omega
        rw [e3, e5] at ih
        refine ev_iload dX10_begin_114 rfl ?_
        refine ev_iload_n dX10_begin_116 rfl ?_
        refine ev_bipush dX10_begin_117 bp15 ?_
        first | refine ev_iaddN dX10_begin_119 ?_ | refine ev_iadd dX10_begin_119 ?_
        refine ev_icmp_geF dX10_begin_120 194 (by decide) (by first | assumption | exact nI_ge (by omega) (by omega) | decide) ?_
        first | refine ev_aload_n dX10_begin_123 rfl ?_ | refine ev_aload_nN dX10_begin_123 rfl ?_
        refine ev_getfield dX10_begin_124 fl_RX10_29 (by repeat (first | assumption | exact up_s | refine (up_n (by omega)).trans ?_)) rfl ?_
        refine ev_iload dX10_begin_127 rfl ?_
        first | refine ev_aload_n dX10_begin_129 rfl ?_ | refine ev_aload_nN dX10_begin_129 rfl ?_
        refine ev_getfield dX10_begin_130 fl_RX10_32 (by repeat (first | assumption | exact up_s | refine (up_n (by omega)).trans ?_)) rfl ?_
        refine ev_iload dX10_begin_133 rfl ?_
        refine ev_lald dX10_begin_135 (by repeat (first | assumption | exact up_s | refine (up_n (by omega)).trans ?_)) _ rfl (by omega) (by omega) ?_
        refine ev_lconst dX10_begin_136 lc0 ?_
        refine ev_lcmpN dX10_begin_137 (by omega) (by omega) ?_
        refine ev_if_neT (tgt := 145) dX10_begin_138 (by decide) (by first | assumption | exact cmp_ne0 (by omega)) ?_
        refine ev_ldc (v := nI 1000000) dX10_begin_145 (am_in 932 (by decide +kernel) rfl) ?_
        refine ev_iload_n dX10_begin_147 rfl ?_
        refine ev_idivN dX10_begin_148 (by omega) (by omega) (by omega) ?_
        refine ev_iload dX10_begin_149 rfl ?_
        refine ev_if_leF dX10_begin_151 158 (by decide) (by first | assumption | exact nI_nle (by omega) (by omega) | decide) ?_
        refine ev_iconst dX10_begin_154 ci1 ?_
        refine ev_goto (tgt := 159) dX10_begin_155 (by decide) ?_
        first | refine ev_iaddN dX10_begin_159 ?_ | refine ev_iadd dX10_begin_159 ?_
        refine ev_iast dX10_begin_160 (by omega) (by repeat (first | assumption | exact up_s | refine (up_n (by omega)).trans ?_)) _ _ rfl rfl (by omega) (by omega) ?_
        refine ev_heap (up_u) ?_
        refine ev_iload dX10_begin_161 rfl ?_
        first | refine ev_aload_n dX10_begin_163 rfl ?_ | refine ev_aload_nN dX10_begin_163 rfl ?_
        refine ev_getfield dX10_begin_164 fl_RX10_32 (by repeat (first | assumption | exact up_s | refine (up_n (by omega)).trans ?_)) rfl ?_
        refine ev_iload dX10_begin_167 rfl ?_
        refine ev_lald dX10_begin_169 (by repeat (first | assumption | exact up_s | refine (up_n (by omega)).trans ?_)) _ rfl (by omega) (by omega) ?_
        refine ev_lconst dX10_begin_170 lc0 ?_
        refine ev_lcmpN dX10_begin_171 (by omega) (by omega) ?_
        refine ev_if_leF dX10_begin_172 184 (by decide) (by first | assumption | exact cmp_ngt (by omega)) ?_
        refine ev_iload dX10_begin_175 rfl ?_
        refine ev_if_leF dX10_begin_177 184 (by decide) (by first | assumption | exact nI_nle (by omega) (by omega) | decide) ?_
        refine ev_iconst dX10_begin_180 ci1 ?_
        refine ev_goto (tgt := 185) dX10_begin_181 (by decide) ?_
        first | refine ev_isubN dX10_begin_185 (by omega) ?_ | refine ev_isub dX10_begin_185 ?_
        refine ev_istore dX10_begin_186 (Nat.le_of_ble_eq_true rfl) ?_
        refine ev_iincN (b := 1) dX10_begin_188 rfl (Nat.le_of_ble_eq_true rfl) ?_
        refine ev_goto (tgt := 114) dX10_begin_191 (by decide) ?_
        refine ev_sub ?_ (ih)
        repeat (first | exact trivial | refine ⟨rfl, ?_⟩)
      · rw [if_neg z] at e3
        have e5 : A - (sumN (fun x => C (r + x)) x + C (r + x)) = A - sumN (fun x => C (r + x)) x - 0 := by omega
        rw [e3, e5] at ih
        refine ev_iload dX10_begin_114 rfl ?_
        refine ev_iload_n dX10_begin_116 rfl ?_
        refine ev_bipush dX10_begin_117 bp15 ?_
        first | refine ev_iaddN dX10_begin_119 ?_ | refine ev_iadd dX10_begin_119 ?_
        refine ev_icmp_geF dX10_begin_120 194 (by decide) (by first | assumption | exact nI_ge (by omega) (by omega) | decide) ?_
        first | refine ev_aload_n dX10_begin_123 rfl ?_ | refine ev_aload_nN dX10_begin_123 rfl ?_
        refine ev_getfield dX10_begin_124 fl_RX10_29 (by repeat (first | assumption | exact up_s | refine (up_n (by omega)).trans ?_)) rfl ?_
        refine ev_iload dX10_begin_127 rfl ?_
        first | refine ev_aload_n dX10_begin_129 rfl ?_ | refine ev_aload_nN dX10_begin_129 rfl ?_
        refine ev_getfield dX10_begin_130 fl_RX10_32 (by repeat (first | assumption | exact up_s | refine (up_n (by omega)).trans ?_)) rfl ?_
        refine ev_iload dX10_begin_133 rfl ?_
        refine ev_lald dX10_begin_135 (by repeat (first | assumption | exact up_s | refine (up_n (by omega)).trans ?_)) _ rfl (by omega) (by omega) ?_
        refine ev_lconst dX10_begin_136 lc0 ?_
        refine ev_lcmpN dX10_begin_137 (by omega) (by omega) ?_
        refine ev_if_neT (tgt := 145) dX10_begin_138 (by decide) (by first | assumption | exact cmp_ne0 (by omega)) ?_
        refine ev_ldc (v := nI 1000000) dX10_begin_145 (am_in 932 (by decide +kernel) rfl) ?_
        refine ev_iload_n dX10_begin_147 rfl ?_
        refine ev_idivN dX10_begin_148 (by omega) (by omega) (by omega) ?_
        refine ev_iload dX10_begin_149 rfl ?_
        refine ev_if_leT (tgt := 158) dX10_begin_151 (by decide) (by first | assumption | exact z_le (by omega) | decide) ?_
        refine ev_iconst dX10_begin_158 ci0 ?_
        first | refine ev_iaddN dX10_begin_159 ?_ | refine ev_iadd dX10_begin_159 ?_
        refine ev_iast dX10_begin_160 (by omega) (by repeat (first | assumption | exact up_s | refine (up_n (by omega)).trans ?_)) _ _ rfl rfl (by omega) (by omega) ?_
        refine ev_heap (up_u) ?_
        refine ev_iload dX10_begin_161 rfl ?_
        first | refine ev_aload_n dX10_begin_163 rfl ?_ | refine ev_aload_nN dX10_begin_163 rfl ?_
        refine ev_getfield dX10_begin_164 fl_RX10_32 (by repeat (first | assumption | exact up_s | refine (up_n (by omega)).trans ?_)) rfl ?_
        refine ev_iload dX10_begin_167 rfl ?_
        refine ev_lald dX10_begin_169 (by repeat (first | assumption | exact up_s | refine (up_n (by omega)).trans ?_)) _ rfl (by omega) (by omega) ?_
        refine ev_lconst dX10_begin_170 lc0 ?_
        refine ev_lcmpN dX10_begin_171 (by omega) (by omega) ?_
        refine ev_if_leF dX10_begin_172 184 (by decide) (by first | assumption | exact cmp_ngt (by omega)) ?_
        refine ev_iload dX10_begin_175 rfl ?_
        refine ev_if_leT (tgt := 184) dX10_begin_177 (by decide) (by first | assumption | exact z_le (by omega) | decide) ?_
        refine ev_iconst dX10_begin_184 ci0 ?_
        first | refine ev_isubN dX10_begin_185 (by omega) ?_ | refine ev_isub dX10_begin_185 ?_
        refine ev_istore dX10_begin_186 (Nat.le_of_ble_eq_true rfl) ?_
        refine ev_iincN (b := 1) dX10_begin_188 rfl (Nat.le_of_ble_eq_true rfl) ?_
        refine ev_goto (tgt := 114) dX10_begin_191 (by decide) ?_
        refine ev_sub ?_ (ih)
        repeat (first | exact trivial | refine ⟨rfl, ?_⟩)
theorem lm_br (g31 : h 31 = MO made F th) {C Sh : Nat → Nat} (g39 : h 39 = aL 480 C) (hC : ∀ x, C x ≤ 1) :
    ∀ k y, y + k = 32 → Ev d MX10_begin 50 [(0, .ref 31), (1, .int (nI (sumN C (15 * y)))), (2, .int (nI (15 * y)))] [] n (va_up h 38 (aI 480 (apS C 0 y Sh))) (.inl (some (.int (nI (sumN C 480)))), n, va_up h 38 (aI 480 (apS C 0 32 Sh)), 0, 0) := by
  intro k
  induction k with
  | zero =>
    intro y hy
    have e : y = 32 := by omega
    subst e
    refine ev_iload_n dX10_begin_50 rfl ?_
    refine ev_sipush dX10_begin_51 sp480 ?_
    refine ev_icmp_geT (tgt := 204) dX10_begin_54 (by decide) (by first | assumption | exact nI_le (by omega) (by omega) | decide) ?_
    refine ev_iload_n dX10_begin_204 rfl ?_
    exact ev_ireturnE dX10_begin_205 rfl (by rfl)
  | succ k ih =>
    intro y hy
    have ih := ih (y + 1) (by omega)
    have e1 : sumN C (15 * (y + 1)) = sumN C (15 * y) + sumN (fun x => C (15 * y + x)) 15 := sumN_add C (15 * y) 15
    have e2 : apS C 0 (y + 1) Sh = rsS (apF (fun x => C (15 * y + x))) (15 * y) 15 (apS C 0 y Sh) := rfl
    have e3 : 15 * (y + 1) = 15 * y + 15 := by omega
    rw [e1, e2, e3] at ih
    clear e1 e2 e3
    have hbd := sumN_bd (f := fun x => C (15 * y + x)) (n := 15) (b := 1) (fun k _ => hC _)
    refine ev_iload_n dX10_begin_50 rfl ?_
    refine ev_sipush dX10_begin_51 sp480 ?_
    refine ev_icmp_geF dX10_begin_54 204 (by decide) (by first | assumption | exact nI_ge (by omega) (by omega) | decide) ?_
    refine ev_iconst dX10_begin_57 ci0 ?_
    refine ev_istore_n dX10_begin_58 (Nat.le_of_ble_eq_true rfl) ?_
    refine ev_iload_n dX10_begin_59 rfl ?_
    refine ev_istore dX10_begin_60 (Nat.le_of_ble_eq_true rfl) ?_
    refine ev_sub ?_ (lm_bm (h := va_up h 38 (aI 480 (apS C 0 y Sh))) (C := C) (r := 15 * y) (s := sumN C (15 * y)) ((up_n (by omega)).trans g31) ((up_n (by omega)).trans g39) hC (by omega) ?_ 15 0 (by omega))
    · repeat (first | exact trivial | refine ⟨rfl, ?_⟩)
    · generalize hM : sumN (fun x => C (15 * y + x)) 15 = m at *
      have hL := lm_bs (d := d) (n := n) (r := 15 * y) (s := sumN C (15 * y)) (m := m) (Sh := apS C 0 y Sh) (A := if m = 0 then 0 else 1000000 % m) (o9 := (.inl (some (.int (nI (sumN C 480)))), n, va_up h 38 (aI 480 (apS C 0 32 Sh)), 0, 0)) g31 g39 hC (by omega) hM.symm (fun q => if_neg (by omega)) (by
        refine ev_iload_n dX10_begin_194 rfl ?_
        refine ev_iload_n dX10_begin_195 rfl ?_
        first | refine ev_iaddN dX10_begin_196 ?_ | refine ev_iadd dX10_begin_196 ?_
        refine ev_istore_n dX10_begin_197 (Nat.le_of_ble_eq_true rfl) ?_
        refine ev_iincN (b := 15) dX10_begin_198 rfl (Nat.le_of_ble_eq_true rfl) ?_
        refine ev_goto (tgt := 50) dX10_begin_201 (by decide) ?_
        refine ev_sub ?_ (ih)
        repeat (first | exact trivial | refine ⟨rfl, ?_⟩)
        ) 15 0 (by omega)
      clear ih
      by_cases q0 : m = 0
      · rw [if_pos q0] at hL
        refine ev_iload_n dX10_begin_97 rfl ?_
        refine ev_if_neF dX10_begin_98 105 (by decide) (by first | assumption | exact z_eq (by omega) | decide) ?_
        refine ev_iconst dX10_begin_101 ci0 ?_
        refine ev_goto (tgt := 109) dX10_begin_102 (by decide) ?_
        refine ev_istore dX10_begin_109 (Nat.le_of_ble_eq_true rfl) ?_
        refine ev_iload_n dX10_begin_111 rfl ?_
        refine ev_istore dX10_begin_112 (Nat.le_of_ble_eq_true rfl) ?_
        refine ev_sub ?_ (hL)
        repeat (first | exact trivial | refine ⟨rfl, ?_⟩)
      · rw [if_neg q0, show 1000000 % m - sumN (fun x => C (15 * y + x)) 0 = 1000000 % m from Nat.sub_zero _] at hL
        refine ev_iload_n dX10_begin_97 rfl ?_
        refine ev_if_neT (tgt := 105) dX10_begin_98 (by decide) (by first | assumption | exact nI_ne0 (by omega) (by omega) | decide) ?_
        refine ev_ldc (v := nI 1000000) dX10_begin_105 (am_in 932 (by decide +kernel) rfl) ?_
        refine ev_iload_n dX10_begin_107 rfl ?_
        refine ev_iremN dX10_begin_108 (by omega) (by omega) (by omega) ?_
        refine ev_istore dX10_begin_109 (Nat.le_of_ble_eq_true rfl) ?_
        refine ev_iload_n dX10_begin_111 rfl ?_
        refine ev_istore dX10_begin_112 (Nat.le_of_ble_eq_true rfl) ?_
        refine ev_sub ?_ (hL)
        repeat (first | exact trivial | refine ⟨rfl, ?_⟩)
end MQ
