/-! the law: its loop, its start -/
def wk (k : Nat) : Nat → Nat := fun c => if c < k then 4 - c else 0
theorem wk_eq (k : Nat) : va_up (wk k) k (4 - k) = wk (k + 1) := by
  funext c
  unfold va_up wk
  by_cases q : c = k
  · rw [if_pos q, if_pos (by omega), q]
  · rw [if_neg q]
    by_cases q2 : c < k
    · rw [if_pos q2, if_pos (by omega)]
    · rw [if_neg q2, if_neg (by omega)]
theorem wk_fw : ∀ k, k < 5 → va_up (wk 4) 4 1 k = fwN k := by decide
section LZ
variable {L n gc : Nat} {xs : Nat → Int32} {h : Hp}
theorem lp_w {o9 : Out} (K : Ev 60 ML_law 52 [(0, .ref 0), (1, .ref 2), (2, .ref 31), (3, .ref 32), (4, .ref 33), (5, .ref 34)] [] n (va_up h 34 (aI 5 (wk 4))) o9) :
    ∀ m k, k + m = 4 → Ev 60 ML_law 31 [(0, .ref 0), (1, .ref 2), (2, .ref 31), (3, .ref 32), (4, .ref 33), (5, .ref 34), (6, .int (nI k))] [] n (va_up h 34 (aI 5 (wk k))) o9 := by
  intro m
  induction m with
  | zero =>
    intro k hk
    have e : k = 4 := by omega
    subst e
    refine ev_iload dL_law_31 rfl ?_
    refine ev_iconst dL_law_33 ci4 ?_
    refine ev_icmp_geT (tgt := 52) dL_law_34 (by decide) (by first | assumption | exact nI_le (by omega) (by omega) | decide) ?_
    refine ev_sub ?_ (K)
    repeat (first | exact trivial | refine ⟨rfl, ?_⟩)
  | succ m ih =>
    intro k hk
    have ih := ih (k + 1) (by omega)
    refine ev_iload dL_law_31 rfl ?_
    refine ev_iconst dL_law_33 ci4 ?_
    refine ev_icmp_geF dL_law_34 52 (by decide) (by first | assumption | exact nI_ge (by omega) (by omega) | decide) ?_
    first | refine ev_aload dL_law_37 rfl ?_ | refine ev_aloadN dL_law_37 rfl ?_
    refine ev_iload dL_law_39 rfl ?_
    refine ev_iconst dL_law_41 ci4 ?_
    refine ev_iload dL_law_42 rfl ?_
    first | refine ev_isubN dL_law_44 (by omega) ?_ | refine ev_isub dL_law_44 ?_
    refine ev_iast dL_law_45 (by omega) (by repeat (first | assumption | exact up_s | refine (up_n (by omega)).trans ?_)) _ _ rfl rfl (by omega) (by omega) ?_
    refine ev_iincN (b := 1) dL_law_46 rfl (Nat.le_of_ble_eq_true rfl) ?_
    refine ev_goto (tgt := 31) dL_law_49 (by decide) ?_
    refine ev_heap (up_u.trans (congrArg (fun f => va_up h 34 (aI 5 f)) (wk_eq k))) ?_
    refine ev_sub ?_ (ih)
    repeat (first | exact trivial | refine ⟨rfl, ?_⟩)
theorem lw_loop (hL : L ≤ 260) : ∀ m k n h gc, k + m = 50 → gc ≤ k → LI L xs n h gc → ∃ n' h' c e, Ev 60 ML_law 74 [(0, .ref 0), (1, .ref 2), (2, .ref 31), (3, .ref 32), (4, .ref 33), (5, .ref 34), (6, .int (nI 1)), (7, .int (nI k))] [] n h (.inl (some (.int 1)), n', h', c, e) ∧ c ≤ 10 * m + 4 ∧ e ≤ 90 * m + 90 := by
  intro m
  induction m with
  | zero =>
    intro k n h gc hk hg I
    have e : k = 50 := by omega
    subst e
    obtain ⟨made, t, l, w, S, W, G, Z, Lc, Wc, hn, g, v, rs, z, r⟩ := I
    have sh := l_areShares (d := 55) (n := n) g rs
    have v1 := v.1
    have v2 := v.2.1
    have G2 := r.1.2.2.1
    have hm20 := g.2.1.2.2.1
    by_cases q : made = 0
    · refine ⟨n, h, 0, 0, ?_, by omega, by omega⟩
      refine ev_iload dL_law_74 rfl ?_
      refine ev_bipush dL_law_76 bp50 ?_
      refine ev_icmp_geT (tgt := 122) dL_law_78 (by decide) (by first | assumption | exact nI_le (by omega) (by omega) | decide) ?_
      refine ev_iload dL_law_122 rfl ?_
      refine ev_if_eqF dL_law_124 169 (by decide) (by first | assumption | exact nI_ne0 (by omega) (by omega) | decide) ?_
      first | refine ev_aload_n dL_law_127 rfl ?_ | refine ev_aload_nN dL_law_127 rfl ?_
      refine ev_S1 dL_law_128 st_RL_118 na_L_areShares (Nat.le_of_ble_eq_true rfl) (Nat.le_of_ble_eq_true rfl) (sh) ?_
      refine ev_if_eqF dL_law_131 169 (by decide) (by first | assumption | exact nI_ne0 (by omega) (by omega) | decide) ?_
      first | refine ev_aload_n dL_law_134 rfl ?_ | refine ev_aload_nN dL_law_134 rfl ?_
      refine ev_iconst dL_law_135 ci2 ?_
      refine ev_iald dL_law_136 (by repeat (first | assumption | exact up_s | refine (up_n (by omega)).trans ?_)) _ rfl (by omega) (by omega) ?_
      refine ev_if_eqT (tgt := 165) dL_law_137 (by decide) (by first | assumption | exact z_eq (by omega) | decide) ?_
      refine ev_iconst dL_law_165 ci1 ?_
      refine ev_goto (tgt := 170) dL_law_166 (by decide) ?_
      exact ev_zreturnE dL_law_170 rfl (by first | exact Or.inl rfl | exact Or.inr rfl | assumption | exact z01 (bI_01 _) | exact z01 (by omega)) (by rfl)
    · have hi : G 2 - 1 < made := by omega
      have hZ := r.2.1 _ hi
      rcases g.2.1.2.2.2.2.1 (G 2 - 1) with ht | ht
      · refine ⟨n, h, 0, 0, ?_, by omega, by omega⟩
        refine ev_iload dL_law_74 rfl ?_
        refine ev_bipush dL_law_76 bp50 ?_
        refine ev_icmp_geT (tgt := 122) dL_law_78 (by decide) (by first | assumption | exact nI_le (by omega) (by omega) | decide) ?_
        refine ev_iload dL_law_122 rfl ?_
        refine ev_if_eqF dL_law_124 169 (by decide) (by first | assumption | exact nI_ne0 (by omega) (by omega) | decide) ?_
        first | refine ev_aload_n dL_law_127 rfl ?_ | refine ev_aload_nN dL_law_127 rfl ?_
        refine ev_S1 dL_law_128 st_RL_118 na_L_areShares (Nat.le_of_ble_eq_true rfl) (Nat.le_of_ble_eq_true rfl) (sh) ?_
        refine ev_if_eqF dL_law_131 169 (by decide) (by first | assumption | exact nI_ne0 (by omega) (by omega) | decide) ?_
        first | refine ev_aload_n dL_law_134 rfl ?_ | refine ev_aload_nN dL_law_134 rfl ?_
        refine ev_iconst dL_law_135 ci2 ?_
        refine ev_iald dL_law_136 (by repeat (first | assumption | exact up_s | refine (up_n (by omega)).trans ?_)) _ rfl (by omega) (by omega) ?_
        refine ev_if_eqF dL_law_137 165 (by decide) (by first | assumption | exact nI_ne0 (by omega) (by omega) | decide) ?_
        first | refine ev_aload_n dL_law_140 rfl ?_ | refine ev_aload_nN dL_law_140 rfl ?_
        first | refine ev_aload_n dL_law_141 rfl ?_ | refine ev_aload_nN dL_law_141 rfl ?_
        refine ev_iconst dL_law_142 ci2 ?_
        refine ev_iald dL_law_143 (by repeat (first | assumption | exact up_s | refine (up_n (by omega)).trans ?_)) _ rfl (by omega) (by omega) ?_
        refine ev_iconst dL_law_144 ci1 ?_
        first | refine ev_isubN dL_law_145 (by omega) ?_ | refine ev_isub dL_law_145 ?_
        refine ev_iald dL_law_146 (by repeat (first | assumption | exact up_s | refine (up_n (by omega)).trans ?_)) _ rfl (by omega) (by omega) ?_
        refine ev_iconst dL_law_147 ci1 ?_
        refine ev_icmp_eqT (tgt := 165) dL_law_148 (by decide) (by first | assumption | exact n_eq (by omega) | decide) ?_
        refine ev_iconst dL_law_165 ci1 ?_
        refine ev_goto (tgt := 170) dL_law_166 (by decide) ?_
        exact ev_zreturnE dL_law_170 rfl (by first | exact Or.inl rfl | exact Or.inr rfl | assumption | exact z01 (bI_01 _) | exact z01 (by omega)) (by rfl)
      · have hL := r.2.2.2.1 _ hi
        obtain ⟨h2, ev, g2, f2⟩ := l_areLinks (d := 50) g v hn hi ht hL.1 hL.2.1
        refine ⟨n + 1, h2, (1 + (1 + (1 + (1 + 0)))) + 0, (6 + (6 + (6 + (64 + 0)))) + 0, ?_, by omega, by omega⟩
        refine ev_iload dL_law_74 rfl ?_
        refine ev_bipush dL_law_76 bp50 ?_
        refine ev_icmp_geT (tgt := 122) dL_law_78 (by decide) (by first | assumption | exact nI_le (by omega) (by omega) | decide) ?_
        refine ev_iload dL_law_122 rfl ?_
        refine ev_if_eqF dL_law_124 169 (by decide) (by first | assumption | exact nI_ne0 (by omega) (by omega) | decide) ?_
        first | refine ev_aload_n dL_law_127 rfl ?_ | refine ev_aload_nN dL_law_127 rfl ?_
        refine ev_S1 dL_law_128 st_RL_118 na_L_areShares (Nat.le_of_ble_eq_true rfl) (Nat.le_of_ble_eq_true rfl) (sh) ?_
        refine ev_if_eqF dL_law_131 169 (by decide) (by first | assumption | exact nI_ne0 (by omega) (by omega) | decide) ?_
        first | refine ev_aload_n dL_law_134 rfl ?_ | refine ev_aload_nN dL_law_134 rfl ?_
        refine ev_iconst dL_law_135 ci2 ?_
        refine ev_iald dL_law_136 (by repeat (first | assumption | exact up_s | refine (up_n (by omega)).trans ?_)) _ rfl (by omega) (by omega) ?_
        refine ev_if_eqF dL_law_137 165 (by decide) (by first | assumption | exact nI_ne0 (by omega) (by omega) | decide) ?_
        first | refine ev_aload_n dL_law_140 rfl ?_ | refine ev_aload_nN dL_law_140 rfl ?_
        first | refine ev_aload_n dL_law_141 rfl ?_ | refine ev_aload_nN dL_law_141 rfl ?_
        refine ev_iconst dL_law_142 ci2 ?_
        refine ev_iald dL_law_143 (by repeat (first | assumption | exact up_s | refine (up_n (by omega)).trans ?_)) _ rfl (by omega) (by omega) ?_
        refine ev_iconst dL_law_144 ci1 ?_
        first | refine ev_isubN dL_law_145 (by omega) ?_ | refine ev_isub dL_law_145 ?_
        refine ev_iald dL_law_146 (by repeat (first | assumption | exact up_s | refine (up_n (by omega)).trans ?_)) _ rfl (by omega) (by omega) ?_
        refine ev_iconst dL_law_147 ci1 ?_
        refine ev_icmp_eqF dL_law_148 165 (by decide) (by first | assumption | exact n_ne (by omega) (by omega) (by omega) | decide) ?_
        first | refine ev_aload_n dL_law_151 rfl ?_ | refine ev_aload_nN dL_law_151 rfl ?_
        first | refine ev_aload dL_law_152 rfl ?_ | refine ev_aloadN dL_law_152 rfl ?_
        first | refine ev_aload_n dL_law_154 rfl ?_ | refine ev_aload_nN dL_law_154 rfl ?_
        refine ev_iconst dL_law_155 ci2 ?_
        refine ev_iald dL_law_156 (by repeat (first | assumption | exact up_s | refine (up_n (by omega)).trans ?_)) _ rfl (by omega) (by omega) ?_
        refine ev_iconst dL_law_157 ci1 ?_
        first | refine ev_isubN dL_law_158 (by omega) ?_ | refine ev_isub dL_law_158 ?_
        refine ev_S3K dL_law_159 st_RL_132 na_L_areLinks (Nat.le_of_ble_eq_true rfl) (Nat.le_of_ble_eq_true rfl) rfl rfl (ev) ?_
        refine ev_if_eqF dL_law_162 169 (by decide) (by first | assumption | exact nI_ne0 (by omega) (by omega) | decide) ?_
        refine ev_iconst dL_law_165 ci1 ?_
        refine ev_goto (tgt := 170) dL_law_166 (by decide) ?_
        exact ev_zreturnE dL_law_170 rfl (by first | exact Or.inl rfl | exact Or.inr rfl | assumption | exact z01 (bI_01 _) | exact z01 (by omega)) (by rfl)
  | succ m ih =>
    intro k n h gc hk hg I
    have h0 : h 0 = .inl (0, L, .inl xs) := by
      obtain ⟨made, t, l, w, S, W, G, Z, Lc, Wc, hn, g, v, rs, z, r⟩ := I
      exact z.1
    obtain ⟨x, ex⟩ := l_at (d := 59) (n := n) hL (show 2 * k < 1000 by omega) h0
    obtain ⟨y, ey⟩ := l_at (d := 59) (n := n) hL (show 2 * k + 1 < 1000 by omega) h0
    obtain ⟨n1, h1, c1, e1, gc1, ev1, I1, b0, b1, b2⟩ := l_acts (d := 49) I (by omega) x y
    obtain ⟨n2, h2, c2, e2, ev2, b3, b4⟩ := ih (k + 1) n1 h1 gc1 (by omega) (by omega) I1
    refine ⟨n2, h2, c1 + c2, e1 + e2, ?_, by omega, by omega⟩
    refine ev_iload dL_law_74 rfl ?_
    refine ev_bipush dL_law_76 bp50 ?_
    refine ev_icmp_geF dL_law_78 122 (by decide) (by first | assumption | exact nI_ge (by omega) (by omega) | decide) ?_
    refine ev_iload dL_law_81 rfl ?_
    refine ev_if_eqF dL_law_83 122 (by decide) (by first | assumption | exact nI_ne0 (by omega) (by omega) | decide) ?_
    first | refine ev_aload_n dL_law_86 rfl ?_ | refine ev_aload_nN dL_law_86 rfl ?_
    first | refine ev_aload_n dL_law_87 rfl ?_ | refine ev_aload_nN dL_law_87 rfl ?_
    first | refine ev_aload_n dL_law_88 rfl ?_ | refine ev_aload_nN dL_law_88 rfl ?_
    first | refine ev_aload dL_law_89 rfl ?_ | refine ev_aloadN dL_law_89 rfl ?_
    first | refine ev_aload dL_law_91 rfl ?_ | refine ev_aloadN dL_law_91 rfl ?_
    first | refine ev_aload_n dL_law_93 rfl ?_ | refine ev_aload_nN dL_law_93 rfl ?_
    refine ev_iconst dL_law_94 ci2 ?_
    refine ev_iload dL_law_95 rfl ?_
    first | refine ev_imulN dL_law_97 ?_ | refine ev_imul dL_law_97 ?_
    refine ev_S2 dL_law_98 st_RL_146 na_L_at (Nat.le_of_ble_eq_true rfl) (Nat.le_of_ble_eq_true rfl) (ex) ?_
    first | refine ev_aload_n dL_law_101 rfl ?_ | refine ev_aload_nN dL_law_101 rfl ?_
    refine ev_iconst dL_law_102 ci2 ?_
    refine ev_iload dL_law_103 rfl ?_
    first | refine ev_imulN dL_law_105 ?_ | refine ev_imul dL_law_105 ?_
    refine ev_iconst dL_law_106 ci1 ?_
    first | refine ev_iaddN dL_law_107 ?_ | refine ev_iadd dL_law_107 ?_
    refine ev_S2 dL_law_108 st_RL_146 na_L_at (Nat.le_of_ble_eq_true rfl) (Nat.le_of_ble_eq_true rfl) (ey) ?_
    refine ev_S7K dL_law_111 st_RL_150 na_L_acts (Nat.le_of_ble_eq_true rfl) (Nat.le_of_ble_eq_true rfl) rfl rfl (ev1) ?_
    refine ev_istore dL_law_114 (Nat.le_of_ble_eq_true rfl) ?_
    refine ev_iincN (b := 1) dL_law_116 rfl (Nat.le_of_ble_eq_true rfl) ?_
    refine ev_goto (tgt := 74) dL_law_119 (by decide) ?_
    refine ev_sub ?_ (ev2)
    repeat (first | exact trivial | refine ⟨rfl, ?_⟩)
end LZ
theorem law_ev2 (L : Nat) (xs : Nat → Int32) (hL : L ≤ 260) {h0 : Hp} (hh : h0 0 = .inl (0, L, .inl xs)) (hh1 : h0 1 = .inl (0, 5, .inl am_fw)) : ∃ (n' : Nat) (h' : Hp) (k q : Nat), Ev 60 ML_law 0 [(0, .ref 0)] [] 2 h0 (.inl (some (.int 1)), n', h', k, q) ∧ k ≤ 600130 ∧ q ≤ 7301080 := by
  obtain ⟨h1, ev1, g1, o1⟩ := m9_init (d := 57) (h := va_up h0 2 (.inr (9, [.null, .null, .null, .null, .null, .null]))) up_s
  have gE : GS (va_up (va_up (va_up (va_up h1 31 (aI 4 (fun _ => 0))) 32 (aI 20 (fun _ => 0))) 33 (aI 40 (fun _ => 0))) 34 (aI 5 (va_up (wk 4) 4 1))) 0 (fun _ => 0) (fun _ _ => 0) (fun _ _ _ => 0) (fun _ _ => 0) fwN := GS_upL (GS_upL (GS_upL (GS_upL g1 (by omega) (by omega)) (by omega) (by omega)) (by omega) (by omega)) (by omega) (by omega)
  have z1 : H01 L xs h1 := ⟨(o1 0 (by omega)).trans ((up_n (by omega)).trans hh), (o1 1 (by omega)).trans ((up_n (by omega)).trans hh1)⟩
  have li : LI L xs 35 (va_up (va_up (va_up (va_up h1 31 (aI 4 (fun _ => 0))) 32 (aI 20 (fun _ => 0))) 33 (aI 40 (fun _ => 0))) 34 (aI 5 (va_up (wk 4) 4 1))) 0 :=
    ⟨0, _, _, _, _, _, fun _ => 0, fun _ => 0, fun _ => 0, _, rfl, gE, ⟨(up_n (by omega)).trans ((up_n (by omega)).trans ((up_n (by omega)).trans up_s)), (up_n (by omega)).trans ((up_n (by omega)).trans up_s), (up_n (by omega)).trans up_s, up_s⟩, RS_0, H01_up (by omega) (H01_up (by omega) (H01_up (by omega) (H01_up (by omega) z1))), ⟨rfl, rfl, rfl, rfl⟩, fun i hi => absurd hi (Nat.not_lt_zero _), fun i _ => rfl, fun i hi => absurd hi (Nat.not_lt_zero _), wk_fw⟩
  obtain ⟨n', h', k, q, ev, hk, hq⟩ := lw_loop hL 50 0 35 _ 0 (by omega) (by omega) li
  have gE1 := gE.1
  refine ⟨n', h', 1 + (28 + (1 + (1 + (1 + (1 + k))))), 6 + (1159 + (4 + (20 + (40 + (5 + q))))), ?_, by omega, by omega⟩
  refine ev_new dL_law_0 nw_RL_11 ?_
  refine ev_dup dL_law_3 rfl ?_
  refine ev_I0vK dL_law_4 st_RL_145 na_X9_init (Nat.le_of_ble_eq_true rfl) (Nat.le_of_ble_eq_true rfl) rfl rfl (ev1) ?_
  first | refine ev_astore_n dL_law_7 (Nat.le_of_ble_eq_true rfl) ?_ | refine ev_astore_nN dL_law_7 (Nat.le_of_ble_eq_true rfl) ?_
  refine ev_iconst dL_law_8 ci4 ?_
  refine ev_newarray0 dL_law_9 (N := 4) rfl (by decide) ?_
  refine ev_heap (congrArg (fun e => va_up h1 31 e) aI_z) ?_
  first | refine ev_astore_n dL_law_11 (Nat.le_of_ble_eq_true rfl) ?_ | refine ev_astore_nN dL_law_11 (Nat.le_of_ble_eq_true rfl) ?_
  refine ev_bipush dL_law_12 bp20 ?_
  refine ev_newarray0 dL_law_14 (N := 20) rfl (by decide) ?_
  refine ev_heap (congrArg (fun e => va_up (va_up h1 31 (aI 4 (fun _ => 0))) 32 e) aI_z) ?_
  first | refine ev_astore_n dL_law_16 (Nat.le_of_ble_eq_true rfl) ?_ | refine ev_astore_nN dL_law_16 (Nat.le_of_ble_eq_true rfl) ?_
  refine ev_bipush dL_law_17 bp40 ?_
  refine ev_newarray0 dL_law_19 (N := 40) rfl (by decide) ?_
  refine ev_heap (congrArg (fun e => va_up (va_up (va_up h1 31 (aI 4 (fun _ => 0))) 32 (aI 20 (fun _ => 0))) 33 e) aI_z) ?_
  refine ev_astore dL_law_21 (Nat.le_of_ble_eq_true rfl) ?_
  refine ev_iconst dL_law_23 ci5 ?_
  refine ev_newarray0 dL_law_24 (N := 5) rfl (by decide) ?_
  refine ev_heap (congrArg (fun e => va_up (va_up (va_up (va_up h1 31 (aI 4 (fun _ => 0))) 32 (aI 20 (fun _ => 0))) 33 (aI 40 (fun _ => 0))) 34 e) aI_z) ?_
  refine ev_astore dL_law_26 (Nat.le_of_ble_eq_true rfl) ?_
  refine ev_iconst dL_law_28 ci0 ?_
  refine ev_istore dL_law_29 (Nat.le_of_ble_eq_true rfl) ?_
  refine ev_sub ?_ (lp_w ?_ 4 0 (by omega))
  · repeat (first | exact trivial | refine ⟨rfl, ?_⟩)
  · first | refine ev_aload dL_law_52 rfl ?_ | refine ev_aloadN dL_law_52 rfl ?_
    refine ev_iconst dL_law_54 ci4 ?_
    refine ev_iconst dL_law_55 ci1 ?_
    refine ev_iast dL_law_56 (by omega) (by repeat (first | assumption | exact up_s | refine (up_n (by omega)).trans ?_)) _ _ rfl rfl (by omega) (by omega) ?_
    refine ev_heap up_u ?_
    first | refine ev_aload_n dL_law_57 rfl ?_ | refine ev_aload_nN dL_law_57 rfl ?_
    refine ev_V0K dL_law_58 st_RL_95 na_X9_pairs (Nat.le_of_ble_eq_true rfl) (Nat.le_of_ble_eq_true rfl) (by repeat (first | assumption | exact up_s | refine (up_n (by omega)).trans ?_)) rfl (Nat.zero_add _) (Nat.zero_add _) (m9_pairs gE) ?_
    refine ev_if_neF dL_law_61 68 (by decide) (by first | assumption | exact z_eq (by omega) | decide) ?_
    refine ev_iconst dL_law_64 ci1 ?_
    refine ev_goto (tgt := 69) dL_law_65 (by decide) ?_
    refine ev_istore dL_law_69 (Nat.le_of_ble_eq_true rfl) ?_
    refine ev_iconst dL_law_71 ci0 ?_
    refine ev_istore dL_law_72 (Nat.le_of_ble_eq_true rfl) ?_
    refine ev_sub ?_ (ev)
    repeat (first | exact trivial | refine ⟨rfl, ?_⟩)
