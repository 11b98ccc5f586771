/-! the law: a call's case -/
def CO (L : Nat) (xs : Nat → Int32) (i K1 Q1 : Nat) : Prop := ∀ n h th, LI L xs n h th → ∃ n' h' k q, Ev 60 ML_law 1049 [(0, .ref 0), (1, .ref 2), (2, .ref 31), (3, .ref 44), (4, .int (nI i))] [] n h (.inl (some (.int 1)), n', h', k, q) ∧ k ≤ K1 ∧ q ≤ Q1
theorem lg_cmp_s (x : Int64) : lg_cmp x x = 0 := by
  unfold lg_cmp
  rw [if_neg (Int64.lt_irrefl), if_pos rfl]
section LC0
variable {L n th i K1 Q1 : Nat} {xs : Nat → Int32} {h : Hp}
theorem lw_put (hL : L ≤ 2048) (hi : i + 4 ≤ L) (g : LI L xs n h th) (K : CO L xs i K1 Q1) : ∃ n' h' k q, Ev 60 ML_law 120 [(0, .ref 0), (1, .ref 2), (2, .ref 31), (3, .ref 44), (4, .int (nI i))] [] n h (.inl (some (.int 1)), n', h', k, q) ∧ k ≤ K1 + 5 ∧ q ≤ Q1 + 23 := by
  have h0 := LI_0 g
  obtain ⟨kk, n1, h1, c, e, f, v, z, h2, hk, ev1, hc, he, x0, ⟨F, x31⟩, ev2, li, x44, hV, hv⟩ := js_put g (xs (i + 1)) (xs (i + 2))
  obtain ⟨n', h', k, q, ev3, hk3, hq3⟩ := K n1 h2 kk li
  obtain ⟨made, t, l, w, S, W, f9, hn, gs, ⟨⟨F9, y31⟩, ma⟩, y0, -⟩ := li
  refine ⟨n', h', c + k, e + q, ?_, by omega, by omega⟩
  obtain ⟨b, rfl, hz⟩ := hV
  by_cases zk : kk = 0
  · subst zk
    have hv := hv rfl
    rw [hz] at hv
    first | refine ev_aload_n dL_law_120 rfl ?_ | refine ev_aload_nN dL_law_120 rfl ?_
    first | refine ev_aload_n dL_law_121 rfl ?_ | refine ev_aload_nN dL_law_121 rfl ?_
    refine ev_iload dL_law_122 rfl ?_
    refine ev_iconst dL_law_124 ci1 ?_
    first | refine ev_iaddN dL_law_125 ?_ | refine ev_iadd dL_law_125 ?_
    refine ev_iald dL_law_126 (by repeat (first | assumption | exact up_s | refine (up_n (by omega)).trans ?_)) _ rfl (by omega) (by omega) ?_
    first | refine ev_aload_n dL_law_127 rfl ?_ | refine ev_aload_nN dL_law_127 rfl ?_
    refine ev_iload dL_law_128 rfl ?_
    refine ev_iconst dL_law_130 ci2 ?_
    first | refine ev_iaddN dL_law_131 ?_ | refine ev_iadd dL_law_131 ?_
    refine ev_iald dL_law_132 (by repeat (first | assumption | exact up_s | refine (up_n (by omega)).trans ?_)) _ rfl (by omega) (by omega) ?_
    first | refine ev_aload_n dL_law_133 rfl ?_ | refine ev_aload_nN dL_law_133 rfl ?_
    refine ev_callT (as := [_, _, _, _]) dL_law_134 st_RL_64 na_L_put (Nat.le_of_ble_eq_true rfl) (Nat.le_of_ble_eq_true rfl) rfl rfl (ev1) ?_
    refine ev_istore dL_law_137 (Nat.le_of_ble_eq_true rfl) ?_
    first | refine ev_aload_n dL_law_139 rfl ?_ | refine ev_aload_nN dL_law_139 rfl ?_
    first | refine ev_aload_n dL_law_140 rfl ?_ | refine ev_aload_nN dL_law_140 rfl ?_
    refine ev_iload dL_law_141 rfl ?_
    refine ev_iconst dL_law_143 ci1 ?_
    first | refine ev_iaddN dL_law_144 ?_ | refine ev_iadd dL_law_144 ?_
    refine ev_iald dL_law_145 (by repeat (first | assumption | exact up_s | refine (up_n (by omega)).trans ?_)) _ rfl (by omega) (by omega) ?_
    first | refine ev_aload_n dL_law_146 rfl ?_ | refine ev_aload_nN dL_law_146 rfl ?_
    refine ev_iload dL_law_147 rfl ?_
    refine ev_iconst dL_law_149 ci2 ?_
    first | refine ev_iaddN dL_law_150 ?_ | refine ev_iadd dL_law_150 ?_
    refine ev_iald dL_law_151 (by repeat (first | assumption | exact up_s | refine (up_n (by omega)).trans ?_)) _ rfl (by omega) (by omega) ?_
    refine ev_V2 dL_law_152 st_RL_69 na_X10_put (Nat.le_of_ble_eq_true rfl) (Nat.le_of_ble_eq_true rfl) (by repeat (first | assumption | exact up_s | refine (up_n (by omega)).trans ?_)) rfl (ev2) ?_
    refine ev_istore dL_law_155 (Nat.le_of_ble_eq_true rfl) ?_
    first | refine ev_aload_n dL_law_157 rfl ?_ | refine ev_aload_nN dL_law_157 rfl ?_
    refine ev_V0 dL_law_158 st_RL_70 na_X10_thrown (Nat.le_of_ble_eq_true rfl) (Nat.le_of_ble_eq_true rfl) (by repeat (first | assumption | exact up_s | refine (up_n (by omega)).trans ?_)) rfl (mm_thrown y31) ?_
    refine ev_iload dL_law_161 rfl ?_
    refine ev_icmp_eqT (tgt := 168) dL_law_163 (by decide) (by first | assumption | exact n_eq (by omega) | decide) ?_
    refine ev_iload dL_law_168 rfl ?_
    refine ev_if_neF dL_law_170 185 (by decide) (by first | assumption | exact z_eq (by omega) | decide) ?_
    first | refine ev_aload_n dL_law_173 rfl ?_ | refine ev_aload_nN dL_law_173 rfl ?_
    refine ev_iconst dL_law_174 ci0 ?_
    refine ev_lald dL_law_175 (by repeat (first | assumption | exact up_s | refine (up_n (by omega)).trans ?_)) _ rfl (by omega) (by omega) ?_
    refine ev_iload dL_law_176 rfl ?_
    refine ev_i2l dL_law_178 rfl ?_
    refine ev_lcmp dL_law_179 ?_
    refine ev_if_eqT (tgt := 185) dL_law_180 (by decide) (by rw [hv]; exact lg_cmp_s _) ?_
    refine ev_goto (tgt := 1049) dL_law_185 (by decide) ?_
    refine ev_sub ?_ (ev3)
    repeat (first | exact trivial | refine ⟨rfl, ?_⟩)
  · first | refine ev_aload_n dL_law_120 rfl ?_ | refine ev_aload_nN dL_law_120 rfl ?_
    first | refine ev_aload_n dL_law_121 rfl ?_ | refine ev_aload_nN dL_law_121 rfl ?_
    refine ev_iload dL_law_122 rfl ?_
    refine ev_iconst dL_law_124 ci1 ?_
    first | refine ev_iaddN dL_law_125 ?_ | refine ev_iadd dL_law_125 ?_
    refine ev_iald dL_law_126 (by repeat (first | assumption | exact up_s | refine (up_n (by omega)).trans ?_)) _ rfl (by omega) (by omega) ?_
    first | refine ev_aload_n dL_law_127 rfl ?_ | refine ev_aload_nN dL_law_127 rfl ?_
    refine ev_iload dL_law_128 rfl ?_
    refine ev_iconst dL_law_130 ci2 ?_
    first | refine ev_iaddN dL_law_131 ?_ | refine ev_iadd dL_law_131 ?_
    refine ev_iald dL_law_132 (by repeat (first | assumption | exact up_s | refine (up_n (by omega)).trans ?_)) _ rfl (by omega) (by omega) ?_
    first | refine ev_aload_n dL_law_133 rfl ?_ | refine ev_aload_nN dL_law_133 rfl ?_
    refine ev_callT (as := [_, _, _, _]) dL_law_134 st_RL_64 na_L_put (Nat.le_of_ble_eq_true rfl) (Nat.le_of_ble_eq_true rfl) rfl rfl (ev1) ?_
    refine ev_istore dL_law_137 (Nat.le_of_ble_eq_true rfl) ?_
    first | refine ev_aload_n dL_law_139 rfl ?_ | refine ev_aload_nN dL_law_139 rfl ?_
    first | refine ev_aload_n dL_law_140 rfl ?_ | refine ev_aload_nN dL_law_140 rfl ?_
    refine ev_iload dL_law_141 rfl ?_
    refine ev_iconst dL_law_143 ci1 ?_
    first | refine ev_iaddN dL_law_144 ?_ | refine ev_iadd dL_law_144 ?_
    refine ev_iald dL_law_145 (by repeat (first | assumption | exact up_s | refine (up_n (by omega)).trans ?_)) _ rfl (by omega) (by omega) ?_
    first | refine ev_aload_n dL_law_146 rfl ?_ | refine ev_aload_nN dL_law_146 rfl ?_
    refine ev_iload dL_law_147 rfl ?_
    refine ev_iconst dL_law_149 ci2 ?_
    first | refine ev_iaddN dL_law_150 ?_ | refine ev_iadd dL_law_150 ?_
    refine ev_iald dL_law_151 (by repeat (first | assumption | exact up_s | refine (up_n (by omega)).trans ?_)) _ rfl (by omega) (by omega) ?_
    refine ev_V2 dL_law_152 st_RL_69 na_X10_put (Nat.le_of_ble_eq_true rfl) (Nat.le_of_ble_eq_true rfl) (by repeat (first | assumption | exact up_s | refine (up_n (by omega)).trans ?_)) rfl (ev2) ?_
    refine ev_istore dL_law_155 (Nat.le_of_ble_eq_true rfl) ?_
    first | refine ev_aload_n dL_law_157 rfl ?_ | refine ev_aload_nN dL_law_157 rfl ?_
    refine ev_V0 dL_law_158 st_RL_70 na_X10_thrown (Nat.le_of_ble_eq_true rfl) (Nat.le_of_ble_eq_true rfl) (by repeat (first | assumption | exact up_s | refine (up_n (by omega)).trans ?_)) rfl (mm_thrown y31) ?_
    refine ev_iload dL_law_161 rfl ?_
    refine ev_icmp_eqT (tgt := 168) dL_law_163 (by decide) (by first | assumption | exact n_eq (by omega) | decide) ?_
    refine ev_iload dL_law_168 rfl ?_
    refine ev_if_neT (tgt := 185) dL_law_170 (by decide) (by first | assumption | exact nI_ne0 (by omega) (by omega) | decide) ?_
    refine ev_goto (tgt := 1049) dL_law_185 (by decide) ?_
    refine ev_sub ?_ (ev3)
    repeat (first | exact trivial | refine ⟨rfl, ?_⟩)
theorem lw_wipe (hL : L ≤ 2048) (hi : i + 4 ≤ L) (g : LI L xs n h th) (K : CO L xs i K1 Q1) : ∃ n' h' k q, Ev 60 ML_law 188 [(0, .ref 0), (1, .ref 2), (2, .ref 31), (3, .ref 44), (4, .int (nI i))] [] n h (.inl (some (.int 1)), n', h', k, q) ∧ k ≤ K1 + 5 ∧ q ≤ Q1 + 23 := by
  have h0 := LI_0 g
  have g9 := g
  obtain ⟨h1, v, h2, ⟨F9, x2⟩, ev1, ⟨F, x31⟩, ev2, li⟩ := js_wipe g
  obtain ⟨n', h', k, q, ev3, hk3, hq3⟩ := K n h2 0 li
  refine ⟨n', h', k, q, ?_, by omega, by omega⟩
  first | refine ev_aload_n dL_law_188 rfl ?_ | refine ev_aload_nN dL_law_188 rfl ?_
  refine ev_V0 dL_law_189 st_RL_73 na_X9_wipe (Nat.le_of_ble_eq_true rfl) (Nat.le_of_ble_eq_true rfl) (by repeat (first | assumption | exact up_s | refine (up_n (by omega)).trans ?_)) rfl (ev1) ?_
  first | refine ev_aload_n dL_law_192 rfl ?_ | refine ev_aload_nN dL_law_192 rfl ?_
  refine ev_V0 dL_law_193 st_RL_76 na_X10_wipe (Nat.le_of_ble_eq_true rfl) (Nat.le_of_ble_eq_true rfl) (by repeat (first | assumption | exact up_s | refine (up_n (by omega)).trans ?_)) rfl (ev2) ?_
  refine ev_icmp_eqT (tgt := 1049) dL_law_196 (by decide) rfl ?_
  refine ev_sub ?_ (ev3)
  repeat (first | exact trivial | refine ⟨rfl, ?_⟩)
theorem lw_pair (hL : L ≤ 2048) (hi : i + 4 ≤ L) (g : LI L xs n h th) (K : CO L xs i K1 Q1) : ∃ n' h' k q, Ev 60 ML_law 201 [(0, .ref 0), (1, .ref 2), (2, .ref 31), (3, .ref 44), (4, .int (nI i))] [] n h (.inl (some (.int 1)), n', h', k, q) ∧ k ≤ K1 + 5 ∧ q ≤ Q1 + 23 := by
  have h0 := LI_0 g
  obtain ⟨kk, n1, h1, c, e, f, v, z, h2, hk, ev1, hc, he, x0, ⟨F, x31⟩, ev2, li, x44, hV, hv⟩ := js_pair g
  obtain ⟨n', h', k, q, ev3, hk3, hq3⟩ := K n1 h2 kk li
  obtain ⟨made, t, l, w, S, W, f9, hn, gs, ⟨⟨F9, y31⟩, ma⟩, y0, -⟩ := li
  refine ⟨n', h', c + k, e + q, ?_, by omega, by omega⟩
  obtain ⟨b, rfl, hz⟩ := hV
  by_cases zk : kk = 0
  · subst zk
    have hv := hv rfl
    rw [hz] at hv
    first | refine ev_aload_n dL_law_201 rfl ?_ | refine ev_aload_nN dL_law_201 rfl ?_
    first | refine ev_aload_n dL_law_202 rfl ?_ | refine ev_aload_nN dL_law_202 rfl ?_
    refine ev_callT (as := [_, _]) dL_law_203 st_RL_77 na_L_pair (Nat.le_of_ble_eq_true rfl) (Nat.le_of_ble_eq_true rfl) rfl rfl (ev1) ?_
    refine ev_istore dL_law_206 (Nat.le_of_ble_eq_true rfl) ?_
    first | refine ev_aload_n dL_law_208 rfl ?_ | refine ev_aload_nN dL_law_208 rfl ?_
    refine ev_V0 dL_law_209 st_RL_80 na_X10_pair (Nat.le_of_ble_eq_true rfl) (Nat.le_of_ble_eq_true rfl) (by repeat (first | assumption | exact up_s | refine (up_n (by omega)).trans ?_)) rfl (ev2) ?_
    refine ev_istore dL_law_212 (Nat.le_of_ble_eq_true rfl) ?_
    first | refine ev_aload_n dL_law_214 rfl ?_ | refine ev_aload_nN dL_law_214 rfl ?_
    refine ev_V0 dL_law_215 st_RL_70 na_X10_thrown (Nat.le_of_ble_eq_true rfl) (Nat.le_of_ble_eq_true rfl) (by repeat (first | assumption | exact up_s | refine (up_n (by omega)).trans ?_)) rfl (mm_thrown y31) ?_
    refine ev_iload dL_law_218 rfl ?_
    refine ev_icmp_eqT (tgt := 225) dL_law_220 (by decide) (by first | assumption | exact n_eq (by omega) | decide) ?_
    refine ev_iload dL_law_225 rfl ?_
    refine ev_if_neF dL_law_227 242 (by decide) (by first | assumption | exact z_eq (by omega) | decide) ?_
    first | refine ev_aload_n dL_law_230 rfl ?_ | refine ev_aload_nN dL_law_230 rfl ?_
    refine ev_iconst dL_law_231 ci0 ?_
    refine ev_lald dL_law_232 (by repeat (first | assumption | exact up_s | refine (up_n (by omega)).trans ?_)) _ rfl (by omega) (by omega) ?_
    refine ev_iload dL_law_233 rfl ?_
    refine ev_i2l dL_law_235 rfl ?_
    refine ev_lcmp dL_law_236 ?_
    refine ev_if_eqT (tgt := 242) dL_law_237 (by decide) (by rw [hv]; exact lg_cmp_s _) ?_
    refine ev_goto (tgt := 1049) dL_law_242 (by decide) ?_
    refine ev_sub ?_ (ev3)
    repeat (first | exact trivial | refine ⟨rfl, ?_⟩)
  · first | refine ev_aload_n dL_law_201 rfl ?_ | refine ev_aload_nN dL_law_201 rfl ?_
    first | refine ev_aload_n dL_law_202 rfl ?_ | refine ev_aload_nN dL_law_202 rfl ?_
    refine ev_callT (as := [_, _]) dL_law_203 st_RL_77 na_L_pair (Nat.le_of_ble_eq_true rfl) (Nat.le_of_ble_eq_true rfl) rfl rfl (ev1) ?_
    refine ev_istore dL_law_206 (Nat.le_of_ble_eq_true rfl) ?_
    first | refine ev_aload_n dL_law_208 rfl ?_ | refine ev_aload_nN dL_law_208 rfl ?_
    refine ev_V0 dL_law_209 st_RL_80 na_X10_pair (Nat.le_of_ble_eq_true rfl) (Nat.le_of_ble_eq_true rfl) (by repeat (first | assumption | exact up_s | refine (up_n (by omega)).trans ?_)) rfl (ev2) ?_
    refine ev_istore dL_law_212 (Nat.le_of_ble_eq_true rfl) ?_
    first | refine ev_aload_n dL_law_214 rfl ?_ | refine ev_aload_nN dL_law_214 rfl ?_
    refine ev_V0 dL_law_215 st_RL_70 na_X10_thrown (Nat.le_of_ble_eq_true rfl) (Nat.le_of_ble_eq_true rfl) (by repeat (first | assumption | exact up_s | refine (up_n (by omega)).trans ?_)) rfl (mm_thrown y31) ?_
    refine ev_iload dL_law_218 rfl ?_
    refine ev_icmp_eqT (tgt := 225) dL_law_220 (by decide) (by first | assumption | exact n_eq (by omega) | decide) ?_
    refine ev_iload dL_law_225 rfl ?_
    refine ev_if_neT (tgt := 242) dL_law_227 (by decide) (by first | assumption | exact nI_ne0 (by omega) (by omega) | decide) ?_
    refine ev_goto (tgt := 1049) dL_law_242 (by decide) ?_
    refine ev_sub ?_ (ev3)
    repeat (first | exact trivial | refine ⟨rfl, ?_⟩)
theorem lw_takeBack (hL : L ≤ 2048) (hi : i + 4 ≤ L) (g : LI L xs n h th) (K : CO L xs i K1 Q1) : ∃ n' h' k q, Ev 60 ML_law 245 [(0, .ref 0), (1, .ref 2), (2, .ref 31), (3, .ref 44), (4, .int (nI i))] [] n h (.inl (some (.int 1)), n', h', k, q) ∧ k ≤ K1 + 5 ∧ q ≤ Q1 + 23 := by
  have h0 := LI_0 g
  obtain ⟨kk, n1, h1, c, e, f, v, z, h2, hk, ev1, hc, he, x0, ⟨F, x31⟩, ev2, li, x44, hV, hv⟩ := js_takeBack g (xs (i + 1))
  obtain ⟨n', h', k, q, ev3, hk3, hq3⟩ := K n1 h2 kk li
  obtain ⟨made, t, l, w, S, W, f9, hn, gs, ⟨⟨F9, y31⟩, ma⟩, y0, -⟩ := li
  refine ⟨n', h', c + k, e + q, ?_, by omega, by omega⟩
  obtain ⟨b, rfl, hz⟩ := hV
  by_cases zk : kk = 0
  · subst zk
    have hv := hv rfl
    rw [hz] at hv
    first | refine ev_aload_n dL_law_245 rfl ?_ | refine ev_aload_nN dL_law_245 rfl ?_
    first | refine ev_aload_n dL_law_246 rfl ?_ | refine ev_aload_nN dL_law_246 rfl ?_
    refine ev_iload dL_law_247 rfl ?_
    refine ev_iconst dL_law_249 ci1 ?_
    first | refine ev_iaddN dL_law_250 ?_ | refine ev_iadd dL_law_250 ?_
    refine ev_iald dL_law_251 (by repeat (first | assumption | exact up_s | refine (up_n (by omega)).trans ?_)) _ rfl (by omega) (by omega) ?_
    first | refine ev_aload_n dL_law_252 rfl ?_ | refine ev_aload_nN dL_law_252 rfl ?_
    refine ev_callT (as := [_, _, _]) dL_law_253 st_RL_81 na_L_takeBack (Nat.le_of_ble_eq_true rfl) (Nat.le_of_ble_eq_true rfl) rfl rfl (ev1) ?_
    refine ev_istore dL_law_256 (Nat.le_of_ble_eq_true rfl) ?_
    first | refine ev_aload_n dL_law_258 rfl ?_ | refine ev_aload_nN dL_law_258 rfl ?_
    first | refine ev_aload_n dL_law_259 rfl ?_ | refine ev_aload_nN dL_law_259 rfl ?_
    refine ev_iload dL_law_260 rfl ?_
    refine ev_iconst dL_law_262 ci1 ?_
    first | refine ev_iaddN dL_law_263 ?_ | refine ev_iadd dL_law_263 ?_
    refine ev_iald dL_law_264 (by repeat (first | assumption | exact up_s | refine (up_n (by omega)).trans ?_)) _ rfl (by omega) (by omega) ?_
    refine ev_V1 dL_law_265 st_RL_84 na_X10_takeBack (Nat.le_of_ble_eq_true rfl) (Nat.le_of_ble_eq_true rfl) (by repeat (first | assumption | exact up_s | refine (up_n (by omega)).trans ?_)) rfl (ev2) ?_
    refine ev_istore dL_law_268 (Nat.le_of_ble_eq_true rfl) ?_
    first | refine ev_aload_n dL_law_270 rfl ?_ | refine ev_aload_nN dL_law_270 rfl ?_
    refine ev_V0 dL_law_271 st_RL_70 na_X10_thrown (Nat.le_of_ble_eq_true rfl) (Nat.le_of_ble_eq_true rfl) (by repeat (first | assumption | exact up_s | refine (up_n (by omega)).trans ?_)) rfl (mm_thrown y31) ?_
    refine ev_iload dL_law_274 rfl ?_
    refine ev_icmp_eqT (tgt := 281) dL_law_276 (by decide) (by first | assumption | exact n_eq (by omega) | decide) ?_
    refine ev_iload dL_law_281 rfl ?_
    refine ev_if_neF dL_law_283 298 (by decide) (by first | assumption | exact z_eq (by omega) | decide) ?_
    first | refine ev_aload_n dL_law_286 rfl ?_ | refine ev_aload_nN dL_law_286 rfl ?_
    refine ev_iconst dL_law_287 ci0 ?_
    refine ev_lald dL_law_288 (by repeat (first | assumption | exact up_s | refine (up_n (by omega)).trans ?_)) _ rfl (by omega) (by omega) ?_
    refine ev_iload dL_law_289 rfl ?_
    refine ev_i2l dL_law_291 rfl ?_
    refine ev_lcmp dL_law_292 ?_
    refine ev_if_eqT (tgt := 298) dL_law_293 (by decide) (by rw [hv]; exact lg_cmp_s _) ?_
    refine ev_goto (tgt := 1049) dL_law_298 (by decide) ?_
    refine ev_sub ?_ (ev3)
    repeat (first | exact trivial | refine ⟨rfl, ?_⟩)
  · first | refine ev_aload_n dL_law_245 rfl ?_ | refine ev_aload_nN dL_law_245 rfl ?_
    first | refine ev_aload_n dL_law_246 rfl ?_ | refine ev_aload_nN dL_law_246 rfl ?_
    refine ev_iload dL_law_247 rfl ?_
    refine ev_iconst dL_law_249 ci1 ?_
    first | refine ev_iaddN dL_law_250 ?_ | refine ev_iadd dL_law_250 ?_
    refine ev_iald dL_law_251 (by repeat (first | assumption | exact up_s | refine (up_n (by omega)).trans ?_)) _ rfl (by omega) (by omega) ?_
    first | refine ev_aload_n dL_law_252 rfl ?_ | refine ev_aload_nN dL_law_252 rfl ?_
    refine ev_callT (as := [_, _, _]) dL_law_253 st_RL_81 na_L_takeBack (Nat.le_of_ble_eq_true rfl) (Nat.le_of_ble_eq_true rfl) rfl rfl (ev1) ?_
    refine ev_istore dL_law_256 (Nat.le_of_ble_eq_true rfl) ?_
    first | refine ev_aload_n dL_law_258 rfl ?_ | refine ev_aload_nN dL_law_258 rfl ?_
    first | refine ev_aload_n dL_law_259 rfl ?_ | refine ev_aload_nN dL_law_259 rfl ?_
    refine ev_iload dL_law_260 rfl ?_
    refine ev_iconst dL_law_262 ci1 ?_
    first | refine ev_iaddN dL_law_263 ?_ | refine ev_iadd dL_law_263 ?_
    refine ev_iald dL_law_264 (by repeat (first | assumption | exact up_s | refine (up_n (by omega)).trans ?_)) _ rfl (by omega) (by omega) ?_
    refine ev_V1 dL_law_265 st_RL_84 na_X10_takeBack (Nat.le_of_ble_eq_true rfl) (Nat.le_of_ble_eq_true rfl) (by repeat (first | assumption | exact up_s | refine (up_n (by omega)).trans ?_)) rfl (ev2) ?_
    refine ev_istore dL_law_268 (Nat.le_of_ble_eq_true rfl) ?_
    first | refine ev_aload_n dL_law_270 rfl ?_ | refine ev_aload_nN dL_law_270 rfl ?_
    refine ev_V0 dL_law_271 st_RL_70 na_X10_thrown (Nat.le_of_ble_eq_true rfl) (Nat.le_of_ble_eq_true rfl) (by repeat (first | assumption | exact up_s | refine (up_n (by omega)).trans ?_)) rfl (mm_thrown y31) ?_
    refine ev_iload dL_law_274 rfl ?_
    refine ev_icmp_eqT (tgt := 281) dL_law_276 (by decide) (by first | assumption | exact n_eq (by omega) | decide) ?_
    refine ev_iload dL_law_281 rfl ?_
    refine ev_if_neT (tgt := 298) dL_law_283 (by decide) (by first | assumption | exact nI_ne0 (by omega) (by omega) | decide) ?_
    refine ev_goto (tgt := 1049) dL_law_298 (by decide) ?_
    refine ev_sub ?_ (ev3)
    repeat (first | exact trivial | refine ⟨rfl, ?_⟩)
theorem lw_begin (hL : L ≤ 2048) (hi : i + 4 ≤ L) (g : LI L xs n h th) (K : CO L xs i K1 Q1) : ∃ n' h' k q, Ev 60 ML_law 301 [(0, .ref 0), (1, .ref 2), (2, .ref 31), (3, .ref 44), (4, .int (nI i))] [] n h (.inl (some (.int 1)), n', h', k, q) ∧ k ≤ K1 + 5 ∧ q ≤ Q1 + 23 := by
  have h0 := LI_0 g
  have g9 := g
  obtain ⟨h1, v, h2, ⟨F9, x2⟩, ev1, ⟨F, x31⟩, ev2, li⟩ := js_begin g
  obtain ⟨n', h', k, q, ev3, hk3, hq3⟩ := K n h2 0 li
  refine ⟨n', h', k, q, ?_, by omega, by omega⟩
  first | refine ev_aload_n dL_law_301 rfl ?_ | refine ev_aload_nN dL_law_301 rfl ?_
  refine ev_V0 dL_law_302 st_RL_85 na_X9_begin (Nat.le_of_ble_eq_true rfl) (Nat.le_of_ble_eq_true rfl) (by repeat (first | assumption | exact up_s | refine (up_n (by omega)).trans ?_)) rfl (ev1) ?_
  first | refine ev_aload_n dL_law_305 rfl ?_ | refine ev_aload_nN dL_law_305 rfl ?_
  refine ev_V0 dL_law_306 st_RL_88 na_X10_begin (Nat.le_of_ble_eq_true rfl) (Nat.le_of_ble_eq_true rfl) (by repeat (first | assumption | exact up_s | refine (up_n (by omega)).trans ?_)) rfl (ev2) ?_
  refine ev_icmp_eqT (tgt := 1049) dL_law_309 (by decide) rfl ?_
  refine ev_sub ?_ (ev3)
  repeat (first | exact trivial | refine ⟨rfl, ?_⟩)
theorem lw_round (hL : L ≤ 2048) (hi : i + 4 ≤ L) (g : LI L xs n h th) (K : CO L xs i K1 Q1) : ∃ n' h' k q, Ev 60 ML_law 314 [(0, .ref 0), (1, .ref 2), (2, .ref 31), (3, .ref 44), (4, .int (nI i))] [] n h (.inl (some (.int 1)), n', h', k, q) ∧ k ≤ K1 + 5 ∧ q ≤ Q1 + 23 := by
  have h0 := LI_0 g
  have g9 := g
  obtain ⟨h1, v, h2, ⟨F9, x2⟩, ev1, ⟨F, x31⟩, ev2, li⟩ := js_round g
  obtain ⟨n', h', k, q, ev3, hk3, hq3⟩ := K n h2 0 li
  refine ⟨n', h', k, q, ?_, by omega, by omega⟩
  first | refine ev_aload_n dL_law_314 rfl ?_ | refine ev_aload_nN dL_law_314 rfl ?_
  refine ev_V0 dL_law_315 st_RL_89 na_X9_round (Nat.le_of_ble_eq_true rfl) (Nat.le_of_ble_eq_true rfl) (by repeat (first | assumption | exact up_s | refine (up_n (by omega)).trans ?_)) rfl (ev1) ?_
  first | refine ev_aload_n dL_law_318 rfl ?_ | refine ev_aload_nN dL_law_318 rfl ?_
  refine ev_V0 dL_law_319 st_RL_92 na_X10_round (Nat.le_of_ble_eq_true rfl) (Nat.le_of_ble_eq_true rfl) (by repeat (first | assumption | exact up_s | refine (up_n (by omega)).trans ?_)) rfl (ev2) ?_
  refine ev_icmp_eqT (tgt := 1049) dL_law_322 (by decide) rfl ?_
  refine ev_sub ?_ (ev3)
  repeat (first | exact trivial | refine ⟨rfl, ?_⟩)
end LC0
