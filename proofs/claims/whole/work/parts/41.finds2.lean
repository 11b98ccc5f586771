/-! the model finds what is joined -/
def L1F (f : Nat → Nat) (k c : Nat) : Nat := if c % 8 < k ∧ f (c % 8) = c / 8 + 1 then 1 else 0
def L2F (f g : Nat → Nat) (l k c : Nat) : Nat := L1F f l c + if c / 8 < k ∧ g (c / 8) = c % 8 + 1 then 2 else 0
theorem L1_step {f : Nat → Nat} {k i : Nat} (hk : k < 8) (e : f k = i + 1) : va_up (L1F f k) (8 * i + k) (L1F f k (8 * i + k) + 1) = L1F f (k + 1) := by
  have z : L1F f k (8 * i + k) = 0 := if_neg (by omega)
  rw [z]
  funext c
  by_cases q : c = 8 * i + k
  · rw [q, up_sN]
    have e1 : (8 * i + k) % 8 = k := by omega
    have e2 : (8 * i + k) / 8 = i := by omega
    unfold L1F
    rw [e1, e2, if_pos ⟨by omega, e⟩]
  · rw [up_nN q]
    unfold L1F
    by_cases q2 : c % 8 = k
    · have q3 : c / 8 ≠ i := by omega
      rw [q2, e, if_neg (by omega), if_neg (by omega)]
    · by_cases q4 : c % 8 < k ∧ f (c % 8) = c / 8 + 1
      · rw [if_pos q4, if_pos ⟨by omega, q4.2⟩]
      · rw [if_neg q4, if_neg (fun z => q4 ⟨by omega, z.2⟩)]
theorem L1_skip {f : Nat → Nat} {k : Nat} (e : f k = 0) : L1F f k = L1F f (k + 1) := by
  funext c
  unfold L1F
  by_cases q2 : c % 8 = k
  · rw [q2, e, if_neg (by omega), if_neg (by omega)]
  · by_cases q4 : c % 8 < k ∧ f (c % 8) = c / 8 + 1
    · rw [if_pos q4, if_pos ⟨by omega, q4.2⟩]
    · rw [if_neg q4, if_neg (fun z => q4 ⟨by omega, z.2⟩)]
theorem L1_0 {f : Nat → Nat} : L1F f 0 = fun _ => 0 := funext fun c => if_neg (by omega)
theorem L2_0 {f g : Nat → Nat} {l : Nat} : L2F f g l 0 = L1F f l := funext fun c => by
  unfold L2F
  rw [if_neg (by omega)]; rfl
theorem L2_step {f g : Nat → Nat} {l k j : Nat} (hj : j < 8) (e : g k = j + 1) : va_up (L2F f g l k) (8 * k + j) (L2F f g l k (8 * k + j) + 2) = L2F f g l (k + 1) := by
  have z : L2F f g l k (8 * k + j) = L1F f l (8 * k + j) := by
    unfold L2F
    rw [if_neg (by omega)]; rfl
  rw [z]
  funext c
  by_cases q : c = 8 * k + j
  · rw [q, up_sN]
    have e1 : (8 * k + j) % 8 = j := by omega
    have e2 : (8 * k + j) / 8 = k := by omega
    unfold L2F
    rw [e1, e2, if_pos ⟨by omega, e⟩]
  · rw [up_nN q]
    unfold L2F
    by_cases q2 : c / 8 = k
    · have q3 : c % 8 ≠ j := by omega
      rw [q2, e, if_neg (by omega), if_neg (by omega)]
    · by_cases q4 : c / 8 < k ∧ g (c / 8) = c % 8 + 1
      · rw [if_pos q4, if_pos ⟨by omega, q4.2⟩]
      · rw [if_neg q4, if_neg (fun z => q4 ⟨by omega, z.2⟩)]
theorem L2_skip {f g : Nat → Nat} {l k : Nat} (e : g k = 0) : L2F f g l k = L2F f g l (k + 1) := by
  funext c
  unfold L2F
  by_cases q2 : c / 8 = k
  · rw [q2, e, if_neg (by omega), if_neg (by omega)]
  · by_cases q4 : c / 8 < k ∧ g (c / 8) = c % 8 + 1
    · rw [if_pos q4, if_pos ⟨by omega, q4.2⟩]
    · rw [if_neg q4, if_neg (fun z => q4 ⟨by omega, z.2⟩)]
theorem L2_le (f g : Nat → Nat) (l k c : Nat) : L2F f g l k c ≤ 3 := by
  unfold L2F L1F
  split <;> split <;> omega
section MG
variable {d n : Nat} {h h' : Hp} {made th : Nat} {t : Nat → Nat} {l : Nat → Nat → Nat} {w : Nat → Nat → Nat → Nat} {S : Nat → Nat → Nat} {W : Nat → Nat} {F : Nat → Nat}
theorem MA_42 {L : Nat → Nat} (g : MA h made t l w S W) : MA (va_up h 42 (aI 64 L)) made t l w S W := by
  obtain ⟨⟨a1, b1, c1⟩, ⟨a2, b2, c2⟩, ⟨a3, b3, c3⟩, ⟨a4, b4, c4⟩, ⟨a5, b5, c5⟩, ⟨a6, b6, c6⟩, ⟨a7, b7, c7⟩, ⟨a8, b8⟩, ⟨a9, b9⟩, ⟨a10, b10⟩, ⟨a11, b11⟩, ⟨a12, b12⟩⟩ := g
  exact ⟨⟨a1, (up_n (by omega)).trans b1, c1⟩, ⟨a2, (up_n (by omega)).trans b2, c2⟩, ⟨a3, (up_n (by omega)).trans b3, c3⟩, ⟨a4, (up_n (by omega)).trans b4, c4⟩, ⟨a5, (up_n (by omega)).trans b5, c5⟩, ⟨a6, (up_n (by omega)).trans b6, c6⟩, ⟨a7, (up_n (by omega)).trans b7, c7⟩, ⟨a8, (up_n (by omega)).trans b8⟩, ⟨a9, (up_n (by omega)).trans b9⟩, ⟨a10, (up_n (by omega)).trans b10⟩, ⟨L, up_s⟩, ⟨a12, (up_n (by omega)).trans b12⟩⟩
theorem MA_43 {J : Nat → Nat} (g : MA h made t l w S W) : MA (va_up h 43 (aZ 64 J)) made t l w S W := by
  obtain ⟨⟨a1, b1, c1⟩, ⟨a2, b2, c2⟩, ⟨a3, b3, c3⟩, ⟨a4, b4, c4⟩, ⟨a5, b5, c5⟩, ⟨a6, b6, c6⟩, ⟨a7, b7, c7⟩, ⟨a8, b8⟩, ⟨a9, b9⟩, ⟨a10, b10⟩, ⟨a11, b11⟩, ⟨a12, b12⟩⟩ := g
  exact ⟨⟨a1, (up_n (by omega)).trans b1, c1⟩, ⟨a2, (up_n (by omega)).trans b2, c2⟩, ⟨a3, (up_n (by omega)).trans b3, c3⟩, ⟨a4, (up_n (by omega)).trans b4, c4⟩, ⟨a5, (up_n (by omega)).trans b5, c5⟩, ⟨a6, (up_n (by omega)).trans b6, c6⟩, ⟨a7, (up_n (by omega)).trans b7, c7⟩, ⟨a8, (up_n (by omega)).trans b8⟩, ⟨a9, (up_n (by omega)).trans b9⟩, ⟨a10, (up_n (by omega)).trans b10⟩, ⟨a11, (up_n (by omega)).trans b11⟩, ⟨J, up_s⟩⟩
theorem lm_fA (g31 : h 31 = MO made F th) {L0 : Nat → Nat} {i : Nat} {o9 : Out} (K : Ev (d + 2) MX10_finds 21 [(0, .ref 31), (1, .int (nI i)), (2, .int (nI 64))] [] n (va_up h 42 (aI 64 (fun _ => 0))) o9) :
    ∀ k c, c + k = 64 → Ev (d + 2) MX10_finds 2 [(0, .ref 31), (1, .int (nI i)), (2, .int (nI c))] [] n (va_up h 42 (aI 64 (fun x => if x < c then 0 else L0 x))) o9 := by
  intro k
  induction k with
  | zero =>
    intro c hc
    have e : c = 64 := by omega
    subst e
    refine ev_ext (f2 := fun _ => nI 0) (by omega) up_s (fun j hj => by simp only [hj, if_true]) ?_
    refine ev_heap up_u ?_
    refine ev_iload_n dX10_finds_2 rfl ?_
    refine ev_bipush dX10_finds_3 bp64 ?_
    refine ev_icmp_geT (tgt := 21) dX10_finds_5 (by decide) (by first | assumption | exact nI_le (by omega) (by omega) | decide) ?_
    refine ev_sub ?_ (K)
    repeat (first | exact trivial | refine ⟨rfl, ?_⟩)
  | succ k ih =>
    intro c hc
    have ih := ih (c + 1) (by omega)
    refine ev_iload_n dX10_finds_2 rfl ?_
    refine ev_bipush dX10_finds_3 bp64 ?_
    refine ev_icmp_geF dX10_finds_5 21 (by decide) (by first | assumption | exact nI_ge (by omega) (by omega) | decide) ?_
    first | refine ev_aload_n dX10_finds_8 rfl ?_ | refine ev_aload_nN dX10_finds_8 rfl ?_
    refine ev_getfield dX10_finds_9 fl_RX10_42 (by repeat (first | assumption | exact up_s | refine (up_n (by omega)).trans ?_)) rfl ?_
    refine ev_iload_n dX10_finds_12 rfl ?_
    refine ev_iconst dX10_finds_13 ci0 ?_
    refine ev_iast dX10_finds_14 (by omega) (by repeat (first | assumption | exact up_s | refine (up_n (by omega)).trans ?_)) _ _ rfl rfl (by omega) (by omega) ?_
    refine ev_iincN (b := 1) dX10_finds_15 rfl (Nat.le_of_ble_eq_true rfl) ?_
    refine ev_goto (tgt := 2) dX10_finds_18 (by decide) ?_
    refine ev_heap (up_u.trans (congrArg (fun f => va_up h 42 (aI 64 f)) (fill_eq L0 c 0))) ?_
    refine ev_sub ?_ (ih)
    repeat (first | exact trivial | refine ⟨rfl, ?_⟩)
theorem lm_fB (q : WF made t l w S W) (g31 : h 31 = MO made F th) (ga : MA h made t l w S W) {i : Nat} (hi : i < made) {o9 : Out} (K : Ev (d + 2) MX10_finds 67 [(0, .ref 31), (1, .int (nI i)), (2, .int (nI (l 1 i)))] [] n (va_up h 42 (aI 64 (L1F (lkF S W l w i 0) (l 1 i)))) o9) :
    ∀ k j, j + k = l 1 i → Ev (d + 2) MX10_finds 23 [(0, .ref 31), (1, .int (nI i)), (2, .int (nI j))] [] n (va_up h 42 (aI 64 (L1F (lkF S W l w i 0) j))) o9 := by
  have hm := q.1
  obtain ⟨lo, b3, c3⟩ := ga.2.2.1
  have cl := c3 1 i (by omega) hi
  have h0 := q.2.2.1 0 i (by omega) (by omega)
  have h1 := q.2.2.1 1 i (by omega) (by omega)
  intro k
  induction k with
  | zero =>
    intro j hj
    have e : j = l 1 i := by omega
    subst e
    refine ev_iload_n dX10_finds_23 rfl ?_
    first | refine ev_aload_n dX10_finds_24 rfl ?_ | refine ev_aload_nN dX10_finds_24 rfl ?_
    refine ev_iload_n dX10_finds_25 rfl ?_
    refine ev_iconst dX10_finds_26 ci1 ?_
    refine ev_V2 dX10_finds_27 st_RX10_74 na_X10_longOf (Nat.le_of_ble_eq_true rfl) (Nat.le_of_ble_eq_true rfl) (by repeat (first | assumption | exact up_s | refine (up_n (by omega)).trans ?_)) rfl (mm_longOf (F := F) (th := th) (made := made) ((up_n (by omega)).trans g31) ((up_n (by omega)).trans b3) (show i < 20 by omega) (show 1 < 2 by omega)) ?_
    refine ev_icmp_geT (tgt := 67) dX10_finds_30 (by decide) (by first | assumption | exact nI_le (by omega) (by omega) | decide) ?_
    refine ev_sub ?_ (K)
    repeat (first | exact trivial | refine ⟨rfl, ?_⟩)
  | succ k ih =>
    intro j hj
    have ih := ih (j + 1) (by omega)
    have lk := mm_linkOf (d := d) (n := n) (h := va_up h 42 (aI 64 (L1F (lkF S W l w i 0) j))) (F := F) (th := th) q ((up_n (by omega)).trans g31) (MA_42 ga) hi (show 0 < 2 by omega) (show j < l (1 - 0) i by show j < l 1 i; omega)
    have hle := lkF_le (S := S) (W := W) (l := l) (w := w) (i9 := i) (D := 0) (j := j)
    cases hf : lkF S W l w i 0 j with
    | zero =>
      rw [hf, bo_0] at lk
      rw [← L1_skip hf] at ih
      refine ev_iload_n dX10_finds_23 rfl ?_
      first | refine ev_aload_n dX10_finds_24 rfl ?_ | refine ev_aload_nN dX10_finds_24 rfl ?_
      refine ev_iload_n dX10_finds_25 rfl ?_
      refine ev_iconst dX10_finds_26 ci1 ?_
      refine ev_V2 dX10_finds_27 st_RX10_74 na_X10_longOf (Nat.le_of_ble_eq_true rfl) (Nat.le_of_ble_eq_true rfl) (by repeat (first | assumption | exact up_s | refine (up_n (by omega)).trans ?_)) rfl (mm_longOf (F := F) (th := th) (made := made) ((up_n (by omega)).trans g31) ((up_n (by omega)).trans b3) (show i < 20 by omega) (show 1 < 2 by omega)) ?_
      refine ev_icmp_geF dX10_finds_30 67 (by decide) (by first | assumption | exact nI_ge (by omega) (by omega) | decide) ?_
      first | refine ev_aload_n dX10_finds_33 rfl ?_ | refine ev_aload_nN dX10_finds_33 rfl ?_
      refine ev_iconst dX10_finds_34 ci0 ?_
      refine ev_iload_n dX10_finds_35 rfl ?_
      refine ev_iload_n dX10_finds_36 rfl ?_
      refine ev_V3 dX10_finds_37 st_RX10_110 na_X10_linkOf (Nat.le_of_ble_eq_true rfl) (Nat.le_of_ble_eq_true rfl) (by repeat (first | assumption | exact up_s | refine (up_n (by omega)).trans ?_)) rfl (lk) ?_
      refine ev_istore_n dX10_finds_40 (Nat.le_of_ble_eq_true rfl) ?_
      refine ev_iload_n dX10_finds_41 rfl ?_
      refine ev_iconst dX10_finds_42 cm1 ?_
      refine ev_icmp_eqT (tgt := 61) dX10_finds_43 (by decide) rfl ?_
      refine ev_iincN (b := 1) dX10_finds_61 rfl (Nat.le_of_ble_eq_true rfl) ?_
      refine ev_goto (tgt := 23) dX10_finds_64 (by decide) ?_
      refine ev_sub ?_ (ih)
      repeat (first | exact trivial | refine ⟨rfl, ?_⟩)
    | succ p =>
      rw [hf, bo_s] at lk
      rw [hf] at hle
      rw [← L1_step (by omega) hf] at ih
      refine ev_iload_n dX10_finds_23 rfl ?_
      first | refine ev_aload_n dX10_finds_24 rfl ?_ | refine ev_aload_nN dX10_finds_24 rfl ?_
      refine ev_iload_n dX10_finds_25 rfl ?_
      refine ev_iconst dX10_finds_26 ci1 ?_
      refine ev_V2 dX10_finds_27 st_RX10_74 na_X10_longOf (Nat.le_of_ble_eq_true rfl) (Nat.le_of_ble_eq_true rfl) (by repeat (first | assumption | exact up_s | refine (up_n (by omega)).trans ?_)) rfl (mm_longOf (F := F) (th := th) (made := made) ((up_n (by omega)).trans g31) ((up_n (by omega)).trans b3) (show i < 20 by omega) (show 1 < 2 by omega)) ?_
      refine ev_icmp_geF dX10_finds_30 67 (by decide) (by first | assumption | exact nI_ge (by omega) (by omega) | decide) ?_
      first | refine ev_aload_n dX10_finds_33 rfl ?_ | refine ev_aload_nN dX10_finds_33 rfl ?_
      refine ev_iconst dX10_finds_34 ci0 ?_
      refine ev_iload_n dX10_finds_35 rfl ?_
      refine ev_iload_n dX10_finds_36 rfl ?_
      refine ev_V3 dX10_finds_37 st_RX10_110 na_X10_linkOf (Nat.le_of_ble_eq_true rfl) (Nat.le_of_ble_eq_true rfl) (by repeat (first | assumption | exact up_s | refine (up_n (by omega)).trans ?_)) rfl (lk) ?_
      refine ev_istore_n dX10_finds_40 (Nat.le_of_ble_eq_true rfl) ?_
      refine ev_iload_n dX10_finds_41 rfl ?_
      refine ev_iconst dX10_finds_42 cm1 ?_
      refine ev_icmp_eqF dX10_finds_43 61 (by decide) (m1_ne (by omega)) ?_
      first | refine ev_aload_n dX10_finds_46 rfl ?_ | refine ev_aload_nN dX10_finds_46 rfl ?_
      refine ev_getfield dX10_finds_47 fl_RX10_42 (by repeat (first | assumption | exact up_s | refine (up_n (by omega)).trans ?_)) rfl ?_
      refine ev_bipush dX10_finds_50 bp8 ?_
      refine ev_iload_n dX10_finds_52 rfl ?_
      first | refine ev_imulN dX10_finds_53 ?_ | refine ev_imul dX10_finds_53 ?_
      refine ev_iload_n dX10_finds_54 rfl ?_
      first | refine ev_iaddN dX10_finds_55 ?_ | refine ev_iadd dX10_finds_55 ?_
      refine ev_dup2_11 dX10_finds_56 rfl rfl ?_
      refine ev_iald dX10_finds_57 (by repeat (first | assumption | exact up_s | refine (up_n (by omega)).trans ?_)) _ rfl (by omega) (by omega) ?_
      refine ev_iconst dX10_finds_58 ci1 ?_
      first | refine ev_iaddN dX10_finds_59 ?_ | refine ev_iadd dX10_finds_59 ?_
      refine ev_iast dX10_finds_60 (by omega) (by repeat (first | assumption | exact up_s | refine (up_n (by omega)).trans ?_)) _ _ rfl rfl (by omega) (by omega) ?_
      refine ev_iincN (b := 1) dX10_finds_61 rfl (Nat.le_of_ble_eq_true rfl) ?_
      refine ev_goto (tgt := 23) dX10_finds_64 (by decide) ?_
      refine ev_heap (up_u) ?_
      refine ev_sub ?_ (ih)
      repeat (first | exact trivial | refine ⟨rfl, ?_⟩)
theorem lm_fC (q : WF made t l w S W) (g31 : h 31 = MO made F th) (ga : MA h made t l w S W) {i : Nat} (hi : i < made) {o9 : Out} (K : Ev (d + 2) MX10_finds 113 [(0, .ref 31), (1, .int (nI i)), (2, .int (nI (l 0 i)))] [] n (va_up h 42 (aI 64 (L2F (lkF S W l w i 0) (lkF S W l w i 1) (l 1 i) (l 0 i)))) o9) :
    ∀ k j, j + k = l 0 i → Ev (d + 2) MX10_finds 69 [(0, .ref 31), (1, .int (nI i)), (2, .int (nI j))] [] n (va_up h 42 (aI 64 (L2F (lkF S W l w i 0) (lkF S W l w i 1) (l 1 i) j))) o9 := by
  have hm := q.1
  obtain ⟨lo, b3, c3⟩ := ga.2.2.1
  have cl := c3 0 i (by omega) hi
  have h0 := q.2.2.1 0 i (by omega) (by omega)
  have h1 := q.2.2.1 1 i (by omega) (by omega)
  intro k
  induction k with
  | zero =>
    intro j hj
    have e : j = l 0 i := by omega
    subst e
    refine ev_iload_n dX10_finds_69 rfl ?_
    first | refine ev_aload_n dX10_finds_70 rfl ?_ | refine ev_aload_nN dX10_finds_70 rfl ?_
    refine ev_iload_n dX10_finds_71 rfl ?_
    refine ev_iconst dX10_finds_72 ci0 ?_
    refine ev_V2 dX10_finds_73 st_RX10_74 na_X10_longOf (Nat.le_of_ble_eq_true rfl) (Nat.le_of_ble_eq_true rfl) (by repeat (first | assumption | exact up_s | refine (up_n (by omega)).trans ?_)) rfl (mm_longOf (F := F) (th := th) (made := made) ((up_n (by omega)).trans g31) ((up_n (by omega)).trans b3) (show i < 20 by omega) (show 0 < 2 by omega)) ?_
    refine ev_icmp_geT (tgt := 113) dX10_finds_76 (by decide) (by first | assumption | exact nI_le (by omega) (by omega) | decide) ?_
    refine ev_sub ?_ (K)
    repeat (first | exact trivial | refine ⟨rfl, ?_⟩)
  | succ k ih =>
    intro j hj
    have ih := ih (j + 1) (by omega)
    have lk := mm_linkOf (d := d) (n := n) (h := va_up h 42 (aI 64 (L2F (lkF S W l w i 0) (lkF S W l w i 1) (l 1 i) j))) (F := F) (th := th) q ((up_n (by omega)).trans g31) (MA_42 ga) hi (show 1 < 2 by omega) (show j < l (1 - 1) i by show j < l 0 i; omega)
    have hle := lkF_le (S := S) (W := W) (l := l) (w := w) (i9 := i) (D := 1) (j := j)
    cases hf : lkF S W l w i 1 j with
    | zero =>
      rw [hf, bo_0] at lk
      rw [← L2_skip hf] at ih
      refine ev_iload_n dX10_finds_69 rfl ?_
      first | refine ev_aload_n dX10_finds_70 rfl ?_ | refine ev_aload_nN dX10_finds_70 rfl ?_
      refine ev_iload_n dX10_finds_71 rfl ?_
      refine ev_iconst dX10_finds_72 ci0 ?_
      refine ev_V2 dX10_finds_73 st_RX10_74 na_X10_longOf (Nat.le_of_ble_eq_true rfl) (Nat.le_of_ble_eq_true rfl) (by repeat (first | assumption | exact up_s | refine (up_n (by omega)).trans ?_)) rfl (mm_longOf (F := F) (th := th) (made := made) ((up_n (by omega)).trans g31) ((up_n (by omega)).trans b3) (show i < 20 by omega) (show 0 < 2 by omega)) ?_
      refine ev_icmp_geF dX10_finds_76 113 (by decide) (by first | assumption | exact nI_ge (by omega) (by omega) | decide) ?_
      first | refine ev_aload_n dX10_finds_79 rfl ?_ | refine ev_aload_nN dX10_finds_79 rfl ?_
      refine ev_iconst dX10_finds_80 ci1 ?_
      refine ev_iload_n dX10_finds_81 rfl ?_
      refine ev_iload_n dX10_finds_82 rfl ?_
      refine ev_V3 dX10_finds_83 st_RX10_110 na_X10_linkOf (Nat.le_of_ble_eq_true rfl) (Nat.le_of_ble_eq_true rfl) (by repeat (first | assumption | exact up_s | refine (up_n (by omega)).trans ?_)) rfl (lk) ?_
      refine ev_istore_n dX10_finds_86 (Nat.le_of_ble_eq_true rfl) ?_
      refine ev_iload_n dX10_finds_87 rfl ?_
      refine ev_iconst dX10_finds_88 cm1 ?_
      refine ev_icmp_eqT (tgt := 107) dX10_finds_89 (by decide) rfl ?_
      refine ev_iincN (b := 1) dX10_finds_107 rfl (Nat.le_of_ble_eq_true rfl) ?_
      refine ev_goto (tgt := 69) dX10_finds_110 (by decide) ?_
      refine ev_sub ?_ (ih)
      repeat (first | exact trivial | refine ⟨rfl, ?_⟩)
    | succ p =>
      rw [hf, bo_s] at lk
      rw [hf] at hle
      rw [← L2_step (show p < 8 by omega) hf] at ih
      refine ev_iload_n dX10_finds_69 rfl ?_
      first | refine ev_aload_n dX10_finds_70 rfl ?_ | refine ev_aload_nN dX10_finds_70 rfl ?_
      refine ev_iload_n dX10_finds_71 rfl ?_
      refine ev_iconst dX10_finds_72 ci0 ?_
      refine ev_V2 dX10_finds_73 st_RX10_74 na_X10_longOf (Nat.le_of_ble_eq_true rfl) (Nat.le_of_ble_eq_true rfl) (by repeat (first | assumption | exact up_s | refine (up_n (by omega)).trans ?_)) rfl (mm_longOf (F := F) (th := th) (made := made) ((up_n (by omega)).trans g31) ((up_n (by omega)).trans b3) (show i < 20 by omega) (show 0 < 2 by omega)) ?_
      refine ev_icmp_geF dX10_finds_76 113 (by decide) (by first | assumption | exact nI_ge (by omega) (by omega) | decide) ?_
      first | refine ev_aload_n dX10_finds_79 rfl ?_ | refine ev_aload_nN dX10_finds_79 rfl ?_
      refine ev_iconst dX10_finds_80 ci1 ?_
      refine ev_iload_n dX10_finds_81 rfl ?_
      refine ev_iload_n dX10_finds_82 rfl ?_
      refine ev_V3 dX10_finds_83 st_RX10_110 na_X10_linkOf (Nat.le_of_ble_eq_true rfl) (Nat.le_of_ble_eq_true rfl) (by repeat (first | assumption | exact up_s | refine (up_n (by omega)).trans ?_)) rfl (lk) ?_
      refine ev_istore_n dX10_finds_86 (Nat.le_of_ble_eq_true rfl) ?_
      refine ev_iload_n dX10_finds_87 rfl ?_
      refine ev_iconst dX10_finds_88 cm1 ?_
      refine ev_icmp_eqF dX10_finds_89 107 (by decide) (m1_ne (by omega)) ?_
      first | refine ev_aload_n dX10_finds_92 rfl ?_ | refine ev_aload_nN dX10_finds_92 rfl ?_
      refine ev_getfield dX10_finds_93 fl_RX10_42 (by repeat (first | assumption | exact up_s | refine (up_n (by omega)).trans ?_)) rfl ?_
      refine ev_bipush dX10_finds_96 bp8 ?_
      refine ev_iload_n dX10_finds_98 rfl ?_
      first | refine ev_imulN dX10_finds_99 ?_ | refine ev_imul dX10_finds_99 ?_
      refine ev_iload_n dX10_finds_100 rfl ?_
      first | refine ev_iaddN dX10_finds_101 ?_ | refine ev_iadd dX10_finds_101 ?_
      refine ev_dup2_11 dX10_finds_102 rfl rfl ?_
      refine ev_iald dX10_finds_103 (by repeat (first | assumption | exact up_s | refine (up_n (by omega)).trans ?_)) _ rfl (by omega) (by omega) ?_
      refine ev_iconst dX10_finds_104 ci2 ?_
      first | refine ev_iaddN dX10_finds_105 ?_ | refine ev_iadd dX10_finds_105 ?_
      refine ev_iast dX10_finds_106 (by omega) (by repeat (first | assumption | exact up_s | refine (up_n (by omega)).trans ?_)) _ _ rfl rfl (by omega) (by omega) ?_
      refine ev_iincN (b := 1) dX10_finds_107 rfl (Nat.le_of_ble_eq_true rfl) ?_
      refine ev_goto (tgt := 69) dX10_finds_110 (by decide) ?_
      refine ev_heap (up_u) ?_
      refine ev_sub ?_ (ih)
      repeat (first | exact trivial | refine ⟨rfl, ?_⟩)
theorem lm_fD (g31 : h 31 = MO made F th) {L B R : Nat → Nat} (g42 : h 42 = aI 64 L) (hL : ∀ c, L c ≤ 3) (hB : ∀ c, c < 64 → (L c = 3 ↔ jm B c = 1)) {i : Nat} {o9 : Out} (K : Ev (d + 2) MX10_finds 148 [(0, .ref 31), (1, .int (nI i)), (2, .int (nI 64))] [] n (va_up h 43 (aZ 64 (cut B R))) o9) :
    ∀ k c, c + k = 64 → Ev (d + 2) MX10_finds 115 [(0, .ref 31), (1, .int (nI i)), (2, .int (nI c))] [] n (va_up h 43 (aZ 64 (fun x => if x < c then jm B x else R x))) o9 := by
  intro k
  induction k with
  | zero =>
    intro c hc
    have e : c = 64 := by omega
    subst e
    refine ev_iload_n dX10_finds_115 rfl ?_
    refine ev_bipush dX10_finds_116 bp64 ?_
    refine ev_icmp_geT (tgt := 148) dX10_finds_118 (by decide) (by first | assumption | exact nI_le (by omega) (by omega) | decide) ?_
    refine ev_sub ?_ (K)
    repeat (first | exact trivial | refine ⟨rfl, ?_⟩)
  | succ k ih =>
    intro c hc
    have ih := ih (c + 1) (by omega)
    have hl := hL c
    have hb := hB c (by omega)
    have j01 := jm_01 B c
    rw [← cp_eq (jm B) R c] at ih
    by_cases z : L c = 3
    · rw [hb.mp z] at ih
      refine ev_iload_n dX10_finds_115 rfl ?_
      refine ev_bipush dX10_finds_116 bp64 ?_
      refine ev_icmp_geF dX10_finds_118 148 (by decide) (by first | assumption | exact nI_ge (by omega) (by omega) | decide) ?_
      first | refine ev_aload_n dX10_finds_121 rfl ?_ | refine ev_aload_nN dX10_finds_121 rfl ?_
      refine ev_getfield dX10_finds_122 fl_RX10_45 (by repeat (first | assumption | exact up_s | refine (up_n (by omega)).trans ?_)) rfl ?_
      refine ev_iload_n dX10_finds_125 rfl ?_
      first | refine ev_aload_n dX10_finds_126 rfl ?_ | refine ev_aload_nN dX10_finds_126 rfl ?_
      refine ev_getfield dX10_finds_127 fl_RX10_42 (by repeat (first | assumption | exact up_s | refine (up_n (by omega)).trans ?_)) rfl ?_
      refine ev_iload_n dX10_finds_130 rfl ?_
      refine ev_iald dX10_finds_131 (by repeat (first | assumption | exact up_s | refine (up_n (by omega)).trans ?_)) _ rfl (by omega) (by omega) ?_
      refine ev_iconst dX10_finds_132 ci3 ?_
      refine ev_icmp_neF dX10_finds_133 140 (by decide) (by first | assumption | exact n_eq (by omega) | decide) ?_
      refine ev_iconst dX10_finds_136 ci1 ?_
      refine ev_goto (tgt := 141) dX10_finds_137 (by decide) ?_
      refine ev_bast dX10_finds_141 (by omega) (by repeat (first | assumption | exact up_s | refine (up_n (by omega)).trans ?_)) _ _ rfl rfl (by omega) (by omega) (by omega) ?_
      refine ev_iincN (b := 1) dX10_finds_142 rfl (Nat.le_of_ble_eq_true rfl) ?_
      refine ev_goto (tgt := 115) dX10_finds_145 (by decide) ?_
      refine ev_heap (up_u) ?_
      refine ev_sub ?_ (ih)
      repeat (first | exact trivial | refine ⟨rfl, ?_⟩)
    · rw [show jm B c = 0 from j01.resolve_right (fun e => z (hb.mpr e))] at ih
      refine ev_iload_n dX10_finds_115 rfl ?_
      refine ev_bipush dX10_finds_116 bp64 ?_
      refine ev_icmp_geF dX10_finds_118 148 (by decide) (by first | assumption | exact nI_ge (by omega) (by omega) | decide) ?_
      first | refine ev_aload_n dX10_finds_121 rfl ?_ | refine ev_aload_nN dX10_finds_121 rfl ?_
      refine ev_getfield dX10_finds_122 fl_RX10_45 (by repeat (first | assumption | exact up_s | refine (up_n (by omega)).trans ?_)) rfl ?_
      refine ev_iload_n dX10_finds_125 rfl ?_
      first | refine ev_aload_n dX10_finds_126 rfl ?_ | refine ev_aload_nN dX10_finds_126 rfl ?_
      refine ev_getfield dX10_finds_127 fl_RX10_42 (by repeat (first | assumption | exact up_s | refine (up_n (by omega)).trans ?_)) rfl ?_
      refine ev_iload_n dX10_finds_130 rfl ?_
      refine ev_iald dX10_finds_131 (by repeat (first | assumption | exact up_s | refine (up_n (by omega)).trans ?_)) _ rfl (by omega) (by omega) ?_
      refine ev_iconst dX10_finds_132 ci3 ?_
      refine ev_icmp_neT (tgt := 140) dX10_finds_133 (by decide) (by first | assumption | exact n_ne (by omega) (by omega) (by omega) | decide) ?_
      refine ev_iconst dX10_finds_140 ci0 ?_
      refine ev_bast dX10_finds_141 (by omega) (by repeat (first | assumption | exact up_s | refine (up_n (by omega)).trans ?_)) _ _ rfl rfl (by omega) (by omega) (by omega) ?_
      refine ev_iincN (b := 1) dX10_finds_142 rfl (Nat.le_of_ble_eq_true rfl) ?_
      refine ev_goto (tgt := 115) dX10_finds_145 (by decide) ?_
      refine ev_heap (up_u) ?_
      refine ev_sub ?_ (ih)
      repeat (first | exact trivial | refine ⟨rfl, ?_⟩)
theorem lm_fS (g31 : h 31 = MO made F th) {L E R : Nat → Nat} {x : (Nat → Nat) × Nat} (g42 : h 42 = aI 64 L) (hL : ∀ c, L c ≤ 3) (hE : ∀ c, c < 64 → (0 < L c ↔ (E (c / 8)).testBit (c % 8) = true)) {l0 : Nat} (hE0 : ∀ i, l0 ≤ i → E i = 0) (hJ : ∀ i, x.1 i < 256) (hz : ∀ i, l0 ≤ i → x.1 i = 0) (h2 : x.2 = 0 ∨ x.2 = 1) {i : Nat} {o9 : Out} (K : Ev (d + 2) MX10_finds 213 [(0, .ref 31), (1, .int (nI i)), (2, .int (nI (swp E 64 x).2)), (3, .int (nI 64))] [] n (va_up h 43 (aZ 64 (cut (swp E 64 x).1 R))) o9) :
    ∀ k c, c + k = 64 → Ev (d + 2) MX10_finds 158 [(0, .ref 31), (1, .int (nI i)), (2, .int (nI (swp E c x).2)), (3, .int (nI c))] [] n (va_up h 43 (aZ 64 (cut (swp E c x).1 R))) o9 := by
  intro k
  induction k with
  | zero =>
    intro c hc
    have e : c = 64 := by omega
    subst e
    refine ev_iload_n dX10_finds_158 rfl ?_
    refine ev_bipush dX10_finds_159 bp64 ?_
    refine ev_icmp_geT (tgt := 213) dX10_finds_161 (by decide) (by first | assumption | exact nI_le (by omega) (by omega) | decide) ?_
    refine ev_sub ?_ (K)
    repeat (first | exact trivial | refine ⟨rfl, ?_⟩)
  | succ k ih =>
    intro c hc
    have ih := ih (c + 1) (by omega)
    obtain ⟨i1, i2, i3⟩ := swp_inv (E := E) (x := x) hE0 hJ hz h2 c
    clear K
    have es : swp E (c + 1) x = stp E (swp E c x) c := rfl
    rw [es] at ih
    generalize swp E c x = y at ih i1 i2 i3 ⊢
    have hl := hL c
    have he := hE c (by omega)
    have ti := toJ_iff (E := E) (J := y.1) i1 (show c < 64 by omega)
    have j01 := jm_01 y.1 c
    have ec := cut_lt (J := y.1) (R := R) (show c < 64 by omega)
    have g43 : va_up h 43 (aZ 64 (cut y.1 R)) 43 = aZ 64 (cut y.1 R) := up_s
    have G31 : va_up h 43 (aZ 64 (cut y.1 R)) 31 = MO made F th := (up_n (by omega)).trans g31
    have b01 := besF_01 y.1 c 64
    have bi := besF_iff y.1 c 64
    have ib := mm_isBeside (d := d) (n := n) G31 g43 (show c < 64 by omega)
    generalize besF y.1 c 64 = bs at b01 bi ib
    have ifr := mm_isFree (d := d + 1) (n := n) G31 g43 (show c < 64 by omega)
    have ai := alF_iff (fun x => jm y.1 (8 * (c / 8) + x)) 8
    have bi2 := alF_iff (fun x => jm y.1 (8 * x + c % 8)) 8
    generalize alF (fun x => jm y.1 (8 * (c / 8) + x)) 8 = ra at ifr ai
    generalize alF (fun x => jm y.1 (8 * x + c % 8)) 8 = rb at ifr bi2
    have key : (0 < L c ∧ jm y.1 c = 0 ∧ bs = 1 ∧ bI (ra = 1 ∨ rb = 1) = 1 ∧ stp E y c = (va_up y.1 (c / 8) (y.1 (c / 8) ||| 2 ^ (c % 8)), 1)) ∨ (L c = 0 ∧ stp E y c = y) ∨ (0 < L c ∧ jm y.1 c = 1 ∧ stp E y c = y) ∨ (0 < L c ∧ jm y.1 c = 0 ∧ bs = 0 ∧ stp E y c = y) ∨ (0 < L c ∧ jm y.1 c = 0 ∧ bs = 1 ∧ bI (ra = 1 ∨ rb = 1) = 0 ∧ stp E y c = y) := by
      by_cases p1 : 0 < L c
      · by_cases p2 : jm y.1 c = 0
        · by_cases p3 : bs = 1
          · by_cases p4 : ra = 1 ∨ rb = 1
            · exact Or.inl ⟨p1, p2, p3, bI_t p4, if_pos (ti.mpr ⟨he.mp p1, p2, bi.mp p3, p4.imp ai.mp bi2.mp⟩)⟩
            · exact Or.inr (Or.inr (Or.inr (Or.inr ⟨p1, p2, p3, bI_f p4, if_neg (fun z => p4 ((ti.mp z).2.2.2.imp ai.mpr bi2.mpr))⟩)))
          · exact Or.inr (Or.inr (Or.inr (Or.inl ⟨p1, p2, b01.resolve_right p3, if_neg (fun z => p3 (bi.mpr (ti.mp z).2.2.1))⟩)))
        · exact Or.inr (Or.inr (Or.inl ⟨p1, j01.resolve_left p2, if_neg (fun z => p2 (ti.mp z).2.1)⟩))
      · exact Or.inr (Or.inl ⟨Nat.eq_zero_of_not_pos p1, if_neg (fun z => p1 (he.mpr (ti.mp z).1))⟩)
    clear ti he ai bi2 bi hE hE0 hJ hz h2 es i1 i2 hL
    generalize bI (ra = 1 ∨ rb = 1) = rf at ifr key
    generalize stp E y c = y2 at ih key
    rcases key with ⟨p1, p2, p3, p4, rfl⟩ | ⟨p1, rfl⟩ | ⟨p1, p2, rfl⟩ | ⟨p1, p2, p3, rfl⟩ | ⟨p1, p2, p3, p4, rfl⟩
    · rw [← cut_put (show c < 64 by omega)] at ih
      refine ev_iload_n dX10_finds_158 rfl ?_
      refine ev_bipush dX10_finds_159 bp64 ?_
      refine ev_icmp_geF dX10_finds_161 213 (by decide) (by first | assumption | exact nI_ge (by omega) (by omega) | decide) ?_
      first | refine ev_aload_n dX10_finds_164 rfl ?_ | refine ev_aload_nN dX10_finds_164 rfl ?_
      refine ev_getfield dX10_finds_165 fl_RX10_42 (by repeat (first | assumption | exact up_s | refine (up_n (by omega)).trans ?_)) rfl ?_
      refine ev_iload_n dX10_finds_168 rfl ?_
      refine ev_iald dX10_finds_169 (by repeat (first | assumption | exact up_s | refine (up_n (by omega)).trans ?_)) _ rfl (by omega) (by omega) ?_
      refine ev_if_leF dX10_finds_170 207 (by decide) (by first | assumption | exact nI_nle (by omega) (by omega) | decide) ?_
      first | refine ev_aload_n dX10_finds_173 rfl ?_ | refine ev_aload_nN dX10_finds_173 rfl ?_
      refine ev_getfield dX10_finds_174 fl_RX10_45 (by repeat (first | assumption | exact up_s | refine (up_n (by omega)).trans ?_)) rfl ?_
      refine ev_iload_n dX10_finds_177 rfl ?_
      refine ev_bald dX10_finds_178 (by repeat (first | assumption | exact up_s | refine (up_n (by omega)).trans ?_)) _ rfl (by omega) (by omega) ?_
      refine ev_if_neF dX10_finds_179 207 (by decide) (by first | assumption | exact z_eq (by omega) | decide) ?_
      first | refine ev_aload_n dX10_finds_182 rfl ?_ | refine ev_aload_nN dX10_finds_182 rfl ?_
      refine ev_iload_n dX10_finds_183 rfl ?_
      refine ev_V1 dX10_finds_184 st_RX10_113 na_X10_isBeside (Nat.le_of_ble_eq_true rfl) (Nat.le_of_ble_eq_true rfl) (by repeat (first | assumption | exact up_s | refine (up_n (by omega)).trans ?_)) rfl (ib) ?_
      refine ev_if_eqF dX10_finds_187 207 (by decide) (by first | assumption | exact nI_ne0 (by omega) (by omega) | decide) ?_
      first | refine ev_aload_n dX10_finds_190 rfl ?_ | refine ev_aload_nN dX10_finds_190 rfl ?_
      refine ev_iload_n dX10_finds_191 rfl ?_
      refine ev_V1 dX10_finds_192 st_RX10_116 na_X10_isFree (Nat.le_of_ble_eq_true rfl) (Nat.le_of_ble_eq_true rfl) (by repeat (first | assumption | exact up_s | refine (up_n (by omega)).trans ?_)) rfl (ifr) ?_
      refine ev_if_eqF dX10_finds_195 207 (by decide) (by first | assumption | exact nI_ne0 (by omega) (by omega) | decide) ?_
      first | refine ev_aload_n dX10_finds_198 rfl ?_ | refine ev_aload_nN dX10_finds_198 rfl ?_
      refine ev_getfield dX10_finds_199 fl_RX10_45 (by repeat (first | assumption | exact up_s | refine (up_n (by omega)).trans ?_)) rfl ?_
      refine ev_iload_n dX10_finds_202 rfl ?_
      refine ev_iconst dX10_finds_203 ci1 ?_
      refine ev_bast dX10_finds_204 (by omega) (by repeat (first | assumption | exact up_s | refine (up_n (by omega)).trans ?_)) _ _ rfl rfl (by omega) (by omega) (by omega) ?_
      refine ev_iconst dX10_finds_205 ci1 ?_
      refine ev_istore_n dX10_finds_206 (Nat.le_of_ble_eq_true rfl) ?_
      refine ev_iincN (b := 1) dX10_finds_207 rfl (Nat.le_of_ble_eq_true rfl) ?_
      refine ev_goto (tgt := 158) dX10_finds_210 (by decide) ?_
      refine ev_heap (up_u) ?_
      refine ev_sub ?_ (ih)
      repeat (first | exact trivial | refine ⟨rfl, ?_⟩)
    · refine ev_iload_n dX10_finds_158 rfl ?_
      refine ev_bipush dX10_finds_159 bp64 ?_
      refine ev_icmp_geF dX10_finds_161 213 (by decide) (by first | assumption | exact nI_ge (by omega) (by omega) | decide) ?_
      first | refine ev_aload_n dX10_finds_164 rfl ?_ | refine ev_aload_nN dX10_finds_164 rfl ?_
      refine ev_getfield dX10_finds_165 fl_RX10_42 (by repeat (first | assumption | exact up_s | refine (up_n (by omega)).trans ?_)) rfl ?_
      refine ev_iload_n dX10_finds_168 rfl ?_
      refine ev_iald dX10_finds_169 (by repeat (first | assumption | exact up_s | refine (up_n (by omega)).trans ?_)) _ rfl (by omega) (by omega) ?_
      refine ev_if_leT (tgt := 207) dX10_finds_170 (by decide) (by first | assumption | exact z_le (by omega) | decide) ?_
      refine ev_iincN (b := 1) dX10_finds_207 rfl (Nat.le_of_ble_eq_true rfl) ?_
      refine ev_goto (tgt := 158) dX10_finds_210 (by decide) ?_
      refine ev_sub ?_ (ih)
      repeat (first | exact trivial | refine ⟨rfl, ?_⟩)
    · refine ev_iload_n dX10_finds_158 rfl ?_
      refine ev_bipush dX10_finds_159 bp64 ?_
      refine ev_icmp_geF dX10_finds_161 213 (by decide) (by first | assumption | exact nI_ge (by omega) (by omega) | decide) ?_
      first | refine ev_aload_n dX10_finds_164 rfl ?_ | refine ev_aload_nN dX10_finds_164 rfl ?_
      refine ev_getfield dX10_finds_165 fl_RX10_42 (by repeat (first | assumption | exact up_s | refine (up_n (by omega)).trans ?_)) rfl ?_
      refine ev_iload_n dX10_finds_168 rfl ?_
      refine ev_iald dX10_finds_169 (by repeat (first | assumption | exact up_s | refine (up_n (by omega)).trans ?_)) _ rfl (by omega) (by omega) ?_
      refine ev_if_leF dX10_finds_170 207 (by decide) (by first | assumption | exact nI_nle (by omega) (by omega) | decide) ?_
      first | refine ev_aload_n dX10_finds_173 rfl ?_ | refine ev_aload_nN dX10_finds_173 rfl ?_
      refine ev_getfield dX10_finds_174 fl_RX10_45 (by repeat (first | assumption | exact up_s | refine (up_n (by omega)).trans ?_)) rfl ?_
      refine ev_iload_n dX10_finds_177 rfl ?_
      refine ev_bald dX10_finds_178 (by repeat (first | assumption | exact up_s | refine (up_n (by omega)).trans ?_)) _ rfl (by omega) (by omega) ?_
      refine ev_if_neT (tgt := 207) dX10_finds_179 (by decide) (by first | assumption | exact nI_ne0 (by omega) (by omega) | decide) ?_
      refine ev_iincN (b := 1) dX10_finds_207 rfl (Nat.le_of_ble_eq_true rfl) ?_
      refine ev_goto (tgt := 158) dX10_finds_210 (by decide) ?_
      refine ev_sub ?_ (ih)
      repeat (first | exact trivial | refine ⟨rfl, ?_⟩)
    · refine ev_iload_n dX10_finds_158 rfl ?_
      refine ev_bipush dX10_finds_159 bp64 ?_
      refine ev_icmp_geF dX10_finds_161 213 (by decide) (by first | assumption | exact nI_ge (by omega) (by omega) | decide) ?_
      first | refine ev_aload_n dX10_finds_164 rfl ?_ | refine ev_aload_nN dX10_finds_164 rfl ?_
      refine ev_getfield dX10_finds_165 fl_RX10_42 (by repeat (first | assumption | exact up_s | refine (up_n (by omega)).trans ?_)) rfl ?_
      refine ev_iload_n dX10_finds_168 rfl ?_
      refine ev_iald dX10_finds_169 (by repeat (first | assumption | exact up_s | refine (up_n (by omega)).trans ?_)) _ rfl (by omega) (by omega) ?_
      refine ev_if_leF dX10_finds_170 207 (by decide) (by first | assumption | exact nI_nle (by omega) (by omega) | decide) ?_
      first | refine ev_aload_n dX10_finds_173 rfl ?_ | refine ev_aload_nN dX10_finds_173 rfl ?_
      refine ev_getfield dX10_finds_174 fl_RX10_45 (by repeat (first | assumption | exact up_s | refine (up_n (by omega)).trans ?_)) rfl ?_
      refine ev_iload_n dX10_finds_177 rfl ?_
      refine ev_bald dX10_finds_178 (by repeat (first | assumption | exact up_s | refine (up_n (by omega)).trans ?_)) _ rfl (by omega) (by omega) ?_
      refine ev_if_neF dX10_finds_179 207 (by decide) (by first | assumption | exact z_eq (by omega) | decide) ?_
      first | refine ev_aload_n dX10_finds_182 rfl ?_ | refine ev_aload_nN dX10_finds_182 rfl ?_
      refine ev_iload_n dX10_finds_183 rfl ?_
      refine ev_V1 dX10_finds_184 st_RX10_113 na_X10_isBeside (Nat.le_of_ble_eq_true rfl) (Nat.le_of_ble_eq_true rfl) (by repeat (first | assumption | exact up_s | refine (up_n (by omega)).trans ?_)) rfl (ib) ?_
      refine ev_if_eqT (tgt := 207) dX10_finds_187 (by decide) (by first | assumption | exact z_eq (by omega) | decide) ?_
      refine ev_iincN (b := 1) dX10_finds_207 rfl (Nat.le_of_ble_eq_true rfl) ?_
      refine ev_goto (tgt := 158) dX10_finds_210 (by decide) ?_
      refine ev_sub ?_ (ih)
      repeat (first | exact trivial | refine ⟨rfl, ?_⟩)
    · refine ev_iload_n dX10_finds_158 rfl ?_
      refine ev_bipush dX10_finds_159 bp64 ?_
      refine ev_icmp_geF dX10_finds_161 213 (by decide) (by first | assumption | exact nI_ge (by omega) (by omega) | decide) ?_
      first | refine ev_aload_n dX10_finds_164 rfl ?_ | refine ev_aload_nN dX10_finds_164 rfl ?_
      refine ev_getfield dX10_finds_165 fl_RX10_42 (by repeat (first | assumption | exact up_s | refine (up_n (by omega)).trans ?_)) rfl ?_
      refine ev_iload_n dX10_finds_168 rfl ?_
      refine ev_iald dX10_finds_169 (by repeat (first | assumption | exact up_s | refine (up_n (by omega)).trans ?_)) _ rfl (by omega) (by omega) ?_
      refine ev_if_leF dX10_finds_170 207 (by decide) (by first | assumption | exact nI_nle (by omega) (by omega) | decide) ?_
      first | refine ev_aload_n dX10_finds_173 rfl ?_ | refine ev_aload_nN dX10_finds_173 rfl ?_
      refine ev_getfield dX10_finds_174 fl_RX10_45 (by repeat (first | assumption | exact up_s | refine (up_n (by omega)).trans ?_)) rfl ?_
      refine ev_iload_n dX10_finds_177 rfl ?_
      refine ev_bald dX10_finds_178 (by repeat (first | assumption | exact up_s | refine (up_n (by omega)).trans ?_)) _ rfl (by omega) (by omega) ?_
      refine ev_if_neF dX10_finds_179 207 (by decide) (by first | assumption | exact z_eq (by omega) | decide) ?_
      first | refine ev_aload_n dX10_finds_182 rfl ?_ | refine ev_aload_nN dX10_finds_182 rfl ?_
      refine ev_iload_n dX10_finds_183 rfl ?_
      refine ev_V1 dX10_finds_184 st_RX10_113 na_X10_isBeside (Nat.le_of_ble_eq_true rfl) (Nat.le_of_ble_eq_true rfl) (by repeat (first | assumption | exact up_s | refine (up_n (by omega)).trans ?_)) rfl (ib) ?_
      refine ev_if_eqF dX10_finds_187 207 (by decide) (by first | assumption | exact nI_ne0 (by omega) (by omega) | decide) ?_
      first | refine ev_aload_n dX10_finds_190 rfl ?_ | refine ev_aload_nN dX10_finds_190 rfl ?_
      refine ev_iload_n dX10_finds_191 rfl ?_
      refine ev_V1 dX10_finds_192 st_RX10_116 na_X10_isFree (Nat.le_of_ble_eq_true rfl) (Nat.le_of_ble_eq_true rfl) (by repeat (first | assumption | exact up_s | refine (up_n (by omega)).trans ?_)) rfl (ifr) ?_
      refine ev_if_eqT (tgt := 207) dX10_finds_195 (by decide) (by first | assumption | exact z_eq (by omega) | decide) ?_
      refine ev_iincN (b := 1) dX10_finds_207 rfl (Nat.le_of_ble_eq_true rfl) ?_
      refine ev_goto (tgt := 158) dX10_finds_210 (by decide) ?_
      refine ev_sub ?_ (ih)
      repeat (first | exact trivial | refine ⟨rfl, ?_⟩)
theorem lm_fW (g31 : h 31 = MO made F th) {L E R : Nat → Nat} (g42 : h 42 = aI 64 L) (hL : ∀ c, L c ≤ 3) (hE : ∀ c, c < 64 → (0 < L c ↔ (E (c / 8)).testBit (c % 8) = true)) {l0 : Nat} (hE0 : ∀ i, l0 ≤ i → E i = 0) {i : Nat} :
    ∀ k J, 64 < cntJ J + k → (∀ i, J i < 256) → (∀ i, l0 ≤ i → J i = 0) → Ev (d + 2) MX10_finds 150 [(0, .ref 31), (1, .int (nI i)), (2, .int (nI 1))] [] n (va_up h 43 (aZ 64 (cut J R))) (.inl none, n, va_up h 43 (aZ 64 (cut (gr E k J) R)), 0, 0) := by
  intro k
  induction k with
  | zero =>
    intro J hk hJ hz
    have := cntJ_le J
    omega
  | succ k ih =>
    intro J hk hJ hz
    obtain ⟨i1, i2, i3⟩ := swp_inv (E := E) (x := (J, 0)) hE0 hJ hz (Or.inl rfl) 64
    obtain ⟨s1, s2⟩ := swp_cnt (E := E) (x := (J, 0)) 64 (Nat.le_refl _)
    refine ev_iload_n dX10_finds_150 rfl ?_
    refine ev_if_eqF dX10_finds_151 216 (by decide) (by first | assumption | exact nI_ne0 (by omega) (by omega) | decide) ?_
    refine ev_iconst dX10_finds_154 ci0 ?_
    refine ev_istore_n dX10_finds_155 (Nat.le_of_ble_eq_true rfl) ?_
    refine ev_iconst dX10_finds_156 ci0 ?_
    refine ev_istore_n dX10_finds_157 (Nat.le_of_ble_eq_true rfl) ?_
    refine ev_sub ?_ (lm_fS (F := F) (th := th) (x := (J, 0)) (i := i) g31 g42 hL hE hE0 hJ hz (Or.inl rfl) ?_ 64 0 (by omega))
    · repeat (first | exact trivial | refine ⟨rfl, ?_⟩)
    · by_cases z : (swp E 64 (J, 0)).2 = 1
      · have ih := ih (swp E 64 (J, 0)).1 (by
          have s3 := (s2 z).resolve_left (show ¬ (0 : Nat) = 1 by decide)
          have s4 : cntJ J + 1 ≤ cntJ (swp E 64 (J, 0)).1 := s3
          omega) i1 i2
        rw [z, show gr E (k + 1) J = gr E k (swp E 64 (J, 0)).1 from if_pos z]
        refine ev_goto (tgt := 150) dX10_finds_213 (by decide) ?_
        refine ev_sub ?_ (ih)
        repeat (first | exact trivial | refine ⟨rfl, ?_⟩)
      · rw [show (swp E 64 (J, 0)).2 = 0 by omega, show gr E (k + 1) J = (swp E 64 (J, 0)).1 from if_neg z]
        refine ev_goto (tgt := 150) dX10_finds_213 (by decide) ?_
        refine ev_iload_n dX10_finds_150 rfl ?_
        refine ev_if_eqT (tgt := 216) dX10_finds_151 (by decide) (by first | assumption | exact z_eq (by omega) | decide) ?_
        exact ev_vreturnE dX10_finds_216 rfl (by rfl)
end MG
