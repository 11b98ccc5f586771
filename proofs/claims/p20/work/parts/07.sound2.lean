/-! SOUNDNESS, second half: each rule holds of the machine -/
theorem am_in {w : Cond} (i : Nat) (h : lw_tbl[i]? = some w) (g : goodWord w = true) : w ∈ am_ws := List.mem_filter.mpr ⟨List.mem_of_getElem? h, g⟩
theorem va_RA_inj {U : State} {c1 c2 : ClassId} {ty : FieldType} (h1 : va_RA U c1 ty) (h2 : va_RA U c2 ty) : c1 = c2 := by
  cases ty with
  | object C =>
    obtain ⟨-, -, -, -, -, e1⟩ := h1
    obtain ⟨-, -, -, -, -, e2⟩ := h2
    exact Option.some.inj (e1.symm.trans e2)
  | _ => exact Option.some.inj (Eq.trans (Eq.symm h1) h2)
section SND
variable {l : Launch} {D : va_G} {cy : Nat → ClassId} {B0 b fw L : Nat} {xs : Nat → Int32}
theorem am_ty {ty : FieldType} {s : State} (hK : va_K D vwCl (am_tys cy) s) {t : Nat} {c : ClassId} (ht : (am_tys cy)[t]? = some (c, ty)) {cA : ClassId} (h : va_K D vwCl (am_tys cy ++ [(cA, ty)]) s) : cA = c := by
  have h1 := (hK.2 t _ ht).2
  have h2 := (h.2 4 (cA, ty) rfl).2
  exact va_RA_inj h2 h1
theorem am_Mv.st {M : MI} {n0 : Nat} {ad0 : Nat → Nat} {ls ls' : List (Nat × Value)} {n : Nat} {h : Hp} {H : Heap} {locs : List Loc} {la la' : Array Slot} {ad : Nat → Nat} {s : State} (mv : am_Mv D cy B0 b fw M n0 ad0 ls n h H locs la ad s) (hl : lv_has la' (mL M) (ls'.map (cvP ad))) : am_Mv D cy B0 b fw M n0 ad0 ls' n h H locs la' ad s :=
  ⟨mv.1, mv.2.1, mv.2.2.1, mv.2.2.2.1, mv.2.2.2.2.1, mv.2.2.2.2.2.1, hl⟩
theorem am_Mv.up {M : MI} {n0 : Nat} {ad0 : Nat → Nat} {ls : List (Nat × Value)} {n a : Nat} {h : Hp} {e : va_E} {H H1 : Heap} {locs locs1 : List Loc} {la : Array Slot} {ad : Nat → Nat} {s : State} (mv : am_Mv D cy B0 b fw M n0 ad0 ls n h H locs la ad s) (h2 : 2 ≤ a) (hn : a < n)
    (hP : va_P D vwCl ((wl cy ad h n).set (a - 2) (ad a, cE cy ad e)) H1) (hD : va_D (am_A B0) ((wl cy ad h n).set (a - 2) (ad a, cE cy ad e))) (hS : va_S (am_A B0) s.heap H1 locs1) : am_Mv D cy B0 b fw M n0 ad0 ls n (va_up h a e) H1 locs1 la ad s := by
  rw [wl_set h2 hn] at hP hD
  exact ⟨hP, hD, hS, mv.2.2.2.1, mv.2.2.2.2.1, mv.2.2.2.2.2.1, mv.2.2.2.2.2.2⟩
theorem am_Mv.new {M : MI} {n0 : Nat} {ad0 : Nat → Nat} {ls : List (Nat × Value)} {st : List Value} {n q : Nat} {h : Hp} {e e' : va_E} {H H1 : Heap} {locs locs1 : List Loc} {la : Array Slot} {ad : Nat → Nat} {s : State} (mv : am_Mv D cy B0 b fw M n0 ad0 ls n h H locs la ad s) (ab : am_Ab L xs n h ls st) (he : cE cy (va_up ad n q) e = e')
    (hP : va_P D vwCl (wl cy ad h n ++ [(q, e')]) H1) (hD : va_D (am_A B0) (wl cy ad h n ++ [(q, e')])) (hS : va_S (am_A B0) s.heap H1 locs1) : am_Mv D cy B0 b fw M n0 ad0 ls (n + 1) (va_up h n e) H1 locs1 la (va_up ad n q) s := by
  rw [wl_push ab.1 ab.2.1 he] at hP hD
  have h2 := ab.1
  have hn0 := mv.2.2.2.2.1
  have hag : ∀ k, k < n → va_up ad n q k = ad k := fun k hk => by simp [va_up, Nat.ne_of_lt hk]
  exact ⟨hP, hD, hS, ⟨(hag 0 (by omega)).trans mv.2.2.2.1.1, (hag 1 (by omega)).trans mv.2.2.2.1.2⟩, by omega, fun k hk => (hag k (by omega)).trans (mv.2.2.2.2.2.1 k hk), by rw [mapP_agree hag ab.2.2.1]; exact mv.2.2.2.2.2.2⟩
theorem am_room {ad : Nat → Nat} {st : List Value} (h : csum st ≤ 8) : ((st.map (cV ad)).map fun v => v.category).sum ≤ 8 := by
  rw [List.map_map, show (fun v : Value => v.category) ∘ cV ad = fun v => v.category from funext (cV_cat ad)]
  exact h
theorem am_get {n a ci : Nat} {h : Hp} {ls : List (Nat × Value)} {st : List Value} {fs : List Value} (ad : Nat → Nat) (ab : am_Ab L xs n h ls (.ref a :: st)) (g : h a = .inr (ci, fs)) : (wl cy ad h n)[a - 2]? = some (ad a, .inr (ci, fs.map (cV ad))) := by
  rw [wl_get (am_ge2 ab g) ab.top, g]
  rfl
theorem sd_iconst : RU_iconst (Snd l D cy B0 b fw L xs) := by
  intro d M pc ls st n h o z v g0 g1 p0 ab
  obtain ⟨a1, kw⟩ := p0 (ab.push trivial)
  refine ⟨a1, fun p e R s m args below meth c n0 ad0 fx H locs cells slots la ad mv c1 c2 => ?_⟩
  exact lv_iconst fx.1 fx.2.1 g0 g1 (kw p e R s m args below meth c n0 ad0 fx H locs cells slots la ad mv c1 c2)
theorem sd_bipush : RU_bipush (Snd l D cy B0 b fw L xs) := by
  intro d M pc ls st n h o z v g0 g1 p0 ab
  obtain ⟨a1, kw⟩ := p0 (ab.push trivial)
  refine ⟨a1, fun p e R s m args below meth c n0 ad0 fx H locs cells slots la ad mv c1 c2 => ?_⟩
  exact lv_bipush fx.1 fx.2.1 g0 g1 (kw p e R s m args below meth c n0 ad0 fx H locs cells slots la ad mv c1 c2)
theorem sd_sipush : RU_sipush (Snd l D cy B0 b fw L xs) := by
  intro d M pc ls st n h o z v g0 g1 p0 ab
  obtain ⟨a1, kw⟩ := p0 (ab.push trivial)
  refine ⟨a1, fun p e R s m args below meth c n0 ad0 fx H locs cells slots la ad mv c1 c2 => ?_⟩
  exact lv_sipush fx.1 fx.2.1 g0 g1 (kw p e R s m args below meth c n0 ad0 fx H locs cells slots la ad mv c1 c2)
theorem sd_lconst : RU_lconst (Snd l D cy B0 b fw L xs) := by
  intro d M pc ls st n h o z v g0 g1 p0 ab
  obtain ⟨a1, kw⟩ := p0 (ab.push trivial)
  refine ⟨a1, fun p e R s m args below meth c n0 ad0 fx H locs cells slots la ad mv c1 c2 => ?_⟩
  exact lv_lconst fx.1 fx.2.1 g0 g1 (kw p e R s m args below meth c n0 ad0 fx H locs cells slots la ad mv c1 c2)
theorem sd_ldc : RU_ldc (Snd l D cy B0 b fw L xs) := by
  intro d M pc ls st n h o z v g0 g1 p0 ab
  obtain ⟨a1, kw⟩ := p0 (ab.push trivial)
  refine ⟨a1, fun p e R s m args below meth c n0 ad0 fx H locs cells slots la ad mv c1 c2 => ?_⟩
  exact lv_ldc fx.1 fx.2.1 fx.2.2.2.2.1 (fx.2.2.2.2.2.1 _ g1) g0 (kw p e R s m args below meth c n0 ad0 fx H locs cells slots la ad mv c1 c2)
theorem sd_ldcw : RU_ldcw (Snd l D cy B0 b fw L xs) := by
  intro d M pc ls st n h o z v g0 g1 p0 ab
  obtain ⟨a1, kw⟩ := p0 (ab.push trivial)
  refine ⟨a1, fun p e R s m args below meth c n0 ad0 fx H locs cells slots la ad mv c1 c2 => ?_⟩
  exact lv_ldcw fx.1 fx.2.1 fx.2.2.2.2.1 (fx.2.2.2.2.2.1 _ g1) g0 (kw p e R s m args below meth c n0 ad0 fx H locs cells slots la ad mv c1 c2)
theorem sd_ldc2 : RU_ldc2 (Snd l D cy B0 b fw L xs) := by
  intro d M pc ls st n h o z v g0 g1 p0 ab
  obtain ⟨a1, kw⟩ := p0 (ab.push trivial)
  refine ⟨a1, fun p e R s m args below meth c n0 ad0 fx H locs cells slots la ad mv c1 c2 => ?_⟩
  exact lv_ldc2 fx.1 fx.2.1 fx.2.2.2.2.1 (fx.2.2.2.2.2.1 _ g1) g0 (kw p e R s m args below meth c n0 ad0 fx H locs cells slots la ad mv c1 c2)
theorem sd_null : RU_null (Snd l D cy B0 b fw L xs) := by
  intro d M pc ls st n h o  g0 p0 ab
  obtain ⟨a1, kw⟩ := p0 (ab.push trivial)
  refine ⟨a1, fun p e R s m args below meth c n0 ad0 fx H locs cells slots la ad mv c1 c2 => ?_⟩
  exact lv_null fx.1 fx.2.1 g0 (kw p e R s m args below meth c n0 ad0 fx H locs cells slots la ad mv c1 c2)
theorem sd_iload_n : RU_iload_n (Snd l D cy B0 b fw L xs) := by
  intro d M pc ls st n h o k x g0 g1 p0 ab
  obtain ⟨a1, kw⟩ := p0 (ab.push (ab.lks g1))
  refine ⟨a1, fun p e R s m args below meth c n0 ad0 fx H locs cells slots la ad mv c1 c2 => ?_⟩
  exact lv_iload_n fx.1 fx.2.1 g0 rfl (lk_has mv.2.2.2.2.2.2 g1) (kw p e R s m args below meth c n0 ad0 fx H locs cells slots la ad mv c1 c2)
theorem sd_iload : RU_iload (Snd l D cy B0 b fw L xs) := by
  intro d M pc ls st n h o k x g0 g1 p0 ab
  obtain ⟨a1, kw⟩ := p0 (ab.push (ab.lks g1))
  refine ⟨a1, fun p e R s m args below meth c n0 ad0 fx H locs cells slots la ad mv c1 c2 => ?_⟩
  exact lv_iload fx.1 fx.2.1 g0 (lk_has mv.2.2.2.2.2.2 g1) (kw p e R s m args below meth c n0 ad0 fx H locs cells slots la ad mv c1 c2)
theorem sd_lload_n : RU_lload_n (Snd l D cy B0 b fw L xs) := by
  intro d M pc ls st n h o k x g0 g1 p0 ab
  obtain ⟨a1, kw⟩ := p0 (ab.push (ab.lks g1))
  refine ⟨a1, fun p e R s m args below meth c n0 ad0 fx H locs cells slots la ad mv c1 c2 => ?_⟩
  exact lv_lload_n fx.1 fx.2.1 g0 rfl (lk_has mv.2.2.2.2.2.2 g1) (kw p e R s m args below meth c n0 ad0 fx H locs cells slots la ad mv c1 c2)
theorem sd_lload : RU_lload (Snd l D cy B0 b fw L xs) := by
  intro d M pc ls st n h o k x g0 g1 p0 ab
  obtain ⟨a1, kw⟩ := p0 (ab.push (ab.lks g1))
  refine ⟨a1, fun p e R s m args below meth c n0 ad0 fx H locs cells slots la ad mv c1 c2 => ?_⟩
  exact lv_lload fx.1 fx.2.1 g0 (lk_has mv.2.2.2.2.2.2 g1) (kw p e R s m args below meth c n0 ad0 fx H locs cells slots la ad mv c1 c2)
theorem sd_aload_n : RU_aload_n (Snd l D cy B0 b fw L xs) := by
  intro d M pc ls st n h o k x g0 g1 p0 ab
  obtain ⟨a1, kw⟩ := p0 (ab.push (ab.lks g1))
  refine ⟨a1, fun p e R s m args below meth c n0 ad0 fx H locs cells slots la ad mv c1 c2 => ?_⟩
  exact lv_aload_n fx.1 fx.2.1 g0 rfl (lk_has mv.2.2.2.2.2.2 g1) (kw p e R s m args below meth c n0 ad0 fx H locs cells slots la ad mv c1 c2)
theorem sd_aload : RU_aload (Snd l D cy B0 b fw L xs) := by
  intro d M pc ls st n h o k x g0 g1 p0 ab
  obtain ⟨a1, kw⟩ := p0 (ab.push (ab.lks g1))
  refine ⟨a1, fun p e R s m args below meth c n0 ad0 fx H locs cells slots la ad mv c1 c2 => ?_⟩
  exact lv_aload fx.1 fx.2.1 g0 (lk_has mv.2.2.2.2.2.2 g1) (kw p e R s m args below meth c n0 ad0 fx H locs cells slots la ad mv c1 c2)
theorem sd_aload_nN : RU_aload_nN (Snd l D cy B0 b fw L xs) := by
  intro d M pc ls st n h o k g0 g1 p0 ab
  obtain ⟨a1, kw⟩ := p0 (ab.push trivial)
  refine ⟨a1, fun p e R s m args below meth c n0 ad0 fx H locs cells slots la ad mv c1 c2 => ?_⟩
  exact lv_aload_nN fx.1 fx.2.1 g0 rfl (lk_has mv.2.2.2.2.2.2 g1) (kw p e R s m args below meth c n0 ad0 fx H locs cells slots la ad mv c1 c2)
theorem sd_aloadN : RU_aloadN (Snd l D cy B0 b fw L xs) := by
  intro d M pc ls st n h o k g0 g1 p0 ab
  obtain ⟨a1, kw⟩ := p0 (ab.push trivial)
  refine ⟨a1, fun p e R s m args below meth c n0 ad0 fx H locs cells slots la ad mv c1 c2 => ?_⟩
  exact lv_aloadN fx.1 fx.2.1 g0 (lk_has mv.2.2.2.2.2.2 g1) (kw p e R s m args below meth c n0 ad0 fx H locs cells slots la ad mv c1 c2)
theorem sd_istore_n : RU_istore_n (Snd l D cy B0 b fw L xs) := by
  intro d M pc ls st n h o k x g0 g1 p0 ab
  obtain ⟨a1, kw⟩ := p0 (ab.pop.st1 (k : Nat) trivial)
  refine ⟨a1, fun p e R s m args below meth c n0 ad0 fx H locs cells slots la ad mv c1 c2 => ?_⟩
  exact lv_istore_n (lv := ls.map (cvP ad)) (lv' := (lst1 ls (k : Nat) (.int x)).map (cvP ad)) fx.1 fx.2.1 g0 rfl mv.2.2.2.2.2.2 g1 (congrArg (List.cons ((k : Nat), Value.int x)) (lrm_map ad (k : Nat) ls)) (fun la9 h9 => kw p e R s m args below meth c n0 ad0 fx H locs cells slots la9 ad (mv.st h9) c1 c2)
theorem sd_lstore_n : RU_lstore_n (Snd l D cy B0 b fw L xs) := by
  intro d M pc ls st n h o k x g0 g1 p0 ab
  obtain ⟨a1, kw⟩ := p0 (ab.pop.st2 (k : Nat) trivial)
  refine ⟨a1, fun p e R s m args below meth c n0 ad0 fx H locs cells slots la ad mv c1 c2 => ?_⟩
  exact lv_lstore_n (lv := ls.map (cvP ad)) (lv' := (lst2 ls (k : Nat) (.long x)).map (cvP ad)) fx.1 fx.2.1 g0 rfl mv.2.2.2.2.2.2 g1 (congrArg (List.cons ((k : Nat), Value.long x)) (lrm2_map ad (k : Nat) ls)) (fun la9 h9 => kw p e R s m args below meth c n0 ad0 fx H locs cells slots la9 ad (mv.st h9) c1 c2)
theorem sd_astore_n : RU_astore_n (Snd l D cy B0 b fw L xs) := by
  intro d M pc ls st n h o k x g0 g1 p0 ab
  obtain ⟨a1, kw⟩ := p0 (ab.pop.st1 (k : Nat) ab.top)
  refine ⟨a1, fun p e R s m args below meth c n0 ad0 fx H locs cells slots la ad mv c1 c2 => ?_⟩
  exact lv_astore_n (lv := ls.map (cvP ad)) (lv' := (lst1 ls (k : Nat) (.ref x)).map (cvP ad)) fx.1 fx.2.1 g0 rfl mv.2.2.2.2.2.2 g1 (congrArg (List.cons ((k : Nat), Value.ref (ad x))) (lrm_map ad (k : Nat) ls)) (fun la9 h9 => kw p e R s m args below meth c n0 ad0 fx H locs cells slots la9 ad (mv.st h9) c1 c2)
theorem sd_istore : RU_istore (Snd l D cy B0 b fw L xs) := by
  intro d M pc ls st n h o k x g0 g1 p0 ab
  obtain ⟨a1, kw⟩ := p0 (ab.pop.st1 k trivial)
  refine ⟨a1, fun p e R s m args below meth c n0 ad0 fx H locs cells slots la ad mv c1 c2 => ?_⟩
  exact lv_istore (lv := ls.map (cvP ad)) (lv' := (lst1 ls k (.int x)).map (cvP ad)) fx.1 fx.2.1 g0 mv.2.2.2.2.2.2 g1 (congrArg (List.cons (k, Value.int x)) (lrm_map ad k ls)) (fun la9 h9 => kw p e R s m args below meth c n0 ad0 fx H locs cells slots la9 ad (mv.st h9) c1 c2)
theorem sd_lstore : RU_lstore (Snd l D cy B0 b fw L xs) := by
  intro d M pc ls st n h o k x g0 g1 p0 ab
  obtain ⟨a1, kw⟩ := p0 (ab.pop.st2 k trivial)
  refine ⟨a1, fun p e R s m args below meth c n0 ad0 fx H locs cells slots la ad mv c1 c2 => ?_⟩
  exact lv_lstore (lv := ls.map (cvP ad)) (lv' := (lst2 ls k (.long x)).map (cvP ad)) fx.1 fx.2.1 g0 mv.2.2.2.2.2.2 g1 (congrArg (List.cons (k, Value.long x)) (lrm2_map ad k ls)) (fun la9 h9 => kw p e R s m args below meth c n0 ad0 fx H locs cells slots la9 ad (mv.st h9) c1 c2)
theorem sd_astore : RU_astore (Snd l D cy B0 b fw L xs) := by
  intro d M pc ls st n h o k x g0 g1 p0 ab
  obtain ⟨a1, kw⟩ := p0 (ab.pop.st1 k ab.top)
  refine ⟨a1, fun p e R s m args below meth c n0 ad0 fx H locs cells slots la ad mv c1 c2 => ?_⟩
  exact lv_astore (lv := ls.map (cvP ad)) (lv' := (lst1 ls k (.ref x)).map (cvP ad)) fx.1 fx.2.1 g0 mv.2.2.2.2.2.2 g1 (congrArg (List.cons (k, Value.ref (ad x))) (lrm_map ad k ls)) (fun la9 h9 => kw p e R s m args below meth c n0 ad0 fx H locs cells slots la9 ad (mv.st h9) c1 c2)
theorem sd_astore_nN : RU_astore_nN (Snd l D cy B0 b fw L xs) := by
  intro d M pc ls st n h o k g0 g1 p0 ab
  obtain ⟨a1, kw⟩ := p0 (ab.pop.st1 (k : Nat) trivial)
  refine ⟨a1, fun p e R s m args below meth c n0 ad0 fx H locs cells slots la ad mv c1 c2 => ?_⟩
  exact lv_astore_nN (lv := ls.map (cvP ad)) (lv' := (lst1 ls (k : Nat) (.null)).map (cvP ad)) fx.1 fx.2.1 g0 rfl mv.2.2.2.2.2.2 g1 (congrArg (List.cons ((k : Nat), Value.null)) (lrm_map ad (k : Nat) ls)) (fun la9 h9 => kw p e R s m args below meth c n0 ad0 fx H locs cells slots la9 ad (mv.st h9) c1 c2)
theorem sd_astoreN : RU_astoreN (Snd l D cy B0 b fw L xs) := by
  intro d M pc ls st n h o k g0 g1 p0 ab
  obtain ⟨a1, kw⟩ := p0 (ab.pop.st1 k trivial)
  refine ⟨a1, fun p e R s m args below meth c n0 ad0 fx H locs cells slots la ad mv c1 c2 => ?_⟩
  exact lv_astoreN (lv := ls.map (cvP ad)) (lv' := (lst1 ls k (.null)).map (cvP ad)) fx.1 fx.2.1 g0 mv.2.2.2.2.2.2 g1 (congrArg (List.cons (k, Value.null)) (lrm_map ad k ls)) (fun la9 h9 => kw p e R s m args below meth c n0 ad0 fx H locs cells slots la9 ad (mv.st h9) c1 c2)
theorem sd_iinc : RU_iinc (Snd l D cy B0 b fw L xs) := by
  intro d M pc ls st n h o k z x v g0 g1 g2 g3 p0 ab
  obtain ⟨a1, kw⟩ := p0 (ab.st1 k trivial)
  refine ⟨a1, fun p e R s m args below meth c n0 ad0 fx H locs cells slots la ad mv c1 c2 => ?_⟩
  obtain ⟨j, hj⟩ := List.getElem?_of_mem (show (k, Value.int x) ∈ ls.map (cvP ad) from List.mem_map.mpr ⟨(k, .int x), lk_mem g1, rfl⟩)
  exact lv_iinc (lv := ls.map (cvP ad)) (lv' := (lst1 ls k (.int v)).map (cvP ad)) fx.1 fx.2.1 g0 mv.2.2.2.2.2.2 hj g2 g3 (congrArg (List.cons (k, Value.int v)) (lrm_map ad k ls)) (fun la9 h9 => kw p e R s m args below meth c n0 ad0 fx H locs cells slots la9 ad (mv.st h9) c1 c2)
theorem sd_iadd : RU_iadd (Snd l D cy B0 b fw L xs) := by
  intro d M pc ls st n h o x y g0 p0 ab
  obtain ⟨a1, kw⟩ := p0 (ab.pop.pop.push trivial)
  refine ⟨a1, fun p e R s m args below meth c n0 ad0 fx H locs cells slots la ad mv c1 c2 => ?_⟩
  exact lv_iadd fx.1 fx.2.1 g0 (kw p e R s m args below meth c n0 ad0 fx H locs cells slots la ad mv c1 c2)
theorem sd_isub : RU_isub (Snd l D cy B0 b fw L xs) := by
  intro d M pc ls st n h o x y g0 p0 ab
  obtain ⟨a1, kw⟩ := p0 (ab.pop.pop.push trivial)
  refine ⟨a1, fun p e R s m args below meth c n0 ad0 fx H locs cells slots la ad mv c1 c2 => ?_⟩
  exact lv_isub fx.1 fx.2.1 g0 (kw p e R s m args below meth c n0 ad0 fx H locs cells slots la ad mv c1 c2)
theorem sd_imul : RU_imul (Snd l D cy B0 b fw L xs) := by
  intro d M pc ls st n h o x y g0 p0 ab
  obtain ⟨a1, kw⟩ := p0 (ab.pop.pop.push trivial)
  refine ⟨a1, fun p e R s m args below meth c n0 ad0 fx H locs cells slots la ad mv c1 c2 => ?_⟩
  exact lv_imul fx.1 fx.2.1 g0 (kw p e R s m args below meth c n0 ad0 fx H locs cells slots la ad mv c1 c2)
theorem sd_iand : RU_iand (Snd l D cy B0 b fw L xs) := by
  intro d M pc ls st n h o x y g0 p0 ab
  obtain ⟨a1, kw⟩ := p0 (ab.pop.pop.push trivial)
  refine ⟨a1, fun p e R s m args below meth c n0 ad0 fx H locs cells slots la ad mv c1 c2 => ?_⟩
  exact lv_iand fx.1 fx.2.1 g0 (kw p e R s m args below meth c n0 ad0 fx H locs cells slots la ad mv c1 c2)
theorem sd_ior : RU_ior (Snd l D cy B0 b fw L xs) := by
  intro d M pc ls st n h o x y g0 p0 ab
  obtain ⟨a1, kw⟩ := p0 (ab.pop.pop.push trivial)
  refine ⟨a1, fun p e R s m args below meth c n0 ad0 fx H locs cells slots la ad mv c1 c2 => ?_⟩
  exact lv_ior fx.1 fx.2.1 g0 (kw p e R s m args below meth c n0 ad0 fx H locs cells slots la ad mv c1 c2)
theorem sd_ixor : RU_ixor (Snd l D cy B0 b fw L xs) := by
  intro d M pc ls st n h o x y g0 p0 ab
  obtain ⟨a1, kw⟩ := p0 (ab.pop.pop.push trivial)
  refine ⟨a1, fun p e R s m args below meth c n0 ad0 fx H locs cells slots la ad mv c1 c2 => ?_⟩
  exact lv_ixor fx.1 fx.2.1 g0 (kw p e R s m args below meth c n0 ad0 fx H locs cells slots la ad mv c1 c2)
theorem sd_ishl : RU_ishl (Snd l D cy B0 b fw L xs) := by
  intro d M pc ls st n h o x y g0 p0 ab
  obtain ⟨a1, kw⟩ := p0 (ab.pop.pop.push trivial)
  refine ⟨a1, fun p e R s m args below meth c n0 ad0 fx H locs cells slots la ad mv c1 c2 => ?_⟩
  exact lv_ishl fx.1 fx.2.1 g0 (kw p e R s m args below meth c n0 ad0 fx H locs cells slots la ad mv c1 c2)
theorem sd_ishr : RU_ishr (Snd l D cy B0 b fw L xs) := by
  intro d M pc ls st n h o x y g0 p0 ab
  obtain ⟨a1, kw⟩ := p0 (ab.pop.pop.push trivial)
  refine ⟨a1, fun p e R s m args below meth c n0 ad0 fx H locs cells slots la ad mv c1 c2 => ?_⟩
  exact lv_ishr fx.1 fx.2.1 g0 (kw p e R s m args below meth c n0 ad0 fx H locs cells slots la ad mv c1 c2)
theorem sd_ladd : RU_ladd (Snd l D cy B0 b fw L xs) := by
  intro d M pc ls st n h o x y g0 p0 ab
  obtain ⟨a1, kw⟩ := p0 (ab.pop.pop.push trivial)
  refine ⟨a1, fun p e R s m args below meth c n0 ad0 fx H locs cells slots la ad mv c1 c2 => ?_⟩
  exact lv_ladd fx.1 fx.2.1 g0 (kw p e R s m args below meth c n0 ad0 fx H locs cells slots la ad mv c1 c2)
theorem sd_lmul : RU_lmul (Snd l D cy B0 b fw L xs) := by
  intro d M pc ls st n h o x y g0 p0 ab
  obtain ⟨a1, kw⟩ := p0 (ab.pop.pop.push trivial)
  refine ⟨a1, fun p e R s m args below meth c n0 ad0 fx H locs cells slots la ad mv c1 c2 => ?_⟩
  exact lv_lmul fx.1 fx.2.1 g0 (kw p e R s m args below meth c n0 ad0 fx H locs cells slots la ad mv c1 c2)
theorem sd_iushr : RU_iushr (Snd l D cy B0 b fw L xs) := by
  intro d M pc ls st n h o x y v g0 g1 p0 ab
  obtain ⟨a1, kw⟩ := p0 (ab.pop.pop.push trivial)
  refine ⟨a1, fun p e R s m args below meth c n0 ad0 fx H locs cells slots la ad mv c1 c2 => ?_⟩
  exact lv_iushr fx.1 fx.2.1 g0 g1 (kw p e R s m args below meth c n0 ad0 fx H locs cells slots la ad mv c1 c2)
theorem sd_ineg : RU_ineg (Snd l D cy B0 b fw L xs) := by
  intro d M pc ls st n h o x g0 p0 ab
  obtain ⟨a1, kw⟩ := p0 (ab.pop.push trivial)
  refine ⟨a1, fun p e R s m args below meth c n0 ad0 fx H locs cells slots la ad mv c1 c2 => ?_⟩
  exact lv_ineg fx.1 fx.2.1 g0 (kw p e R s m args below meth c n0 ad0 fx H locs cells slots la ad mv c1 c2)
theorem sd_idiv : RU_idiv (Snd l D cy B0 b fw L xs) := by
  intro d M pc ls st n h o x y g0 g1 p0 ab
  obtain ⟨a1, kw⟩ := p0 (ab.pop.pop.push trivial)
  refine ⟨a1, fun p e R s m args below meth c n0 ad0 fx H locs cells slots la ad mv c1 c2 => ?_⟩
  exact lv_idiv fx.1 fx.2.1 g0 g1 (kw p e R s m args below meth c n0 ad0 fx H locs cells slots la ad mv c1 c2)
theorem sd_irem : RU_irem (Snd l D cy B0 b fw L xs) := by
  intro d M pc ls st n h o x y g0 g1 p0 ab
  obtain ⟨a1, kw⟩ := p0 (ab.pop.pop.push trivial)
  refine ⟨a1, fun p e R s m args below meth c n0 ad0 fx H locs cells slots la ad mv c1 c2 => ?_⟩
  exact lv_irem fx.1 fx.2.1 g0 g1 (kw p e R s m args below meth c n0 ad0 fx H locs cells slots la ad mv c1 c2)
theorem sd_ldiv : RU_ldiv (Snd l D cy B0 b fw L xs) := by
  intro d M pc ls st n h o x y g0 g1 p0 ab
  obtain ⟨a1, kw⟩ := p0 (ab.pop.pop.push trivial)
  refine ⟨a1, fun p e R s m args below meth c n0 ad0 fx H locs cells slots la ad mv c1 c2 => ?_⟩
  exact lv_ldiv fx.1 fx.2.1 g0 g1 (kw p e R s m args below meth c n0 ad0 fx H locs cells slots la ad mv c1 c2)
theorem sd_lrem : RU_lrem (Snd l D cy B0 b fw L xs) := by
  intro d M pc ls st n h o x y g0 g1 p0 ab
  obtain ⟨a1, kw⟩ := p0 (ab.pop.pop.push trivial)
  refine ⟨a1, fun p e R s m args below meth c n0 ad0 fx H locs cells slots la ad mv c1 c2 => ?_⟩
  exact lv_lrem fx.1 fx.2.1 g0 g1 (kw p e R s m args below meth c n0 ad0 fx H locs cells slots la ad mv c1 c2)
theorem sd_lcmp : RU_lcmp (Snd l D cy B0 b fw L xs) := by
  intro d M pc ls st n h o x y g0 p0 ab
  obtain ⟨a1, kw⟩ := p0 (ab.pop.pop.push trivial)
  refine ⟨a1, fun p e R s m args below meth c n0 ad0 fx H locs cells slots la ad mv c1 c2 => ?_⟩
  exact W.lcmp fx.1 fx.2.1 g0 (kw p e R s m args below meth c n0 ad0 fx H locs cells slots la ad mv c1 c2)
theorem sd_i2l : RU_i2l (Snd l D cy B0 b fw L xs) := by
  intro d M pc ls st n h o x v g0 g1 p0 ab
  obtain ⟨a1, kw⟩ := p0 (ab.pop.push trivial)
  refine ⟨a1, fun p e R s m args below meth c n0 ad0 fx H locs cells slots la ad mv c1 c2 => ?_⟩
  exact lv_i2l fx.1 fx.2.1 g0 g1 (kw p e R s m args below meth c n0 ad0 fx H locs cells slots la ad mv c1 c2)
theorem sd_l2i : RU_l2i (Snd l D cy B0 b fw L xs) := by
  intro d M pc ls st n h o x v g0 g1 p0 ab
  obtain ⟨a1, kw⟩ := p0 (ab.pop.push trivial)
  refine ⟨a1, fun p e R s m args below meth c n0 ad0 fx H locs cells slots la ad mv c1 c2 => ?_⟩
  exact lv_l2i fx.1 fx.2.1 g0 g1 (kw p e R s m args below meth c n0 ad0 fx H locs cells slots la ad mv c1 c2)
theorem sd_dup : RU_dup (Snd l D cy B0 b fw L xs) := by
  intro d M pc ls st n h o va g0 g1 p0 ab
  obtain ⟨a1, kw⟩ := p0 (ab.push ab.top)
  refine ⟨a1, fun p e R s m args below meth c n0 ad0 fx H locs cells slots la ad mv c1 c2 => ?_⟩
  exact lv_dup (va := cV ad va) fx.1 fx.2.1 g0 (by rw [cV_cat]; exact g1) (kw p e R s m args below meth c n0 ad0 fx H locs cells slots la ad mv c1 c2)
theorem sd_pop : RU_pop (Snd l D cy B0 b fw L xs) := by
  intro d M pc ls st n h o va g0 g1 p0 ab
  obtain ⟨a1, kw⟩ := p0 (ab.pop)
  refine ⟨a1, fun p e R s m args below meth c n0 ad0 fx H locs cells slots la ad mv c1 c2 => ?_⟩
  exact lv_pop (va := cV ad va) fx.1 fx.2.1 g0 (by rw [cV_cat]; exact g1) (kw p e R s m args below meth c n0 ad0 fx H locs cells slots la ad mv c1 c2)
theorem sd_dup2_11 : RU_dup2_11 (Snd l D cy B0 b fw L xs) := by
  intro d M pc ls st n h o va vb g0 g1 g2 p0 ab
  obtain ⟨a1, kw⟩ := p0 ((ab.push ab.pop.top).push ab.top)
  refine ⟨a1, fun p e R s m args below meth c n0 ad0 fx H locs cells slots la ad mv c1 c2 => ?_⟩
  exact lv_dup2_11 (va := cV ad va) (vb := cV ad vb) fx.1 fx.2.1 g0 (by rw [cV_cat]; exact g1) (by rw [cV_cat]; exact g2) (kw p e R s m args below meth c n0 ad0 fx H locs cells slots la ad mv c1 c2)
theorem sd_if_eq : RU_if_eq (Snd l D cy B0 b fw L xs) := by
  intro d M pc ls st n h o off tgt x g0 g1 p0 p1 ab
  have a1 := (Classical.em (x = 0)).elim (fun c9 => (p0 c9 (ab.pop)).1) (fun c9 => (p1 c9 (ab.pop)).1)
  refine ⟨a1, fun p e R s m args below meth c n0 ad0 fx H locs cells slots la ad mv c1 c2 => ?_⟩
  exact lv_if_eq fx.1 fx.2.1 g0 g1 (fun c9 => (p0 c9 (ab.pop)).2 p e R s m args below meth c n0 ad0 fx H locs cells slots la ad mv c1 c2) (fun c9 => (p1 c9 (ab.pop)).2 p e R s m args below meth c n0 ad0 fx H locs cells slots la ad mv c1 c2)
theorem sd_icmp_eq : RU_icmp_eq (Snd l D cy B0 b fw L xs) := by
  intro d M pc ls st n h o off tgt x y g0 g1 p0 p1 ab
  have a1 := (Classical.em (x = y)).elim (fun c9 => (p0 c9 (ab.pop.pop)).1) (fun c9 => (p1 c9 (ab.pop.pop)).1)
  refine ⟨a1, fun p e R s m args below meth c n0 ad0 fx H locs cells slots la ad mv c1 c2 => ?_⟩
  exact lv_icmp_eq fx.1 fx.2.1 g0 g1 (fun c9 => (p0 c9 (ab.pop.pop)).2 p e R s m args below meth c n0 ad0 fx H locs cells slots la ad mv c1 c2) (fun c9 => (p1 c9 (ab.pop.pop)).2 p e R s m args below meth c n0 ad0 fx H locs cells slots la ad mv c1 c2)
theorem sd_if_ne : RU_if_ne (Snd l D cy B0 b fw L xs) := by
  intro d M pc ls st n h o off tgt x g0 g1 p0 p1 ab
  have a1 := (Classical.em (¬ x = 0)).elim (fun c9 => (p0 c9 (ab.pop)).1) (fun c9 => (p1 (Classical.not_not.mp c9) (ab.pop)).1)
  refine ⟨a1, fun p e R s m args below meth c n0 ad0 fx H locs cells slots la ad mv c1 c2 => ?_⟩
  exact lv_if_ne fx.1 fx.2.1 g0 g1 (fun c9 => (p0 c9 (ab.pop)).2 p e R s m args below meth c n0 ad0 fx H locs cells slots la ad mv c1 c2) (fun c9 => (p1 c9 (ab.pop)).2 p e R s m args below meth c n0 ad0 fx H locs cells slots la ad mv c1 c2)
theorem sd_icmp_ne : RU_icmp_ne (Snd l D cy B0 b fw L xs) := by
  intro d M pc ls st n h o off tgt x y g0 g1 p0 p1 ab
  have a1 := (Classical.em (¬ x = y)).elim (fun c9 => (p0 c9 (ab.pop.pop)).1) (fun c9 => (p1 (Classical.not_not.mp c9) (ab.pop.pop)).1)
  refine ⟨a1, fun p e R s m args below meth c n0 ad0 fx H locs cells slots la ad mv c1 c2 => ?_⟩
  exact lv_icmp_ne fx.1 fx.2.1 g0 g1 (fun c9 => (p0 c9 (ab.pop.pop)).2 p e R s m args below meth c n0 ad0 fx H locs cells slots la ad mv c1 c2) (fun c9 => (p1 c9 (ab.pop.pop)).2 p e R s m args below meth c n0 ad0 fx H locs cells slots la ad mv c1 c2)
theorem sd_if_lt : RU_if_lt (Snd l D cy B0 b fw L xs) := by
  intro d M pc ls st n h o off tgt x g0 g1 p0 p1 ab
  have a1 := (Classical.em (x < 0)).elim (fun c9 => (p0 c9 (ab.pop)).1) (fun c9 => (p1 c9 (ab.pop)).1)
  refine ⟨a1, fun p e R s m args below meth c n0 ad0 fx H locs cells slots la ad mv c1 c2 => ?_⟩
  exact lv_if_lt fx.1 fx.2.1 g0 g1 (fun c9 => (p0 c9 (ab.pop)).2 p e R s m args below meth c n0 ad0 fx H locs cells slots la ad mv c1 c2) (fun c9 => (p1 c9 (ab.pop)).2 p e R s m args below meth c n0 ad0 fx H locs cells slots la ad mv c1 c2)
theorem sd_icmp_lt : RU_icmp_lt (Snd l D cy B0 b fw L xs) := by
  intro d M pc ls st n h o off tgt x y g0 g1 p0 p1 ab
  have a1 := (Classical.em (x < y)).elim (fun c9 => (p0 c9 (ab.pop.pop)).1) (fun c9 => (p1 c9 (ab.pop.pop)).1)
  refine ⟨a1, fun p e R s m args below meth c n0 ad0 fx H locs cells slots la ad mv c1 c2 => ?_⟩
  exact lv_icmp_lt fx.1 fx.2.1 g0 g1 (fun c9 => (p0 c9 (ab.pop.pop)).2 p e R s m args below meth c n0 ad0 fx H locs cells slots la ad mv c1 c2) (fun c9 => (p1 c9 (ab.pop.pop)).2 p e R s m args below meth c n0 ad0 fx H locs cells slots la ad mv c1 c2)
theorem sd_if_ge : RU_if_ge (Snd l D cy B0 b fw L xs) := by
  intro d M pc ls st n h o off tgt x g0 g1 p0 p1 ab
  have a1 := (Classical.em (0 ≤ x)).elim (fun c9 => (p0 c9 (ab.pop)).1) (fun c9 => (p1 c9 (ab.pop)).1)
  refine ⟨a1, fun p e R s m args below meth c n0 ad0 fx H locs cells slots la ad mv c1 c2 => ?_⟩
  exact lv_if_ge fx.1 fx.2.1 g0 g1 (fun c9 => (p0 c9 (ab.pop)).2 p e R s m args below meth c n0 ad0 fx H locs cells slots la ad mv c1 c2) (fun c9 => (p1 c9 (ab.pop)).2 p e R s m args below meth c n0 ad0 fx H locs cells slots la ad mv c1 c2)
theorem sd_icmp_ge : RU_icmp_ge (Snd l D cy B0 b fw L xs) := by
  intro d M pc ls st n h o off tgt x y g0 g1 p0 p1 ab
  have a1 := (Classical.em (y ≤ x)).elim (fun c9 => (p0 c9 (ab.pop.pop)).1) (fun c9 => (p1 c9 (ab.pop.pop)).1)
  refine ⟨a1, fun p e R s m args below meth c n0 ad0 fx H locs cells slots la ad mv c1 c2 => ?_⟩
  exact lv_icmp_ge fx.1 fx.2.1 g0 g1 (fun c9 => (p0 c9 (ab.pop.pop)).2 p e R s m args below meth c n0 ad0 fx H locs cells slots la ad mv c1 c2) (fun c9 => (p1 c9 (ab.pop.pop)).2 p e R s m args below meth c n0 ad0 fx H locs cells slots la ad mv c1 c2)
theorem sd_if_gt : RU_if_gt (Snd l D cy B0 b fw L xs) := by
  intro d M pc ls st n h o off tgt x g0 g1 p0 p1 ab
  have a1 := (Classical.em (0 < x)).elim (fun c9 => (p0 c9 (ab.pop)).1) (fun c9 => (p1 c9 (ab.pop)).1)
  refine ⟨a1, fun p e R s m args below meth c n0 ad0 fx H locs cells slots la ad mv c1 c2 => ?_⟩
  exact lv_if_gt fx.1 fx.2.1 g0 g1 (fun c9 => (p0 c9 (ab.pop)).2 p e R s m args below meth c n0 ad0 fx H locs cells slots la ad mv c1 c2) (fun c9 => (p1 c9 (ab.pop)).2 p e R s m args below meth c n0 ad0 fx H locs cells slots la ad mv c1 c2)
theorem sd_icmp_gt : RU_icmp_gt (Snd l D cy B0 b fw L xs) := by
  intro d M pc ls st n h o off tgt x y g0 g1 p0 p1 ab
  have a1 := (Classical.em (y < x)).elim (fun c9 => (p0 c9 (ab.pop.pop)).1) (fun c9 => (p1 c9 (ab.pop.pop)).1)
  refine ⟨a1, fun p e R s m args below meth c n0 ad0 fx H locs cells slots la ad mv c1 c2 => ?_⟩
  exact lv_icmp_gt fx.1 fx.2.1 g0 g1 (fun c9 => (p0 c9 (ab.pop.pop)).2 p e R s m args below meth c n0 ad0 fx H locs cells slots la ad mv c1 c2) (fun c9 => (p1 c9 (ab.pop.pop)).2 p e R s m args below meth c n0 ad0 fx H locs cells slots la ad mv c1 c2)
theorem sd_if_le : RU_if_le (Snd l D cy B0 b fw L xs) := by
  intro d M pc ls st n h o off tgt x g0 g1 p0 p1 ab
  have a1 := (Classical.em (x ≤ 0)).elim (fun c9 => (p0 c9 (ab.pop)).1) (fun c9 => (p1 c9 (ab.pop)).1)
  refine ⟨a1, fun p e R s m args below meth c n0 ad0 fx H locs cells slots la ad mv c1 c2 => ?_⟩
  exact lv_if_le fx.1 fx.2.1 g0 g1 (fun c9 => (p0 c9 (ab.pop)).2 p e R s m args below meth c n0 ad0 fx H locs cells slots la ad mv c1 c2) (fun c9 => (p1 c9 (ab.pop)).2 p e R s m args below meth c n0 ad0 fx H locs cells slots la ad mv c1 c2)
theorem sd_icmp_le : RU_icmp_le (Snd l D cy B0 b fw L xs) := by
  intro d M pc ls st n h o off tgt x y g0 g1 p0 p1 ab
  have a1 := (Classical.em (x ≤ y)).elim (fun c9 => (p0 c9 (ab.pop.pop)).1) (fun c9 => (p1 c9 (ab.pop.pop)).1)
  refine ⟨a1, fun p e R s m args below meth c n0 ad0 fx H locs cells slots la ad mv c1 c2 => ?_⟩
  exact lv_icmp_le fx.1 fx.2.1 g0 g1 (fun c9 => (p0 c9 (ab.pop.pop)).2 p e R s m args below meth c n0 ad0 fx H locs cells slots la ad mv c1 c2) (fun c9 => (p1 c9 (ab.pop.pop)).2 p e R s m args below meth c n0 ad0 fx H locs cells slots la ad mv c1 c2)
theorem sd_goto : RU_goto (Snd l D cy B0 b fw L xs) := by
  intro d M pc ls st n h o off tgt g0 g1 p0 ab
  obtain ⟨a1, kw⟩ := p0 (ab)
  refine ⟨a1, fun p e R s m args below meth c n0 ad0 fx H locs cells slots la ad mv c1 c2 => ?_⟩
  exact lv_goto fx.1 fx.2.1 g0 g1 (kw p e R s m args below meth c n0 ad0 fx H locs cells slots la ad mv c1 c2)
theorem sd_ifnull : RU_ifnull (Snd l D cy B0 b fw L xs) := by
  intro d M pc ls st n h o off x g0 p0 ab
  obtain ⟨a1, kw⟩ := p0 (ab.pop)
  refine ⟨a1, fun p e R s m args below meth c n0 ad0 fx H locs cells slots la ad mv c1 c2 => ?_⟩
  exact lv_ifnull fx.1 fx.2.1 g0 (kw p e R s m args below meth c n0 ad0 fx H locs cells slots la ad mv c1 c2)
theorem sd_ifnullN : RU_ifnullN (Snd l D cy B0 b fw L xs) := by
  intro d M pc ls st n h o off tgt g0 g1 p0 ab
  obtain ⟨a1, kw⟩ := p0 (ab.pop)
  refine ⟨a1, fun p e R s m args below meth c n0 ad0 fx H locs cells slots la ad mv c1 c2 => ?_⟩
  exact lv_ifnullN fx.1 fx.2.1 g0 g1 (kw p e R s m args below meth c n0 ad0 fx H locs cells slots la ad mv c1 c2)
theorem sd_ifnonnull : RU_ifnonnull (Snd l D cy B0 b fw L xs) := by
  intro d M pc ls st n h o off tgt x g0 g1 p0 ab
  obtain ⟨a1, kw⟩ := p0 (ab.pop)
  refine ⟨a1, fun p e R s m args below meth c n0 ad0 fx H locs cells slots la ad mv c1 c2 => ?_⟩
  exact lv_ifnonnull fx.1 fx.2.1 g0 g1 (kw p e R s m args below meth c n0 ad0 fx H locs cells slots la ad mv c1 c2)
theorem sd_ifnonnullN : RU_ifnonnullN (Snd l D cy B0 b fw L xs) := by
  intro d M pc ls st n h o off g0 p0 ab
  obtain ⟨a1, kw⟩ := p0 (ab.pop)
  refine ⟨a1, fun p e R s m args below meth c n0 ad0 fx H locs cells slots la ad mv c1 c2 => ?_⟩
  exact lv_ifnonnullN fx.1 fx.2.1 g0 (kw p e R s m args below meth c n0 ad0 fx H locs cells slots la ad mv c1 c2)
theorem sd_tableIn : RU_tableIn (Snd l D cy B0 b fw L xs) := by
  intro d M pc ls st n h o dflt lo hi offs len x off tgt g0 g1 g2 g3 g4 p0 ab
  obtain ⟨a1, kw⟩ := p0 (ab.pop)
  refine ⟨a1, fun p e R s m args below meth c n0 ad0 fx H locs cells slots la ad mv c1 c2 => ?_⟩
  exact lv_tableIn fx.1 fx.2.1 g0 g1 g2 g3 g4 (kw p e R s m args below meth c n0 ad0 fx H locs cells slots la ad mv c1 c2)
theorem sd_tableOut : RU_tableOut (Snd l D cy B0 b fw L xs) := by
  intro d M pc ls st n h o dflt lo hi offs len x tgt g0 g1 g2 p0 ab
  obtain ⟨a1, kw⟩ := p0 (ab.pop)
  refine ⟨a1, fun p e R s m args below meth c n0 ad0 fx H locs cells slots la ad mv c1 c2 => ?_⟩
  exact lv_tableOut fx.1 fx.2.1 g0 g1 g2 (kw p e R s m args below meth c n0 ad0 fx H locs cells slots la ad mv c1 c2)
theorem sd_sub : RU_sub (Snd l D cy B0 b fw L xs) := by
  intro d M pc ls st n h o ls1 g0 p0 ab
  obtain ⟨a1, kw⟩ := p0 ⟨ab.1, ab.2.1, fun q hq => ab.2.2.1 q (lsub_mem g0 q hq), ab.2.2.2⟩
  refine ⟨a1, fun p e R s m args below meth c n0 ad0 fx H locs cells slots la ad mv c1 c2 => ?_⟩
  have hl := mv.2.2.2.2.2.2
  exact kw p e R s m args below meth c n0 ad0 fx H locs cells slots la ad (mv.st ⟨hl.1, hl.2.1, fun q hq => by
    obtain ⟨q1, h1, rfl⟩ := List.mem_map.mp hq
    exact hl.2.2 _ (List.mem_map.mpr ⟨q1, lsub_mem g0 q1 h1, rfl⟩)⟩) c1 c2
end SND
