/-! SOUNDNESS, first half: worlds by places, what a frame is, calls -/
def am_A (B0 : Nat) : Nat → Prop := fun q => B0 ≤ q
def am_CL (n : Nat) (h : Hp) : Prop := ∀ k, k < n → am_okE n (h k)
def cE (cy : Nat → ClassId) (ad : Nat → Nat) : va_E → va_E
  | .inl (t, len, .inr (.inr (.inr (.inr f)))) => .inl (cy t, len, .inr (.inr (.inr (.inr (fun j => (f j).map ad)))))
  | .inl (t, len, .inr (.inr (.inr (.inl f)))) => .inl (cy t, len, .inr (.inr (.inr (.inl f))))
  | .inl (t, len, .inr (.inr (.inl f))) => .inl (cy t, len, .inr (.inr (.inl f)))
  | .inl (t, len, .inr (.inl f)) => .inl (cy t, len, .inr (.inl f))
  | .inl (t, len, .inl f) => .inl (cy t, len, .inl f)
  | .inr (c, fs) => .inr (c, fs.map (cV ad))
def cvP (ad : Nat → Nat) (q : Nat × Value) : Nat × Value := (q.1, cV ad q.2)
def wl (cy : Nat → ClassId) (ad : Nat → Nat) (h : Hp) (n : Nat) : va_W := (List.range (n - 2)).map (fun k => (ad (k + 2), cE cy ad (h (k + 2))))
def am_tys (cy : Nat → ClassId) : List (ClassId × FieldType) := [(cy 0, .int), (cy 1, .long), (cy 2, .int), (cy 3, .object "Glosspair$SentencePair")]
theorem am_ok_mono {n n' : Nat} (hn : n ≤ n') {v : Value} (h : am_ok n v) : am_ok n' v := by
  cases v <;> first | trivial | exact Nat.lt_of_lt_of_le h hn
theorem am_okE_mono {n n' : Nat} (hn : n ≤ n') {e : va_E} (h : am_okE n e) : am_okE n' e := by
  rcases e with ⟨t, len, f | f | f | f | f⟩ | ⟨c, fs⟩
  · trivial
  · trivial
  · trivial
  · trivial
  · exact fun j k hj => Nat.lt_of_lt_of_le (h j k hj) hn
  · exact fun v hv => am_ok_mono hn (h v hv)
theorem cV_congr {n : Nat} {ad ad' : Nat → Nat} (ha : ∀ k, k < n → ad' k = ad k) {v : Value} (h : am_ok n v) : cV ad' v = cV ad v := by
  cases v <;> first | rfl | exact congrArg Value.ref (ha _ h)
theorem cV_cat (ad : Nat → Nat) (v : Value) : (cV ad v).category = v.category := by cases v <;> rfl
theorem cE_congr {cy : Nat → ClassId} {n : Nat} {ad ad' : Nat → Nat} (ha : ∀ k, k < n → ad' k = ad k) {e : va_E} (h : am_okE n e) : cE cy ad' e = cE cy ad e := by
  rcases e with ⟨t, len, f | f | f | f | f⟩ | ⟨c, fs⟩
  · rfl
  · rfl
  · rfl
  · rfl
  · have : (fun j => (f j).map ad') = fun j => (f j).map ad := by
      funext j
      cases hj : f j with
      | none => rfl
      | some k => exact congrArg some (ha k (h j k hj))
    show (Sum.inl (cy t, len, Sum.inr (Sum.inr (Sum.inr (Sum.inr (fun j => (f j).map ad'))))) : va_E) = _
    rw [this]
    rfl
  · exact congrArg (fun l => (Sum.inr (c, l) : va_E)) (List.map_congr_left fun v hv => cV_congr ha (h v hv))
theorem wl_get {cy : Nat → ClassId} {ad : Nat → Nat} {h : Hp} {n a : Nat} (h2 : 2 ≤ a) (hn : a < n) : (wl cy ad h n)[a - 2]? = some (ad a, cE cy ad (h a)) := by
  have e : a - 2 + 2 = a := by omega
  unfold wl
  rw [List.getElem?_map, List.getElem?_range (by omega)]
  show some (ad (a - 2 + 2), cE cy ad (h (a - 2 + 2))) = _
  rw [e]
theorem wl_len (cy : Nat → ClassId) (ad : Nat → Nat) (h : Hp) (n : Nat) : (wl cy ad h n).length = n - 2 := by simp [wl]
theorem wl_set {cy : Nat → ClassId} {ad : Nat → Nat} {h : Hp} {n a : Nat} {e : va_E} (h2 : 2 ≤ a) (hn : a < n) : (wl cy ad h n).set (a - 2) (ad a, cE cy ad e) = wl cy ad (va_up h a e) n := by
  apply List.ext_getElem?
  intro i
  by_cases hi : i < n - 2
  · by_cases hia : a - 2 = i
    · subst hia
      rw [List.getElem?_set_self (by rw [wl_len]; exact hi), wl_get h2 hn]
      simp [va_up]
    · rw [List.getElem?_set_ne hia]
      unfold wl
      rw [List.getElem?_map, List.getElem?_map, List.getElem?_range hi]
      show some (ad (i + 2), cE cy ad (h (i + 2))) = some (ad (i + 2), cE cy ad (va_up h a e (i + 2)))
      have : i + 2 ≠ a := by omega
      simp [va_up, this]
  · rw [List.getElem?_eq_none (by rw [List.length_set, wl_len]; omega), List.getElem?_eq_none (by rw [wl_len]; omega)]
theorem wl_push {cy : Nat → ClassId} {ad : Nat → Nat} {h : Hp} {n q : Nat} {e e' : va_E} (h2 : 2 ≤ n) (hc : am_CL n h) (he : cE cy (va_up ad n q) e = e') : wl cy ad h n ++ [(q, e')] = wl cy (va_up ad n q) (va_up h n e) (n + 1) := by
  have hag : ∀ k, k < n → va_up ad n q k = ad k := fun k hk => by simp [va_up, Nat.ne_of_lt hk]
  apply List.ext_getElem?
  intro i
  by_cases hi : i < n - 2
  · rw [List.getElem?_append_left (by rw [wl_len]; exact hi)]
    unfold wl
    rw [List.getElem?_map, List.getElem?_map, List.getElem?_range hi, List.getElem?_range (by omega)]
    show some (ad (i + 2), cE cy ad (h (i + 2))) = some (va_up ad n q (i + 2), cE cy (va_up ad n q) (va_up h n e (i + 2)))
    have h3 : i + 2 < n := by omega
    rw [hag _ h3, show va_up h n e (i + 2) = h (i + 2) by simp [va_up, Nat.ne_of_lt h3], cE_congr hag (hc _ h3)]
  · rw [List.getElem?_append_right (by rw [wl_len]; omega), wl_len]
    by_cases hz : i = n - 2
    · subst hz
      rw [show n - 2 - (n - 2) = 0 by omega, wl_get (a := n) h2 (by omega)]
      simp [va_up, he]
    · rw [List.getElem?_eq_none (by simp; omega), List.getElem?_eq_none (by rw [wl_len]; omega)]
theorem wl_pre {cy : Nat → ClassId} {ad : Nat → Nat} {h : Hp} {n3 n1 k : Nat} {q : Nat × va_E} (hn : n3 ≤ n1) (g : (wl cy ad h n3)[k]? = some q) : (wl cy ad h n1)[k]? = some q := by
  have hk : k < n3 - 2 := by
    have := (List.getElem?_eq_some_iff.mp g).1
    rw [wl_len] at this
    exact this
  unfold wl at g ⊢
  rw [List.getElem?_map, List.getElem?_range hk] at g
  rw [List.getElem?_map, List.getElem?_range (by omega)]
  exact g
/-- the locals, place by place -/
theorem lk_mem {ls : List (Nat × Value)} {k : Nat} {v : Value} (h : lk ls k = some v) : (k, v) ∈ ls := by
  induction ls with
  | nil => cases h
  | cons q t ih =>
    obtain ⟨j, u⟩ := q
    unfold lk at h
    cases hb : Nat.beq j k with
    | true =>
      rw [hb] at h
      cases h
      have := Nat.eq_of_beq_eq_true hb
      subst this
      exact List.mem_cons_self
    | false =>
      rw [hb] at h
      exact List.mem_cons_of_mem _ (ih h)
theorem lk_has {la : Array Slot} {N : Nat} {ls : List (Nat × Value)} {ad : Nat → Nat} (hl : lv_has la N (ls.map (cvP ad))) {k : Nat} {v : Value} (h : lk ls k = some v) : la[k]? = some (.val (cV ad v)) := hl.2.2 (k, cV ad v) (List.mem_map.mpr ⟨(k, v), lk_mem h, rfl⟩)
theorem am_beq (a b : Nat) : (a == b) = Nat.beq a b := by
  rw [Bool.eq_iff_iff, beq_iff_eq, Nat.beq_eq]
theorem lrm_map (ad : Nat → Nat) (i : Nat) : ∀ ls : List (Nat × Value), (ls.map (cvP ad)).filter (fun q => !(q.1 == i) && !(q.1 + 1 == i && q.2.category == 2)) = (lrm ls i).map (cvP ad)
  | [] => rfl
  | (j, v) :: t => by
    have ih := lrm_map ad i t
    have e1 : (j == i) = Nat.beq j i := am_beq j i
    have e2 : (j + 1 == i) = Nat.beq (j + 1) i := am_beq _ _
    have e3 : ((cV ad v).category == 2) = Nat.beq v.category 2 := by rw [cV_cat]; exact am_beq _ _
    show List.filter _ ((j, cV ad v) :: t.map (cvP ad)) = (cond (Nat.beq j i || (Nat.beq (j + 1) i && Nat.beq v.category 2)) (lrm t i) ((j, v) :: lrm t i)).map (cvP ad)
    rw [List.filter_cons]
    show (if (!(j == i) && !(j + 1 == i && (cV ad v).category == 2)) = true then _ else _) = _
    rw [e1, e2, e3]
    cases Nat.beq j i <;> cases Nat.beq (j + 1) i <;> cases Nat.beq v.category 2 <;> first | exact congrArg (List.cons (j, cV ad v)) ih | exact ih
theorem lrm2_map (ad : Nat → Nat) (i : Nat) : ∀ ls : List (Nat × Value), (ls.map (cvP ad)).filter (fun q => !(q.1 == i) && (!(q.1 == i + 1) && !(q.1 + 1 == i && q.2.category == 2))) = (lrm2 ls i).map (cvP ad)
  | [] => rfl
  | (j, v) :: t => by
    have ih := lrm2_map ad i t
    have e1 : (j == i) = Nat.beq j i := am_beq j i
    have e4 : (j == i + 1) = Nat.beq j (i + 1) := am_beq _ _
    have e2 : (j + 1 == i) = Nat.beq (j + 1) i := am_beq _ _
    have e3 : ((cV ad v).category == 2) = Nat.beq v.category 2 := by rw [cV_cat]; exact am_beq _ _
    show List.filter _ ((j, cV ad v) :: t.map (cvP ad)) = (cond (Nat.beq j i || (Nat.beq j (i + 1) || (Nat.beq (j + 1) i && Nat.beq v.category 2))) (lrm2 t i) ((j, v) :: lrm2 t i)).map (cvP ad)
    rw [List.filter_cons]
    show (if (!(j == i) && (!(j == i + 1) && !(j + 1 == i && (cV ad v).category == 2))) = true then _ else _) = _
    rw [e1, e2, e3, e4]
    cases Nat.beq j i <;> cases Nat.beq j (i + 1) <;> cases Nat.beq (j + 1) i <;> cases Nat.beq v.category 2 <;> first | exact congrArg (List.cons (j, cV ad v)) ih | exact ih
theorem lrm_sub {i : Nat} : ∀ {ls : List (Nat × Value)} {q : Nat × Value}, q ∈ lrm ls i → q ∈ ls
  | [], q, h => by cases h
  | (j, v) :: t, q, h => by
    unfold lrm at h
    cases hb : (Nat.beq j i || (Nat.beq (j + 1) i && Nat.beq v.category 2)) with
    | true => rw [hb] at h; exact List.mem_cons_of_mem _ (lrm_sub h)
    | false =>
      rw [hb] at h
      rcases List.mem_cons.mp h with h | h
      · exact List.mem_cons.mpr (Or.inl h)
      · exact List.mem_cons_of_mem _ (lrm_sub h)
theorem lrm2_sub {i : Nat} : ∀ {ls : List (Nat × Value)} {q : Nat × Value}, q ∈ lrm2 ls i → q ∈ ls
  | [], q, h => by cases h
  | (j, v) :: t, q, h => by
    unfold lrm2 at h
    cases hb : (Nat.beq j i || (Nat.beq j (i + 1) || (Nat.beq (j + 1) i && Nat.beq v.category 2))) with
    | true => rw [hb] at h; exact List.mem_cons_of_mem _ (lrm2_sub h)
    | false =>
      rw [hb] at h
      rcases List.mem_cons.mp h with h | h
      · exact List.mem_cons.mpr (Or.inl h)
      · exact List.mem_cons_of_mem _ (lrm2_sub h)
theorem lsub_mem {ls : List (Nat × Value)} : ∀ {l1 : List (Nat × Value)}, lsub l1 ls → ∀ q ∈ l1, q ∈ ls
  | [], _, q, h => by cases h
  | (j, v) :: t, hs, q, h => by
    rcases List.mem_cons.mp h with h | h
    · rw [h]; exact lk_mem hs.1
    · exact lsub_mem hs.2 q h
theorem args_map (ad : Nat → Nat) : ∀ (vs : List Value) (i : Nat), lv_args i (vs.map (cV ad)) = (lv_args i vs).map (cvP ad)
  | [], _ => rfl
  | v :: vs, i => by
    show (i, cV ad v) :: lv_args (if (cV ad v).category = 2 then i + 2 else i + 1) (vs.map (cV ad)) = (i, cV ad v) :: (lv_args (if v.category = 2 then i + 2 else i + 1) vs).map (cvP ad)
    rw [cV_cat, args_map ad vs]
theorem args_mem : ∀ {vs : List Value} {i : Nat} {q : Nat × Value}, q ∈ lv_args i vs → q.2 ∈ vs
  | [], _, q, h => by cases h
  | v :: vs, i, q, h => by
    rcases List.mem_cons.mp h with h | h
    · rw [h]; exact List.mem_cons_self
    · exact List.mem_cons_of_mem _ (args_mem h)
/-- the machine's world outside -/
def am_Env (B0 b fw L : Nat) (xs : Nat → Int32) (U : State) : Prop :=
  va_X b L xs U U.heap ∧ b < B0 ∧ va_X fw 5 am_fw U U.heap ∧ fw < B0 ∧ va_Z "Glosspair" "FIRST_WEIGHTS" "[I" (.ref fw) (am_A B0) U U.heap ∧ vx_Zq Bundle.tN "UNASSIGNED_STACK" Bundle.steD (am_A B0) U U.heap ∧ vx_Zq Bundle.tN "SUPPRESSED_SENTINEL" Bundle.listD (am_A B0) U U.heap ∧ (∀ q ∈ am_strs, ∃ sa, vk_R q.1 q.2.1 q.2.2 sa U) ∧ (∀ q ∈ am_nests, va_Nw (.methodLinkNest q.1 q.2.1 q.2.2.1 q.2.2.2) U) ∧ va_Nw (.fieldLinkNest "Glosspair$Weights" 9 "Glosspair" "FIRST_WEIGHTS" "[I" "Glosspair") U ∧ (∀ q ∈ am_cas, va_Nw (.castable q.1 q.2) U) ∧ (∀ q ∈ am_ncs, va_Nc q.1 q.2 U) ∧ va_AO "Glosspair$SentencePair" U ∧ (∀ x ∈ am_decs, va_Nw (.declares x) U) ∧ (∃ scr : Cell, U.heap[fw]? = some scr ∧ U.vm.findClass "[I" = some scr.cls ∧ ∀ k, scr.vm ≠ .statics k) ∧ B0 ≤ U.heap.size
theorem am_Env.go {B0 b fw L : Nat} {xs : Nat → Int32} {s U : State} (h : am_Env B0 b fw L xs s) (hW : s.WarmedH U.vm) (hh : ∀ q, q < B0 → U.heap[q]? = s.heap[q]?) (hz : B0 ≤ U.heap.size) : am_Env B0 b fw L xs U := by
  obtain ⟨h1, h2, h3, h4, h5, h6, h7, h8, h9, h10, h11, h12, h14, h16, ⟨h15, f1, f2, f3⟩, h13⟩ := h
  have hk : ∀ a : Nat, a < s.heap.size → ¬ am_A B0 a → U.heap[a]? = s.heap[a]? := fun a _ ha => hh a (Nat.not_le.mp ha)
  exact ⟨(h1.moved hW.alike).kept (hh b h2), h2, (h3.moved hW.alike).kept (hh fw h4), h4, (va_Z.moved hW.alike h5).kept hk, (vx_Zq.moved hW.alike h6).kept hk, (vx_Zq.moved hW.alike h7).kept hk,
    fun q hq => (h8 q hq).imp fun sa hs => vk_R.warm hW hs, fun q hq => va_Nw.warmM hW (h9 q hq), va_Nw.warmF hW h10, fun q hq => va_Nw.warmC hW (h11 q hq), fun q hq => va_Nc.moved hW.alike (h12 q hq), va_AO.moved hW.alike h14, fun x hx => va_Nw.warmD hW (h16 x hx), ⟨h15, (hh fw h4).trans f1, (hW.alike.findClass _ _).trans f2, f3⟩, hz⟩
/-- the world behind, and what a method answers -/
def am_Wd (D : va_G) (cy : Nat → ClassId) (B0 : Nat) (ad : Nat → Nat) (n : Nat) (h : Hp) (U : State) : Prop := va_P D vwCl (wl cy ad h n) U.heap ∧ va_K D vwCl (am_tys cy) U ∧ va_D (am_A B0) (wl cy ad h n)
def am_Qr (D : va_G) (cy : Nat → ClassId) (B0 : Nat) (v : Option Value) (n' : Nat) (h' : Hp) (n0 : Nat) (ad0 : Nat → Nat) : Array Value → State → Outcome → State → Prop := fun _ st oc t =>
  (∃ ad' : Nat → Nat, (∀ k, k < n0 → ad' k = ad0 k) ∧ oc = .returned (v.map (cV ad')) ∧ am_Wd D cy B0 ad' n' h' t) ∧ va_F (am_A B0) st t
def am_Qx (D : va_G) (cy : Nat → ClassId) (B0 : Nat) (E : String) (n' : Nat) (h' : Hp) (n0 : Nat) (ad0 : Nat → Nat) : String → State → State → Prop := fun E' st t =>
  E' = E ∧ (∃ ad' : Nat → Nat, (∀ k, k < n0 → ad' k = ad0 k) ∧ am_Wd D cy B0 ad' n' h' t) ∧ va_F (am_A B0) st t
def am_No : Array Value → State → Outcome → State → Prop := fun _ _ _ _ => False
def am_Fin (D : va_G) (cy : Nat → ClassId) (B0 : Nat) (o : Out) (n0 : Nat) (ad0 : Nat → Nat) (below : List Frame) (args : Array Value) (s : State) (R : Room) : State → Prop := match o.1 with
  | .inl v => MQ below (am_Qr D cy B0 v o.2.1 o.2.2.1 n0 ad0) args s R.cells R.slots (am_A B0)
  | .inr E => vx_MQ below am_No (am_Qx D cy B0 E o.2.1 o.2.2.1 n0 ad0) args s R.cells R.slots (am_A B0)
/-- an abstract config is sound -/
def am_Ab (L : Nat) (xs : Nat → Int32) (n : Nat) (h : Hp) (ls : List (Nat × Value)) (st : List Value) : Prop := 2 ≤ n ∧ am_CL n h ∧ (∀ q ∈ ls, am_ok n q.2) ∧ (∀ v ∈ st, am_ok n v) ∧ h 0 = .inl (0, L, .inl xs) ∧ h 1 = .inl (0, 5, .inl am_fw)
def am_Oo (L : Nat) (xs : Nat → Int32) (n : Nat) (o : Out) : Prop := n ≤ o.2.1 ∧ am_CL o.2.1 o.2.2.1 ∧ o.2.2.1 0 = .inl (0, L, .inl xs) ∧ o.2.2.1 1 = .inl (0, 5, .inl am_fw) ∧ (∀ v, o.1 = .inl (some v) → am_ok o.2.1 v)
/-- what stays in a method's run, and what moves -/
def am_Fx (D : va_G) (cy : Nat → ClassId) (B0 b fw L : Nat) (xs : Nat → Int32) (d : Nat) (M : MI) (p : Program) (R : Room) (s : State) (m : MethodId) (args : Array Value) (meth : Method) (c : Code) : Prop :=
  p.tables.exec = Jvm.exec ∧ c.code = mB M ∧ meth.sig.returnType = mR M ∧ c.maxLocals = mL M ∧ s.vm.findClass (mC M) = some m.cls ∧ (∀ w ∈ am_ws, w.before args s = true) ∧ meth.locks = false ∧ ((mY M).name = "<init>" → meth.name = "<init>") ∧ c.exceptionTable.toList = tableOf (mH M) ∧ 12 + d ≤ R.frames ∧ 300 + 64 * d ≤ R.locals ∧ va_K D vwCl (am_tys cy) s ∧ am_Env B0 b fw L xs s
def am_Mv (D : va_G) (cy : Nat → ClassId) (B0 b fw : Nat) (M : MI) (n0 : Nat) (ad0 : Nat → Nat) (ls : List (Nat × Value)) (n : Nat) (h : Hp) (H : Heap) (locs : List Loc) (la : Array Slot) (ad : Nat → Nat) (s : State) : Prop :=
  va_P D vwCl (wl cy ad h n) H ∧ va_D (am_A B0) (wl cy ad h n) ∧ va_S (am_A B0) s.heap H locs ∧ (ad 0 = b ∧ ad 1 = fw) ∧ n0 ≤ n ∧ (∀ k, k < n0 → ad k = ad0 k) ∧ lv_has la (mL M) (ls.map (cvP ad))
def Snd (l : Launch) (D : va_G) (cy : Nat → ClassId) (B0 b fw L : Nat) (xs : Nat → Int32) : aPr := fun d M pc ls st n h o =>
  am_Ab L xs n h ls st → am_Oo L xs n o ∧ ∀ (p : Program) (e : Env) (R : Room) (s : State) (m : MethodId) (args : Array Value) (below : List Frame) (meth : Method) (c : Code) (n0 : Nat) (ad0 : Nat → Nat), am_Fx D cy B0 b fw L xs d M p R s m args meth c → ∀ (H : Heap) (locs : List Loc) (cells slots : Nat) (la : Array Slot) (ad : Nat → Nat), am_Mv D cy B0 b fw M n0 ad0 ls n h H locs la ad s → cells + o.2.2.2.1 ≤ R.cells → slots + o.2.2.2.2 ≤ R.slots → W p l e R s m args below meth c H locs cells slots (am_Fin D cy B0 o n0 ad0 below args s R) (F0 m pc la (st.map (cV ad)))
theorem am_Ab.push {L : Nat} {xs : Nat → Int32} {n : Nat} {h : Hp} {ls : List (Nat × Value)} {st : List Value} {v : Value} (a : am_Ab L xs n h ls st) (hv : am_ok n v) : am_Ab L xs n h ls (v :: st) :=
  ⟨a.1, a.2.1, a.2.2.1, fun u hu => (List.mem_cons.mp hu).elim (fun e => by rw [e]; exact hv) (a.2.2.2.1 u), a.2.2.2.2⟩
theorem am_Ab.pop {L : Nat} {xs : Nat → Int32} {n : Nat} {h : Hp} {ls : List (Nat × Value)} {st : List Value} {v : Value} (a : am_Ab L xs n h ls (v :: st)) : am_Ab L xs n h ls st :=
  ⟨a.1, a.2.1, a.2.2.1, fun u hu => a.2.2.2.1 u (List.mem_cons_of_mem _ hu), a.2.2.2.2⟩
theorem am_Ab.top {L : Nat} {xs : Nat → Int32} {n : Nat} {h : Hp} {ls : List (Nat × Value)} {st : List Value} {v : Value} (a : am_Ab L xs n h ls (v :: st)) : am_ok n v := a.2.2.2.1 v List.mem_cons_self
theorem am_Ab.drop {L : Nat} {xs : Nat → Int32} {n : Nat} {h : Hp} {ls : List (Nat × Value)} {s1 st : List Value} (a : am_Ab L xs n h ls (s1 ++ st)) : am_Ab L xs n h ls st :=
  ⟨a.1, a.2.1, a.2.2.1, fun u hu => a.2.2.2.1 u (List.mem_append_right _ hu), a.2.2.2.2⟩
theorem am_Ab.lks {L : Nat} {xs : Nat → Int32} {n : Nat} {h : Hp} {ls : List (Nat × Value)} {st : List Value} {k : Nat} {v : Value} (a : am_Ab L xs n h ls st) (hk : lk ls k = some v) : am_ok n v := a.2.2.1 _ (lk_mem hk)
theorem am_Ab.st1 {L : Nat} {xs : Nat → Int32} {n : Nat} {h : Hp} {ls : List (Nat × Value)} {st : List Value} {v : Value} (a : am_Ab L xs n h ls st) (k : Nat) (hv : am_ok n v) : am_Ab L xs n h (lst1 ls k v) st :=
  ⟨a.1, a.2.1, fun q hq => (List.mem_cons.mp hq).elim (fun e => by rw [e]; exact hv) (fun h => a.2.2.1 q (lrm_sub h)), a.2.2.2⟩
theorem am_Ab.st2 {L : Nat} {xs : Nat → Int32} {n : Nat} {h : Hp} {ls : List (Nat × Value)} {st : List Value} {v : Value} (a : am_Ab L xs n h ls st) (k : Nat) (hv : am_ok n v) : am_Ab L xs n h (lst2 ls k v) st :=
  ⟨a.1, a.2.1, fun q hq => (List.mem_cons.mp hq).elim (fun e => by rw [e]; exact hv) (fun h => a.2.2.1 q (lrm2_sub h)), a.2.2.2⟩
theorem am_ge2 {L : Nat} {xs : Nat → Int32} {n : Nat} {h : Hp} {ls : List (Nat × Value)} {st : List Value} {a ci : Nat} {fs : List Value} (ab : am_Ab L xs n h ls st) (g : h a = .inr (ci, fs)) : 2 ≤ a := by
  obtain ⟨-, -, -, -, h0, h1⟩ := ab
  rcases Nat.lt_or_ge a 2 with q | q
  · rcases (show a = 0 ∨ a = 1 by omega) with rfl | rfl
    · rw [h0] at g; cases g
    · rw [h1] at g; cases g
  · exact q
theorem am_ge2t {L : Nat} {xs : Nat → Int32} {n : Nat} {h : Hp} {ls : List (Nat × Value)} {st : List Value} {a t : Nat} {x : vp_A} (ab : am_Ab L xs n h ls st) (g : h a = .inl (t, x)) (ht : t ≠ 0) : 2 ≤ a := by
  obtain ⟨-, -, -, -, h0, h1⟩ := ab
  rcases Nat.lt_or_ge a 2 with q | q
  · rcases (show a = 0 ∨ a = 1 by omega) with rfl | rfl
    · rw [h0] at g; cases g; exact absurd rfl ht
    · rw [h1] at g; cases g; exact absurd rfl ht
  · exact q
theorem am_CL_up {n a : Nat} {h : Hp} {e : va_E} (hc : am_CL n h) (he : am_okE n e) : am_CL n (va_up h a e) := by
  intro k hk
  unfold va_up
  split
  · exact he
  · exact hc k hk
theorem am_CL_push {n : Nat} {h : Hp} {e : va_E} (hc : am_CL n h) (he : am_okE (n + 1) e) : am_CL (n + 1) (va_up h n e) := by
  intro k hk
  unfold va_up
  split
  · exact he
  · exact am_okE_mono (Nat.le_succ n) (hc k (by omega))
theorem am_Ab.up {L : Nat} {xs : Nat → Int32} {n a : Nat} {h : Hp} {ls : List (Nat × Value)} {st : List Value} {e : va_E} (ab : am_Ab L xs n h ls st) (h2 : 2 ≤ a) (he : am_okE n e) : am_Ab L xs n (va_up h a e) ls st :=
  ⟨ab.1, am_CL_up ab.2.1 he, ab.2.2.1, ab.2.2.2.1, by rw [show va_up h a e 0 = h 0 by unfold va_up; rw [if_neg (by omega)]]; exact ab.2.2.2.2.1, by rw [show va_up h a e 1 = h 1 by unfold va_up; rw [if_neg (by omega)]]; exact ab.2.2.2.2.2⟩
theorem am_Ab.new {L : Nat} {xs : Nat → Int32} {n : Nat} {h : Hp} {ls : List (Nat × Value)} {st : List Value} {e : va_E} (ab : am_Ab L xs n h ls st) (he : am_okE (n + 1) e) : am_Ab L xs (n + 1) (va_up h n e) ls st :=
  have h2 := ab.1
  ⟨by omega, am_CL_push ab.2.1 he, fun q hq => am_ok_mono (Nat.le_succ n) (ab.2.2.1 q hq), fun v hv => am_ok_mono (Nat.le_succ n) (ab.2.2.2.1 v hv), by rw [show va_up h n e 0 = h 0 by unfold va_up; rw [if_neg (by omega)]]; exact ab.2.2.2.2.1, by rw [show va_up h n e 1 = h 1 by unfold va_up; rw [if_neg (by omega)]]; exact ab.2.2.2.2.2⟩
theorem map_up {n q : Nat} {ad : Nat → Nat} {st : List Value} (hst : ∀ v ∈ st, am_ok n v) : st.map (cV (va_up ad n q)) = st.map (cV ad) :=
  List.map_congr_left fun v hv => cV_congr (n := n) (fun k hk => by simp [va_up, Nat.ne_of_lt hk]) (hst v hv)
theorem map_agree {n : Nat} {ad ad' : Nat → Nat} (ha : ∀ k, k < n → ad' k = ad k) {st : List Value} (hst : ∀ v ∈ st, am_ok n v) : st.map (cV ad') = st.map (cV ad) :=
  List.map_congr_left fun v hv => cV_congr ha (hst v hv)
theorem mapP_agree {n : Nat} {ad ad' : Nat → Nat} (ha : ∀ k, k < n → ad' k = ad k) {ls : List (Nat × Value)} (hls : ∀ q ∈ ls, am_ok n q.2) : ls.map (cvP ad') = ls.map (cvP ad) :=
  List.map_congr_left fun q hq => by unfold cvP; rw [cV_congr ha (hls q hq)]
