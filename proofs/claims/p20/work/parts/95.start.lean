/-! THE CLAIM OUT OF ONE WALK OF THE LAW'S BODY. Your part is whole_start (and what it stands on); all else here is the same for every law, but numbers. -/
def R_law : String := "GlosspairLaw"
def lw_P (b : Addr) (xs : List Int32) (args : Array Value) (s : State) : Prop := args = #[.ref b] ∧ s.IntsAt b xs ∧ xs.length ≤ 260 ∧ (Jvm.Cond.and given_1 narrow_1).before args s = true
def lw_Q (_ : Array Value) (s : State) (o : Outcome) (t : State) : Prop := o = .returned (some (.int 1)) ∧ Framed s o t [] 600130 7301080
def lw_Z (below : List Frame) (a : Array Value) (s : State) : State → Prop := fun t => ∃ o, t.status = .running ∧ Ended t below o ∧ lw_Q a s o t
/-- the law's own end, with 1 on the stack, nothing written that was there before, its room as the claim has it -/
theorem lw_ret {p : Program} {l : Launch} {e : Env} {s : State} {m : MethodId} {below : List Frame} {meth : Method} {c : Code} {b : Nat} (hx : p.tables.exec = Jvm.exec) (hb : c.code = code) (hr : meth.sig.returnType = ret) (hlocks : meth.locks = false) {pc : Nat} {H : Heap} {ls : Array Slot} (hdg : decode code pc = .ok (.ireturn, 1)) : W p l e room_1 s m #[Value.ref b] below meth c H [] 600130 7301080 (lw_Z below #[Value.ref b] s) (F0 m pc ls [.int 1]) := by
  intro T hT X
  obtain ⟨fs, hret, hrun, hended, hW, hframe⟩ := X.leave (v := some (.int 1)) (hlocks := hlocks) (fun h => by rw [hr] at h; cases h)
  have hmeth' : T.vm.method? m = some meth := X.method'
  refine ⟨T.setFrames fs, ?_, .returned (some (.int 1)), hrun, hended, rfl, ⟨_, rfl⟩, hW, hframe⟩
  jvm_step X.here [X.here.top, hx, hb, hdg, hmeth', hr, ret, narrow_b1]
  (try refine ⟨rfl, ?_⟩); (try refine ⟨rfl, ?_⟩)
  first | (intro acts; rw [hret _ acts rfl rfl rfl]) | rw [hret _ _ rfl rfl rfl]
  exact Steps.refl _
/-- what holds at the law's entry: the machine, the code, the tables' words (any of lw_tbl by 'hts w (by decide +kernel)'), the script of L ints xs at the cell b, what the Statement gives of the start (any of its parts by flat_of_before) -/
def lw_At (p : Program) (s : State) (m : MethodId) (meth : Method) (c : Code) (b L : Nat) (xs : Nat → Int32) : Prop :=
  p.tables.exec = Jvm.exec ∧ c.code = code ∧ meth.sig.returnType = ret ∧ c.maxLocals = 8 ∧ s.vm.findClass R_law = some m.cls ∧ (∀ w ∈ lw_tbl, w.before #[Value.ref b] s = true) ∧ va_X b L xs s s.heap ∧ b < s.heap.size ∧ meth.locks = false ∧ (Jvm.Cond.and given_1 narrow_1).before #[Value.ref b] s = true ∧ c.exceptionTable.toList = []
theorem am_eqi {args : Array Value} {s : State} {t : Term} {z : Int32} (h : (Cond.eq t (.int z)).before args s = true) : t.eval args s none [] s = some (.int z) := by
  cases hv : t.eval args s none [] s with
  | none => simp [Cond.before, Cond.holds, Cond.value, hv] at h
  | some w =>
    have hz : (Term.int z).eval args s none [] s = some (.int z) := rfl
    simp only [Cond.before, Cond.holds, Cond.value, hv, hz] at h
    cases w <;> simp_all
theorem am_len {args : Array Value} {s : State} {t : Term} {z : Nat} (hz : z < 2 ^ 31) (h : (Term.length t).eval args s none [] s = some (.int (Int32.ofNat z))) : ∃ (a : Addr) (cell : Cell), t.eval args s none [] s = some (.ref a) ∧ s.arrayAt? a = some cell ∧ cell.slots.size = z := by
  obtain ⟨a, cell, ht, harr, hv⟩ := Term.length_spec h
  have hsz : cell.slots.size < 2 ^ 31 := by
    simp only [Term.eval, ht, harr, Option.bind_eq_bind, Option.bind_some] at h
    by_cases hlt : cell.slots.size < 2147483648
    · exact hlt
    · simp [hlt] at h
  refine ⟨a, cell, ht, harr, ?_⟩
  have h9 : Int32.ofNat z = cell.slots.size.toInt32 := Value.int.inj hv
  have h8 : (Int32.ofNat z).toInt = (Int32.ofNat cell.slots.size).toInt := congrArg Int32.toInt h9
  have e1 := nI_toInt hz
  have e2 := nI_toInt hsz
  unfold nI at e1 e2
  omega
theorem am_wAt {args : Array Value} {s : State} (hts : ∀ w ∈ lw_tbl, w.before args s = true) {w : Cond} (i : Nat) (h : lw_tbl[i]? = some w) : w.before args s = true := hts w (List.mem_of_getElem? h)
theorem am_allw {args : Array Value} {s : State} (hts : ∀ w ∈ lw_tbl, w.before args s = true) {ws : List Cond} (is : List Nat) (h : ws = is.filterMap (fun i => lw_tbl[i]?)) : ∀ w ∈ ws, w.before args s = true := by
  intro w hw
  rw [h] at hw
  obtain ⟨i, -, hi⟩ := List.mem_filterMap.mp hw
  exact hts w (List.mem_of_getElem? hi)
theorem am_start {args : Array Value} {s : State} {b L : Nat} {xs : Nat → Int32} (hts : ∀ w ∈ lw_tbl, w.before args s = true) (hgv : (Jvm.Cond.and given_1 narrow_1).before args s = true) (hX : va_X b L xs s s.heap) (hb : b < s.heap.size) : ∃ (D : va_G) (cy : Nat → ClassId) (fw : Nat), am_Env s.heap.size b fw L xs s ∧ va_K D vwCl (am_tys cy) s := by
  have hs := flat_of_before _ hgv
  have hA : ∀ a : Nat, a < s.heap.size → ¬ am_A s.heap.size a := fun a h => Nat.not_le.mpr h
  -- the classes
  have H : ∀ c : Nat, ∃ (x : ClassId × (Nat → Nat)), ∀ q : vw_C, vwCl[c]? = some q → u_Kn s q.1 q.2.1 q.2.2 x.1 x.2 := by
    intro c
    match c with
    | 0 =>
      obtain ⟨cC, iS, h⟩ := u_known (C := RX0) (T := TX0) (N := 5) (n := 5) (ws := am_ws) (fun w hw => hts w (List.mem_filter.mp hw).1) am_k0 (am_wAt hts 135 (by decide +kernel))
      exact ⟨(cC, iS), fun q hq => by cases hq; exact h⟩
    | 1 =>
      obtain ⟨cC, iS, h⟩ := u_known (C := RX1) (T := TX1) (N := 3) (n := 3) (ws := am_ws) (fun w hw => hts w (List.mem_filter.mp hw).1) am_k1 (am_wAt hts 58 (by decide +kernel))
      exact ⟨(cC, iS), fun q hq => by cases hq; exact h⟩
    | 2 =>
      obtain ⟨cC, iS, h⟩ := u_known (C := RX2) (T := TX2) (N := 5) (n := 5) (ws := am_ws) (fun w hw => hts w (List.mem_filter.mp hw).1) am_k2 (am_wAt hts 82 (by decide +kernel))
      exact ⟨(cC, iS), fun q hq => by cases hq; exact h⟩
    | 3 =>
      obtain ⟨cC, iS, h⟩ := u_known (C := RX3) (T := TX3) (N := 3) (n := 3) (ws := am_ws) (fun w hw => hts w (List.mem_filter.mp hw).1) am_k3 (am_wAt hts 170 (by decide +kernel))
      exact ⟨(cC, iS), fun q hq => by cases hq; exact h⟩
    | 4 =>
      obtain ⟨cC, iS, h⟩ := u_known (C := RX4) (T := TX4) (N := 3) (n := 3) (ws := am_ws) (fun w hw => hts w (List.mem_filter.mp hw).1) am_k4 (am_wAt hts 76 (by decide +kernel))
      exact ⟨(cC, iS), fun q hq => by cases hq; exact h⟩
    | 5 =>
      obtain ⟨cC, iS, h⟩ := u_known (C := RX5) (T := TX5) (N := 2) (n := 2) (ws := am_ws) (fun w hw => hts w (List.mem_filter.mp hw).1) am_k5 (am_wAt hts 157 (by decide +kernel))
      exact ⟨(cC, iS), fun q hq => by cases hq; exact h⟩
    | 6 =>
      obtain ⟨cC, iS, h⟩ := u_known (C := RX6) (T := TX6) (N := 2) (n := 2) (ws := am_ws) (fun w hw => hts w (List.mem_filter.mp hw).1) am_k6 (am_wAt hts 192 (by decide +kernel))
      exact ⟨(cC, iS), fun q hq => by cases hq; exact h⟩
    | 7 =>
      obtain ⟨cC, iS, h⟩ := u_known (C := RX7) (T := TX7) (N := 3) (n := 3) (ws := am_ws) (fun w hw => hts w (List.mem_filter.mp hw).1) am_k7 (am_wAt hts 186 (by decide +kernel))
      exact ⟨(cC, iS), fun q hq => by cases hq; exact h⟩
    | 8 =>
      obtain ⟨cC, iS, h⟩ := u_known (C := RX8) (T := TX8) (N := 1) (n := 1) (ws := am_ws) (fun w hw => hts w (List.mem_filter.mp hw).1) am_k8 (am_wAt hts 106 (by decide +kernel))
      exact ⟨(cC, iS), fun q hq => by cases hq; exact h⟩
    | 9 =>
      obtain ⟨cC, iS, h⟩ := u_known (C := RX9) (T := TX9) (N := 6) (n := 6) (ws := am_ws) (fun w hw => hts w (List.mem_filter.mp hw).1) am_k9 (am_wAt hts 50 (by decide +kernel))
      exact ⟨(cC, iS), fun q hq => by cases hq; exact h⟩
    | k + 10 => exact ⟨(0, fun _ => 0), fun q hq => by simp [vwCl] at hq⟩
  -- the arrays' classes
  obtain ⟨c0, k0, m0, i0, i1, i2⟩ := Cond.arrayClass_spec (am_wAt hts 103 (w := .arrayClass .int) (by decide +kernel))
  obtain ⟨c1, k1, m1, j0, j1, j2⟩ := Cond.arrayClass_spec (am_wAt hts 104 (w := .arrayClass .long) (by decide +kernel))
  have hover := am_wAt hts 64 (w := .arrayOver (.object "Glosspair$SentencePair")) (by decide +kernel)
  obtain ⟨m3, c3, k3, n0, n1, n2, n3, n4⟩ := Cond.arrayOver_spec hover
  -- the first weights
  have hlen := am_eqi (hs (.eq (.length (.static "Glosspair" "FIRST_WEIGHTS" "[I")) (.int 5)) (by decide +kernel))
  obtain ⟨fw, scr, f1, f2, f3⟩ := am_len (z := 5) (by omega) hlen
  obtain ⟨f4, f5, f6, -⟩ := State.arrayAt?_spec f2
  obtain ⟨f7, -⟩ := Cond.arrayOf_spec (hs (.arrayOf (.static "Glosspair" "FIRST_WEIGHTS" "[I") .int) (by decide +kernel)) f1 f4
  have hel : ∀ j : Nat, j < 5 → scr.slots[j]? = some (.int (am_fw j)) := by
    intro j hj
    have key : ∀ (z v : Int32), (Term.elem (.static "Glosspair" "FIRST_WEIGHTS" "[I") (.int z)).eval args s none [] s = some (.int v) → scr.slots[z.toNatClampNeg]? = some (.int v) := by
      intro z v hz
      obtain ⟨a, i, cell2, h1, h2, h3, h4, h5⟩ := Term.elem_spec hz
      cases f1.symm.trans h1
      cases f2.symm.trans h3
      cases h2
      exact h5
    rcases (show j = 0 ∨ j = 1 ∨ j = 2 ∨ j = 3 ∨ j = 4 by omega) with rfl | rfl | rfl | rfl | rfl
    · exact key 0 4 (am_eqi (hs _ (by decide +kernel)))
    · exact key 1 3 (am_eqi (hs _ (by decide +kernel)))
    · exact key 2 2 (am_eqi (hs _ (by decide +kernel)))
    · exact key 3 1 (am_eqi (hs _ (by decide +kernel)))
    · exact key 4 1 (am_eqi (hs _ (by decide +kernel)))
  have hfl : fw < s.heap.size := (Array.getElem?_eq_some_iff.mp f4).1
  have hZ := va_Zof (A := am_A s.heap.size) (am_wAt hts 112 (by decide +kernel)) (am_wAt hts 30 (by decide +kernel)) f1 hA
  have hcls : s.vm.findClass "[I" = some scr.cls := by
    obtain ⟨a9, c9, cell9, k9, g1, g2, g3, -, -, g4, -⟩ := Cond.exactly_spec (hs (.exactly (.static "Glosspair" "FIRST_WEIGHTS" "[I") "[I") (by decide +kernel))
    cases f1.symm.trans g1
    cases f4.symm.trans g3
    rw [g4]
    exact g2
  have hT1 := vx_Zqof (A := am_A s.heap.size) (C := Bundle.tN) (n := "UNASSIGNED_STACK") (d := Bundle.steD) (am_wAt hts 290 (by decide +kernel)) (am_wAt hts 40 (by decide +kernel)) (hs _ (by decide +kernel)) hA
  have hT2 := vx_Zqof (A := am_A s.heap.size) (C := Bundle.tN) (n := "SUPPRESSED_SENTINEL") (d := Bundle.listD) (am_wAt hts 292 (by decide +kernel)) (am_wAt hts 40 (by decide +kernel)) (hs _ (by decide +kernel)) hA
  have hstr : ∀ q ∈ am_strs, ∃ sa, vk_R q.1 q.2.1 q.2.2 sa s := by
    have h1 : ∀ w ∈ am_strs.map (fun q => Cond.stringRef q.1 q.2.1 q.2.2), w.before args s = true := am_allw hts [304, 366, 375, 417, 489, 503, 526, 531, 558, 660, 670, 748, 798, 799, 814, 815] (by decide +kernel)
    have h2 : (am_strs.map (fun q => Cond.exactly (.string q.1 q.2.1) "java/lang/String")).all (fun w => decide (w ∈ flatC (Jvm.Cond.and given_1 narrow_1))) = true := by decide +kernel
    intro q hq
    have h3 := hs _ (of_decide_eq_true (List.all_eq_true.mp h2 _ (List.mem_map.mpr ⟨q, hq, rfl⟩)))
    obtain ⟨a9, c9, cell9, k9, g1, -⟩ := Cond.exactly_spec h3
    exact ⟨a9, vk_R.of (h1 _ (List.mem_map.mpr ⟨q, hq, rfl⟩)) g1⟩
  have hnest : ∀ q ∈ am_nests, va_Nw (.methodLinkNest q.1 q.2.1 q.2.2.1 q.2.2.2) s := by
    have h1 : ∀ w ∈ am_nests.map (fun q => Cond.methodLinkNest q.1 q.2.1 q.2.2.1 q.2.2.2), w.before args s = true := am_allw hts [59, 77, 107, 136, 158, 171, 187, 193, 725] (by decide +kernel)
    exact fun q hq => va_Nw.of rfl (h1 _ (List.mem_map.mpr ⟨q, hq, rfl⟩))
  have hcas : ∀ q ∈ am_cas, va_Nw (.castable q.1 q.2) s := by
    have h1 : ∀ w ∈ am_cas.map (fun q => Cond.castable q.1 q.2), w.before args s = true := am_allw hts [265, 496, 663, 118] (by decide +kernel)
    exact fun q hq => va_Nw.of rfl (h1 _ (List.mem_map.mpr ⟨q, hq, rfl⟩))
  have hdec : ∀ x ∈ am_decs, va_Nw (.declares x) s := by
    have h1 : ∀ w ∈ am_decs.map Cond.declares, w.before args s = true := am_allw hts [266, 267, 268, 269, 270, 271] (by decide +kernel)
    exact fun x hx => va_Nw.of rfl (h1 _ (List.mem_map.mpr ⟨x, hx, rfl⟩))
  have hnc : ∀ q ∈ am_ncs, va_Nc q.1 q.2 s := by
    have h2 : (am_ncs.map (fun q => Cond.not (.castable q.1 q.2))).all (fun w => decide (w ∈ flatC (Jvm.Cond.and given_1 narrow_1))) = true := by decide +kernel
    exact fun q hq => va_Nc.of (hs _ (of_decide_eq_true (List.all_eq_true.mp h2 _ (List.mem_map.mpr ⟨q, hq, rfl⟩))))
  refine ⟨(fun c => (Classical.choose (H c)).1, fun c => (Classical.choose (H c)).2), fun t => if t = 0 then c0 else if t = 1 then c1 else if t = 2 then c0 else c3, fw, ⟨hX, hb, ⟨scr, f4, f7, f5, f3, hel⟩, hfl, hZ, hT1, hT2, hstr, hnest, va_Nw.of rfl (am_wAt hts 111 (by decide +kernel)), hcas, hnc, va_AO.of hover, hdec, ⟨scr, f4, hcls, fun k h => by rw [h] at f6; cases f6⟩, Nat.le_refl _⟩, fun c q hq => Classical.choose_spec (H c) q hq, fun k q hq => ?_⟩
  match k, hq with
  | 0, hq => cases hq; exact ⟨fun n z => ⟨fun k h => (by cases h), k0, i1, m0, i2⟩, i0⟩
  | 1, hq => cases hq; exact ⟨fun n z => ⟨fun k h => (by cases h), k1, j1, m1, j2⟩, j0⟩
  | 2, hq => cases hq; exact ⟨fun n z => ⟨fun k h => (by cases h), k0, i1, m0, i2⟩, i0⟩
  | 3, hq => cases hq; exact ⟨fun n z => ⟨fun k h => (by cases h), k3, n2, m3, n3⟩, k3, m3, n2, n3, n0, n4⟩
  | k + 4, hq => simp [am_tys] at hq
def am_h0 (L : Nat) (xs : Nat → Int32) : Hp := fun a => if a = 0 then .inl (0, L, .inl xs) else if a = 1 then .inl (0, 5, .inl am_fw) else .inr (0, [])
theorem am_noloc {s : State} {o : Outcome} {t : State} {LL : List Loc} {mc ms : Nat} (h : FrameEnd s o t LL mc ms) (hL : ∀ q ∈ LL, am_A s.heap.size q.base) : Framed s o t [] mc ms := by
  obtain ⟨h1, h2, e1, e2, e3, e4, e5, e6⟩ := h
  refine ⟨h1, h2, e1, e2, e3, e4, e5, fun a c hc => ?_⟩
  obtain ⟨c', g1, g2, g3, g4⟩ := e6 a c hc
  refine ⟨c', g1, g2, g3, fun i _ => g4 i (fun hm => ?_)⟩
  have := hL _ hm
  have h9 : a < s.heap.size := (Array.getElem?_eq_some_iff.mp hc).1
  exact absurd this (Nat.not_le.mpr h9)
