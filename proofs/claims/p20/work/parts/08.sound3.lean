/-! SOUNDNESS, third part: the heap, calls, ends -/
theorem am_k0 : ∀ w ∈ u_ws RX0 TX0 5, w ∈ am_ws := by
  intro w hw
  obtain ⟨k, hk, rfl⟩ := List.mem_map.mp hw
  have hk := List.mem_range.mp hk
  rcases (show k = 0 ∨ k = 1 ∨ k = 2 ∨ k = 3 ∨ k = 4 by omega) with rfl | rfl | rfl | rfl | rfl
  · exact am_in 145 (by decide +kernel) rfl
  · exact am_in 147 (by decide +kernel) rfl
  · exact am_in 149 (by decide +kernel) rfl
  · exact am_in 151 (by decide +kernel) rfl
  · exact am_in 153 (by decide +kernel) rfl
theorem am_k1 : ∀ w ∈ u_ws RX1 TX1 3, w ∈ am_ws := by
  intro w hw
  obtain ⟨k, hk, rfl⟩ := List.mem_map.mp hw
  have hk := List.mem_range.mp hk
  rcases (show k = 0 ∨ k = 1 ∨ k = 2 by omega) with rfl | rfl | rfl
  · exact am_in 68 (by decide +kernel) rfl
  · exact am_in 70 (by decide +kernel) rfl
  · exact am_in 72 (by decide +kernel) rfl
theorem am_k2 : ∀ w ∈ u_ws RX2 TX2 5, w ∈ am_ws := by
  intro w hw
  obtain ⟨k, hk, rfl⟩ := List.mem_map.mp hw
  have hk := List.mem_range.mp hk
  rcases (show k = 0 ∨ k = 1 ∨ k = 2 ∨ k = 3 ∨ k = 4 by omega) with rfl | rfl | rfl | rfl | rfl
  · exact am_in 92 (by decide +kernel) rfl
  · exact am_in 94 (by decide +kernel) rfl
  · exact am_in 96 (by decide +kernel) rfl
  · exact am_in 98 (by decide +kernel) rfl
  · exact am_in 100 (by decide +kernel) rfl
theorem am_k3 : ∀ w ∈ u_ws RX3 TX3 3, w ∈ am_ws := by
  intro w hw
  obtain ⟨k, hk, rfl⟩ := List.mem_map.mp hw
  have hk := List.mem_range.mp hk
  rcases (show k = 0 ∨ k = 1 ∨ k = 2 by omega) with rfl | rfl | rfl
  · exact am_in 178 (by decide +kernel) rfl
  · exact am_in 180 (by decide +kernel) rfl
  · exact am_in 182 (by decide +kernel) rfl
theorem am_k4 : ∀ w ∈ u_ws RX4 TX4 3, w ∈ am_ws := by
  intro w hw
  obtain ⟨k, hk, rfl⟩ := List.mem_map.mp hw
  have hk := List.mem_range.mp hk
  rcases (show k = 0 ∨ k = 1 ∨ k = 2 by omega) with rfl | rfl | rfl
  · exact am_in 127 (by decide +kernel) rfl
  · exact am_in 129 (by decide +kernel) rfl
  · exact am_in 131 (by decide +kernel) rfl
theorem am_k5 : ∀ w ∈ u_ws RX5 TX5 2, w ∈ am_ws := by
  intro w hw
  obtain ⟨k, hk, rfl⟩ := List.mem_map.mp hw
  have hk := List.mem_range.mp hk
  rcases (show k = 0 ∨ k = 1 by omega) with rfl | rfl
  · exact am_in 164 (by decide +kernel) rfl
  · exact am_in 166 (by decide +kernel) rfl
theorem am_k6 : ∀ w ∈ u_ws RX6 TX6 2, w ∈ am_ws := by
  intro w hw
  obtain ⟨k, hk, rfl⟩ := List.mem_map.mp hw
  have hk := List.mem_range.mp hk
  rcases (show k = 0 ∨ k = 1 by omega) with rfl | rfl
  · exact am_in 199 (by decide +kernel) rfl
  · exact am_in 201 (by decide +kernel) rfl
theorem am_k7 : ∀ w ∈ u_ws RX7 TX7 3, w ∈ am_ws := by
  intro w hw
  obtain ⟨k, hk, rfl⟩ := List.mem_map.mp hw
  have hk := List.mem_range.mp hk
  rcases (show k = 0 ∨ k = 1 ∨ k = 2 by omega) with rfl | rfl | rfl
  · exact am_in 207 (by decide +kernel) rfl
  · exact am_in 209 (by decide +kernel) rfl
  · exact am_in 211 (by decide +kernel) rfl
theorem am_k8 : ∀ w ∈ u_ws RX8 TX8 1, w ∈ am_ws := by
  intro w hw
  obtain ⟨k, hk, rfl⟩ := List.mem_map.mp hw
  have hk := List.mem_range.mp hk
  rcases (show k = 0 by omega) with rfl
  · exact am_in 121 (by decide +kernel) rfl
theorem am_k9 : ∀ w ∈ u_ws RX9 TX9 6, w ∈ am_ws := by
  intro w hw
  obtain ⟨k, hk, rfl⟩ := List.mem_map.mp hw
  have hk := List.mem_range.mp hk
  rcases (show k = 0 ∨ k = 1 ∨ k = 2 ∨ k = 3 ∨ k = 4 ∨ k = 5 by omega) with rfl | rfl | rfl | rfl | rfl | rfl
  · exact am_in 220 (by decide +kernel) rfl
  · exact am_in 222 (by decide +kernel) rfl
  · exact am_in 224 (by decide +kernel) rfl
  · exact am_in 226 (by decide +kernel) rfl
  · exact am_in 228 (by decide +kernel) rfl
  · exact am_in 230 (by decide +kernel) rfl
theorem am_cls : ∀ (ci : Nat) (q : vw_C), vwCl[ci]? = some q → (∀ w ∈ u_ws q.1 q.2.1 q.2.2, w ∈ am_ws) ∧ (∃ ty0 : Nat → FieldType, ∀ k, k < q.2.2 → parseFieldDescriptor (q.2.1 k).2.2.1 = some (ty0 k)) ∧ (∀ a, a < q.2.2 → ∀ b, b < q.2.2 → a ≠ b → (q.2.1 a).2.1 ≠ (q.2.1 b).2.1) := by
  intro ci q h
  match ci, h with
  | 0, h => cases h; exact ⟨am_k0, ⟨tyX0, tyX0_ok⟩, nmX0⟩
  | 1, h => cases h; exact ⟨am_k1, ⟨tyX1, tyX1_ok⟩, nmX1⟩
  | 2, h => cases h; exact ⟨am_k2, ⟨tyX2, tyX2_ok⟩, nmX2⟩
  | 3, h => cases h; exact ⟨am_k3, ⟨tyX3, tyX3_ok⟩, nmX3⟩
  | 4, h => cases h; exact ⟨am_k4, ⟨tyX4, tyX4_ok⟩, nmX4⟩
  | 5, h => cases h; exact ⟨am_k5, ⟨tyX5, tyX5_ok⟩, nmX5⟩
  | 6, h => cases h; exact ⟨am_k6, ⟨tyX6, tyX6_ok⟩, nmX6⟩
  | 7, h => cases h; exact ⟨am_k7, ⟨tyX7, tyX7_ok⟩, nmX7⟩
  | 8, h => cases h; exact ⟨am_k8, ⟨tyX8, tyX8_ok⟩, nmX8⟩
  | 9, h => cases h; exact ⟨am_k9, ⟨tyX9, tyX9_ok⟩, nmX9⟩
  | k + 10, h => simp [vwCl] at h
section SND
variable {l : Launch} {D : va_G} {cy : Nat → ClassId} {B0 b fw L : Nat} {xs : Nat → Int32}
theorem am_Oo.less {n n2 k1 q1 k q : Nat} {r : Option Value ⊕ String} {h2 : Hp} (a : am_Oo L xs (n + 1) (r, n2, h2, k1, q1)) : am_Oo L xs n (r, n2, h2, k, q) := ⟨Nat.le_of_succ_le a.1, a.2⟩
theorem am_good {w : Cond} (h : w ∈ am_ws) : (w.onTables && w.keeps) = true ∨ ∃ ty, w = .arrayClass ty := good_of_word (List.mem_filter.mp h).2
theorem am_code0 {M : MI} (hh : mH M = []) : am_code M = .code (mY M) (mB M) (mL M) (mR M) := by unfold am_code; rw [hh]
theorem am_codeT {M : MI} (hh : mH M ≠ []) : am_code M = .codeWith (mY M) (mB M) (mL M) (mR M) (mH M) := by
  unfold am_code
  split
  · next h => exact absurd h hh
  · rfl
theorem am_goodIn {M : MI} {w : Cond} (hc : w ∈ am_ws) : GoodIn am_ws (w :: am_ws) := by
  intro v hv
  rcases List.mem_cons.mp hv with h | h
  · rw [h]; exact ⟨hc, am_good hc⟩
  · exact ⟨h, am_good h⟩
/-- a method's start -/
def am_Pre (D : va_G) (cy : Nat → ClassId) (B0 b fw L : Nat) (xs : Nat → Int32) (ad : Nat → Nat) (n : Nat) (h : Hp) (U : State) : Prop := am_Wd D cy B0 ad n h U ∧ am_Env B0 b fw L xs U ∧ ad 0 = b ∧ ad 1 = fw
def am_rm (d k q : Nat) : Room := { frames := 12 + d, cells := k, slots := q, locals := 300 + 64 * d }
theorem am_slen : ∀ (vs : List Value), (lg_sl vs).length = csum vs
  | [] => rfl
  | v :: vs => by
    have ih := am_slen vs
    unfold lg_sl csum at *
    rw [List.flatMap_cons, List.length_append, ih, List.map_cons, List.sum_cons]
    rcases lv_cat v with h | h <;> simp [h]
theorem am_csum (ad : Nat → Nat) (vs : List Value) : csum (vs.map (cV ad)) = csum vs := by
  unfold csum
  rw [List.map_map, show (fun v : Value => v.category) ∘ cV ad = fun v => v.category from funext (cV_cat ad)]
theorem am_blind {ad : Nat → Nat} {n : Nat} {h : Hp} {vs : List Value} : FrameBlind (va_Pc vs (am_Pre D cy B0 b fw L xs ad n h)) := by
  intro a U g mk hq
  obtain ⟨q0, ⟨qP, qK, qD⟩, qE, q1⟩ := hq
  exact ⟨q0, ⟨qP, va_K.moved (u := U) (U := U.calling g mk a) (Vm.Alike.refl U.vm) qK, qD⟩, qE.go (U := U.calling g mk a) (State.WarmedH.refl U) (fun _ _ => rfl) qE.2.2.2.2.2.2.2.2.2.2.2.2.2.2.2, q1⟩
theorem am_onU {ad : Nat → Nat} {n : Nat} {h : Hp} {s U : State} {H : Heap} {locs : List Loc} (hP : va_P D vwCl (wl cy ad h n) H) (hK : va_K D vwCl (am_tys cy) s) (hD : va_D (am_A B0) (wl cy ad h n)) (hS : va_S (am_A B0) s.heap H locs) (hE : am_Env B0 b fw L xs s) (hb : ad 0 = b ∧ ad 1 = fw) (hU : U.heap = H) (hW : s.WarmedH U.vm) : am_Pre D cy B0 b fw L xs ad n h U := by
  have hz := hE.2.2.2.2.2.2.2.2.2.2.2.2.2.2.2
  refine ⟨⟨by rw [hU]; exact hP, va_K.moved hW.alike hK, hD⟩, hE.go hW (fun q hq => ?_) ?_, hb⟩
  · rw [hU]
    exact hS.2.1 q (Nat.lt_of_lt_of_le hq hz) (Nat.not_le.mpr hq)
  · rw [hU]
    exact Nat.le_trans hz hS.1
/-- the contract of a run that returns -/
theorem am_met {d : Nat} {M : MI} {vs : List Value} {n : Nat} {h : Hp} {v : Option Value} {n1 : Nat} {h1 : Hp} {k1 q1 : Nat} (S : Snd l D cy B0 b fw L xs d M 0 (lv_args 0 vs) [] n h (.inl v, n1, h1, k1, q1)) (ab : am_Ab L xs n h (lv_args 0 vs) []) (ok : am_OK M) (hh : mH M = []) (hm : csum vs ≤ mL M) (ad : Nat → Nat) :
    Met l (mY M) (Cond.code (mY M) (mB M) (mL M) (mR M) :: am_ws) (am_rm d k1 q1) (va_Pc (vs.map (cV ad)) (am_Pre D cy B0 b fw L xs ad n h)) (am_Qr D cy B0 v n1 h1 n ad) k1 q1 (am_A B0) := by
  refine Met.ofW (cc := mB M) (maxL := mL M) (ret := mR M) ok.1 rfl ?_
  intro p e s m args below meth c s₁ B hml hv
  obtain ⟨rfl, ⟨hP, hK, hD⟩, hE, hb⟩ := hv
  have hts := atoms_spec (ws := Cond.code (mY M) (mB M) (mL M) (mR M) :: am_ws) B.pre
  have hown : s.vm.findClass (mY M).cls = some m.cls := findClass_of_methodNamed B.named
  have ht : c.exceptionTable.toList = tableOf (mH M) := by
    obtain ⟨meth9, c9, e1, e2, -, -, -, -, e7, -⟩ := Cond.code_spec B.named (hts _ List.mem_cons_self)
    cases Option.some.inj (e1.symm.trans B.method)
    cases Option.some.inj (e2.symm.trans (Stand.of_body B).code)
    rw [Array.isEmpty_iff.mp e7, hh]
    rfl
  have hl := lv_entry (vs.map (cV ad)) (n := mL M) (by rw [am_slen, am_csum]; exact hm)
  rw [args_map] at hl
  rw [lg_entry_eq]
  generalize (lg_sl (vs.map (cV ad)) ++ List.replicate (mL M - (lg_sl (vs.map (cV ad))).length) Slot.unset).toArray = la at hl ⊢
  exact (S ab).2 p e (am_rm d k1 q1) s m _ below meth c n ad ⟨B.exec, B.bytes, B.returns, hml, by rw [ok.2.1]; exact hown, fun w hw => hts w (List.mem_cons_of_mem _ hw), B.notSynchronized, fun hi => (name_of_methodNamed B.named B.method).1.trans hi, ht, Nat.le_refl _, Nat.le_refl _, hK, hE⟩ s.heap [] 0 0 la ad ⟨hP, hD, va_S.rf, hb, Nat.le_refl _, fun _ _ => rfl, hl⟩ (Nat.le_of_eq (Nat.zero_add _)) (Nat.le_of_eq (Nat.zero_add _))
/-- .. of a method with a table -/
theorem am_metT {d : Nat} {M : MI} {vs : List Value} {n : Nat} {h : Hp} {v : Option Value} {n1 : Nat} {h1 : Hp} {k1 q1 : Nat} (S : Snd l D cy B0 b fw L xs d M 0 (lv_args 0 vs) [] n h (.inl v, n1, h1, k1, q1)) (ab : am_Ab L xs n h (lv_args 0 vs) []) (ok : am_OK M) (hm : csum vs ≤ mL M) (ad : Nat → Nat) :
    vx_Met l (mY M) (Cond.codeWith (mY M) (mB M) (mL M) (mR M) (mH M) :: am_ws) (am_rm d k1 q1) (va_Pc (vs.map (cV ad)) (am_Pre D cy B0 b fw L xs ad n h)) (am_Qr D cy B0 v n1 h1 n ad) (fun _ _ _ => False) k1 q1 (am_A B0) := by
  refine vx_ofWH (cc := mB M) (maxL := mL M) (ret := mR M) (hh := mH M) ok.1 rfl ?_
  intro p e s m args below meth c s₁ B hml hv
  obtain ⟨rfl, ⟨hP, hK, hD⟩, hE, hb⟩ := hv
  have hts := atoms_spec (ws := Cond.codeWith (mY M) (mB M) (mL M) (mR M) (mH M) :: am_ws) B.pre
  have hown : s.vm.findClass (mY M).cls = some m.cls := findClass_of_methodNamed B.named
  have ht : c.exceptionTable.toList = tableOf (mH M) := vx_table (x := mY M) (y := mY M) B (hts _ List.mem_cons_self)
  have hl := lv_entry (vs.map (cV ad)) (n := mL M) (by rw [am_slen, am_csum]; exact hm)
  rw [args_map] at hl
  rw [lg_entry_eq]
  generalize (lg_sl (vs.map (cV ad)) ++ List.replicate (mL M - (lg_sl (vs.map (cV ad))).length) Slot.unset).toArray = la at hl ⊢
  exact vx_ret ((S ab).2 p e (am_rm d k1 q1) s m _ below meth c n ad ⟨B.exec, B.bytes, B.returns, hml, by rw [ok.2.1]; exact hown, fun w hw => hts w (List.mem_cons_of_mem _ hw), B.notSynchronized, fun hi => (name_of_methodNamed B.named B.method).1.trans hi, ht, Nat.le_refl _, Nat.le_refl _, hK, hE⟩ s.heap [] 0 0 la ad ⟨hP, hD, va_S.rf, hb, Nat.le_refl _, fun _ _ => rfl, hl⟩ (Nat.le_of_eq (Nat.zero_add _)) (Nat.le_of_eq (Nat.zero_add _)))
/-- .. of a run that throws -/
theorem am_metX {d : Nat} {M : MI} {vs : List Value} {n : Nat} {h : Hp} {E : String} {n1 : Nat} {h1 : Hp} {k1 q1 : Nat} (S : Snd l D cy B0 b fw L xs d M 0 (lv_args 0 vs) [] n h (.inr E, n1, h1, k1, q1)) (ab : am_Ab L xs n h (lv_args 0 vs) []) (ok : am_OK M) (hh : mH M = []) (hm : csum vs ≤ mL M) (ad : Nat → Nat) :
    vx_Met l (mY M) (Cond.code (mY M) (mB M) (mL M) (mR M) :: am_ws) (am_rm d k1 q1) (va_Pc (vs.map (cV ad)) (am_Pre D cy B0 b fw L xs ad n h)) am_No (am_Qx D cy B0 E n1 h1 n ad) k1 q1 (am_A B0) := by
  refine vx_ofW (cc := mB M) (maxL := mL M) (ret := mR M) ok.1 rfl ?_
  intro p e s m args below meth c s₁ B hml ht0 hv
  obtain ⟨rfl, ⟨hP, hK, hD⟩, hE, hb⟩ := hv
  have hts := atoms_spec (ws := Cond.code (mY M) (mB M) (mL M) (mR M) :: am_ws) B.pre
  have hown : s.vm.findClass (mY M).cls = some m.cls := findClass_of_methodNamed B.named
  have ht : c.exceptionTable.toList = tableOf (mH M) := by
    rw [hh]
    exact List.eq_nil_iff_forall_not_mem.mpr ht0
  have hl := lv_entry (vs.map (cV ad)) (n := mL M) (by rw [am_slen, am_csum]; exact hm)
  rw [args_map] at hl
  rw [lg_entry_eq]
  generalize (lg_sl (vs.map (cV ad)) ++ List.replicate (mL M - (lg_sl (vs.map (cV ad))).length) Slot.unset).toArray = la at hl ⊢
  exact (S ab).2 p e (am_rm d k1 q1) s m _ below meth c n ad ⟨B.exec, B.bytes, B.returns, hml, by rw [ok.2.1]; exact hown, fun w hw => hts w (List.mem_cons_of_mem _ hw), B.notSynchronized, fun hi => (name_of_methodNamed B.named B.method).1.trans hi, ht, Nat.le_refl _, Nat.le_refl _, hK, hE⟩ s.heap [] 0 0 la ad ⟨hP, hD, va_S.rf, hb, Nat.le_refl _, fun _ _ => rfl, hl⟩ (Nat.le_of_eq (Nat.zero_add _)) (Nat.le_of_eq (Nat.zero_add _))
section CALLS
variable {p : Program} {e : Env} {R : Room} {s : State} {m : MethodId} {args : Array Value} {below : List Frame} {meth : Method} {c : Code} {H : Heap} {locs : List Loc} {cells slots : Nat} {Q : State → Prop} {k1 q1 pc n n1 : Nat} {h1 : Hp} {ad : Nat → Nat} {la : Array Slot} {st0 rest : List Value} {v : Option Value} {E : String} {a : Array Value}
theorem am_callR (hr : va_Run p l e R s m args below meth c H locs cells slots k1 q1 (F0 m pc la st0) rest (am_Qr D cy B0 v n1 h1 n ad a) (am_A B0)) (hS : va_S (am_A B0) s.heap H locs)
    (kk : ∀ (ad' : Nat → Nat) (H1 : Heap) (locs1 : List Loc), (∀ k, k < n → ad' k = ad k) → va_P D vwCl (wl cy ad' h1 n1) H1 → va_D (am_A B0) (wl cy ad' h1 n1) → va_S (am_A B0) s.heap H1 locs1 → W p l e R s m args below meth c H1 locs1 (cells + k1) (slots + q1) Q (F0 m (pc + 3) la ((v.map (cV ad')).toList ++ rest))) : W p l e R s m args below meth c H locs cells slots Q (F0 m pc la st0) := by
  intro T hT X
  obtain ⟨v', st₀, t, T', L9, h0, X', hL, e1, e2, ⟨⟨ad', hag, hv, hP, hK, hD⟩, hF⟩, st⟩ := hr T hT X
  cases hv
  obtain ⟨z1, z2, z3⟩ := vx_keep (A1 := am_A B0) (free := am_A B0) h0 e1 hS (fun _ _ h => h) (fun _ h => h) hL hF
  obtain ⟨t2, a1, b1⟩ := kk ad' T'.heap (locs ++ L9) hag (by rw [e1]; exact hP) hD z3 T' rfl X'
  exact ⟨t2, st t2 a1, b1⟩
theorem am_callRX (hr : vx_Run p l e R s m args below meth c H locs cells slots k1 q1 (F0 m pc la st0) rest (am_Qr D cy B0 v n1 h1 n ad a) (fun _ _ _ => False) (am_A B0)) (hS : va_S (am_A B0) s.heap H locs)
    (kk : ∀ (ad' : Nat → Nat) (H1 : Heap) (locs1 : List Loc), (∀ k, k < n → ad' k = ad k) → va_P D vwCl (wl cy ad' h1 n1) H1 → va_D (am_A B0) (wl cy ad' h1 n1) → va_S (am_A B0) s.heap H1 locs1 → W p l e R s m args below meth c H1 locs1 (cells + k1) (slots + q1) Q (F0 m (pc + 3) la ((v.map (cV ad')).toList ++ rest))) : W p l e R s m args below meth c H locs cells slots Q (F0 m pc la st0) := by
  intro T hT X
  rcases hr T hT X with ⟨v', st₀, t, T', L9, h0, X', hL, e1, e2, ⟨⟨ad', hag, hv, hP, hK, hD⟩, hF⟩, st⟩ | ⟨q, st₀, t, T', L9, E', ce, h0, X', hL, e1, e2, hx, -⟩
  · cases hv
    obtain ⟨z1, z2, z3⟩ := vx_keep (A1 := am_A B0) (free := am_A B0) h0 e1 hS (fun _ _ h => h) (fun _ h => h) hL hF
    obtain ⟨t2, a1, b1⟩ := kk ad' T'.heap (locs ++ L9) hag (by rw [e1]; exact hP) hD z3 T' rfl X'
    exact ⟨t2, st t2 a1, b1⟩
  · exact hx.elim
theorem am_callX (hr : vx_Run p l e R s m args below meth c H locs cells slots k1 q1 (F0 m pc la st0) rest (am_No a) (am_Qx D cy B0 E n1 h1 n ad) (am_A B0)) (hS : va_S (am_A B0) s.heap H locs)
    (kx : ∀ (ad' : Nat → Nat) (H1 : Heap) (locs1 : List Loc) (ce : Cell) (q9 : Addr), (∀ k, k < n → ad' k = ad k) → va_P D vwCl (wl cy ad' h1 n1) H1 → va_D (am_A B0) (wl cy ad' h1 n1) → va_S (am_A B0) s.heap H1 locs1 → H1[q9]? = some ce → ce.vm = .none → s.vm.findClass E = some ce.cls → vx_W p l e R s m args below meth c H1 locs1 (cells + k1) (slots + q1) Q (F0 m pc la rest) q9) : W p l e R s m args below meth c H locs cells slots Q (F0 m pc la st0) := by
  intro T hT X
  rcases hr T hT X with ⟨v', st₀, t, T', L9, h0, X', hL, e1, e2, hq, -⟩ | ⟨q, st₀, t, T', L9, E', ce, h0, X', hL, e1, e2, ⟨rfl, ⟨ad', hag, hP, hK, hD⟩, hF⟩, hce, hcv, hcl, st⟩
  · exact hq.elim
  · obtain ⟨z1, z2, z3⟩ := vx_keep (A1 := am_A B0) (free := am_A B0) h0 e1 hS (fun _ _ h => h) (fun _ h => h) hL hF
    obtain ⟨t2, a1, b1⟩ := kx ad' T'.heap (locs ++ L9) ce q hag (by rw [e1]; exact hP) hD z3 (by rw [e1]; exact hce) hcv hcl T' rfl X'
    exact ⟨t2, st.trans a1, b1⟩
end CALLS
theorem am_Mv.call {M : MI} {n0 : Nat} {ad0 : Nat → Nat} {ls : List (Nat × Value)} {st : List Value} {n n1 : Nat} {h h1 : Hp} {H H1 : Heap} {locs locs1 : List Loc} {la : Array Slot} {ad ad' : Nat → Nat} {s : State} (mv : am_Mv D cy B0 b fw M n0 ad0 ls n h H locs la ad s) (ab : am_Ab L xs n h ls st) (hn : n ≤ n1) (hag : ∀ k, k < n → ad' k = ad k)
    (hP : va_P D vwCl (wl cy ad' h1 n1) H1) (hD : va_D (am_A B0) (wl cy ad' h1 n1)) (hS : va_S (am_A B0) s.heap H1 locs1) : am_Mv D cy B0 b fw M n0 ad0 ls n1 h1 H1 locs1 la ad' s :=
  have h2 := ab.1
  have hn0 := mv.2.2.2.2.1
  ⟨hP, hD, hS, ⟨(hag 0 (by omega)).trans mv.2.2.2.1.1, (hag 1 (by omega)).trans mv.2.2.2.1.2⟩, Nat.le_trans hn0 hn, fun k hk => (hag k (Nat.lt_of_lt_of_le hk hn0)).trans (mv.2.2.2.2.2.1 k hk), by rw [mapP_agree hag ab.2.2.1]; exact mv.2.2.2.2.2.2⟩
theorem am_vst {ad : Nat → Nat} {v : Option Value} {st : List Value} : (v.toList ++ st).map (cV ad) = (v.map (cV ad)).toList ++ st.map (cV ad) := by cases v <;> rfl
theorem am_Abargs {n : Nat} {h : Hp} {ls : List (Nat × Value)} {st vs : List Value} (ab : am_Ab L xs n h ls st) (hv : ∀ v ∈ vs, v ∈ st) : am_Ab L xs n h (lv_args 0 vs) [] := ⟨ab.1, ab.2.1, fun q hq => ab.2.2.2.1 _ (hv _ (args_mem hq)), fun v hv => (by cases hv), ab.2.2.2.2⟩
theorem am_Abret {n n1 : Nat} {h h1 : Hp} {ls : List (Nat × Value)} {st : List Value} {v : Option Value} {k1 q1 : Nat} (ab : am_Ab L xs n h ls st) (o1 : am_Oo L xs n (.inl v, n1, h1, k1, q1)) : am_Ab L xs n1 h1 ls (v.toList ++ st) := by
  refine ⟨Nat.le_trans ab.1 o1.1, o1.2.1, fun q hq => am_ok_mono o1.1 (ab.2.2.1 q hq), fun u hu => ?_, o1.2.2.1, o1.2.2.2.1⟩
  rcases List.mem_append.mp hu with hu | hu
  · cases v with
    | none => cases hu
    | some v =>
      rcases List.mem_cons.mp hu with rfl | hu
      · exact o1.2.2.2.2 _ rfl
      · cases hu
  · exact am_ok_mono o1.1 (ab.2.2.2.1 u hu)
theorem am_Abx {n n1 : Nat} {h h1 : Hp} {ls : List (Nat × Value)} {st : List Value} {E : String} {k1 q1 : Nat} (ab : am_Ab L xs n h ls st) (o1 : am_Oo L xs n (.inr E, n1, h1, k1, q1)) (hk : Nat) : am_Ab L xs n1 h1 (lrm ls hk) [] :=
  ⟨Nat.le_trans ab.1 o1.1, o1.2.1, fun q hq => am_ok_mono o1.1 (ab.2.2.1 q (lrm_sub hq)), fun u hu => (by cases hu), o1.2.2.1, o1.2.2.2.1⟩
theorem am_nolong {M : MI} {n0 : Nat} {ad0 : Nat → Nat} {ls ls' : List (Nat × Value)} {n : Nat} {h : Hp} {H : Heap} {locs : List Loc} {la : Array Slot} {ad : Nat → Nat} {s : State} (mv : am_Mv D cy B0 b fw M n0 ad0 ls n h H locs la ad s) (hs : ∀ q ∈ ls', q ∈ ls) : am_Mv D cy B0 b fw M n0 ad0 ls' n h H locs la ad s :=
  mv.st ⟨mv.2.2.2.2.2.2.1, mv.2.2.2.2.2.2.2.1, fun q hq => by
    obtain ⟨q1, h1, rfl⟩ := List.mem_map.mp hq
    exact mv.2.2.2.2.2.2.2.2 _ (List.mem_map.mpr ⟨q1, hs q1 h1, rfl⟩)⟩

theorem sd_getfield : RU_getfield (Snd l D cy B0 b fw L xs) := by
  intro d M pc ls st n h o idx ci k a fs v g0 g1 g2 g3 p0 ab
  have hv : am_ok n v := by
    have h9 := ab.2.1 a ab.top
    rw [g2] at h9
    exact h9 v (List.mem_of_getElem? g3)
  obtain ⟨a1, kw⟩ := p0 (ab.pop.push hv)
  refine ⟨a1, fun p e R s m args below meth c n0 ad0 fx H locs cells slots la ad mv c1 c2 => ?_⟩
  obtain ⟨q, q1, q2, q3⟩ := g1
  exact va_get (C := q.1) (T := q.2.1) (N := q.2.2) fx.1 fx.2.1 fx.2.2.2.2.2.1 (am_cls ci q q1).1 fx.2.2.2.2.1 fx.2.2.2.2.2.2.2.2.2.2.2.1 mv.1 (a - 2) (am_get ad ab g2) q1 k q2 (fx.2.2.2.2.2.1 _ q3) (fun _ h9 => h9) (v := cV ad v) (by rw [List.getElem?_map, g3]; rfl) g0 (kw p e R s m args below meth c n0 ad0 fx H locs cells slots la ad mv c1 c2)
theorem sd_putfield : RU_putfield (Snd l D cy B0 b fw L xs) := by
  intro d M pc ls st n h o idx ci k a fs v g0 g1 g2 g3 g4 g5 p0 ab
  have h2 := am_ge2 ab.pop g4
  have han : a < n := ab.pop.top
  have hok : am_okE n (.inr (ci, fs.set k v)) := by
    intro u hu
    rcases List.mem_or_eq_of_mem_set hu with hu | rfl
    · have h9 := ab.2.1 a han
      rw [g4] at h9
      exact h9 u hu
    · exact ab.top
  obtain ⟨a1, kw⟩ := p0 (ab.pop.pop.up h2 hok)
  refine ⟨a1, fun p e R s m args below meth c n0 ad0 fx H locs cells slots la ad mv c1 c2 => ?_⟩
  obtain ⟨q, q1, q2, q3⟩ := g1
  obtain ⟨ty, t1, t2⟩ := g2 q q1
  obtain ⟨f1, ⟨ty0, f2⟩, f3⟩ := am_cls ci q q1
  have e9 : (ad a, (Sum.inr (ci, (fs.map (cV ad)).set k (cV ad v)) : va_E)) = (ad a, cE cy ad (.inr (ci, fs.set k v))) := by
    show _ = (ad a, (Sum.inr (ci, (fs.set k v).map (cV ad)) : va_E))
    rw [List.map_set]
  have kk : ∀ (H1 : Heap) (locs1 : List Loc), va_P D vwCl ((wl cy ad h n).set (a - 2) (ad a, .inr (ci, (fs.map (cV ad)).set k (cV ad v)))) H1 → va_D (am_A B0) ((wl cy ad h n).set (a - 2) (ad a, .inr (ci, (fs.map (cV ad)).set k (cV ad v)))) → va_S (am_A B0) s.heap H1 locs1 → W p l e R s m args below meth c H1 locs1 cells slots (am_Fin D cy B0 o n0 ad0 below args s R) (F0 m (pc + 3) la (st.map (cV ad))) := by
    intro H1 locs1 hP hD hS
    rw [e9] at hP hD
    exact kw p e R s m args below meth c n0 ad0 fx H1 locs1 cells slots la ad (mv.up h2 han hP hD hS) c1 c2
  cases hf : am_fin ci k with
  | false => exact va_put (C := q.1) (T := q.2.1) (N := q.2.2) fx.1 fx.2.1 fx.2.2.2.2.2.1 f1 ty0 f2 f3 fx.2.2.2.2.1 fx.2.2.2.2.2.2.2.2.2.2.2.1 mv.1 mv.2.1 mv.2.2.1 (a - 2) (am_get ad (ls := ls) (st := st) ab.pop g4) q1 k q2 (fx.2.2.2.2.2.1 _ q3) (fun _ h9 => h9) (by unfold am_fin at hf; rw [q1] at hf; exact hf) (v := cV ad v) t1 (t2 ad).1 (t2 ad).2 (by rw [List.length_map]; exact g5) g0 kk
  | true =>
    obtain ⟨i1, i2⟩ := g3 hf
    exact va_putF (C := q.1) (T := q.2.1) (N := q.2.2) fx.1 fx.2.1 fx.2.2.2.2.2.1 f1 ty0 f2 f3 fx.2.2.2.2.1 fx.2.2.2.2.2.2.2.2.2.2.2.1 mv.1 mv.2.1 mv.2.2.1 (a - 2) (am_get ad (ls := ls) (st := st) ab.pop g4) q1 k q2 (fx.2.2.2.2.2.1 _ q3) (fun _ h9 => h9) (by unfold am_fin at hf; rw [q1] at hf; exact hf) (fx.2.2.2.2.2.2.2.1 i1) (by unfold am_own at i2; rw [q1] at i2; exact i2) (v := cV ad v) t1 (t2 ad).1 (t2 ad).2 (by rw [List.length_map]; exact g5) g0 kk
theorem am_geta {n a t len : Nat} {h : Hp} {f : Nat → Int32} (ad : Nat → Nat) (h2 : 2 ≤ a) (hn : a < n) (g : h a = .inl (t, len, .inl f)) : (wl cy ad h n)[a - 2]? = some (ad a, .inl (cy t, len, .inl f)) := by
  rw [wl_get h2 hn, g]
  rfl
theorem am_getl {n a t len : Nat} {h : Hp} {f : Nat → Int64} (ad : Nat → Nat) (h2 : 2 ≤ a) (hn : a < n) (g : h a = .inl (t, len, .inr (.inl f))) : (wl cy ad h n)[a - 2]? = some (ad a, .inl (cy t, len, .inr (.inl f))) := by
  rw [wl_get h2 hn, g]
  rfl
theorem am_getq {n a t len : Nat} {h : Hp} {f : Nat → Option Nat} (ad : Nat → Nat) (h2 : 2 ≤ a) (hn : a < n) (g : h a = .inl (t, len, .inr (.inr (.inr (.inr f))))) : (wl cy ad h n)[a - 2]? = some (ad a, .inl (cy t, len, .inr (.inr (.inr (.inr (fun j => (f j).map ad)))))) := by
  rw [wl_get h2 hn, g]
  rfl
theorem am_geta9 {n a t : Nat} {h : Hp} {x : vp_A} (ad : Nat → Nat) (h2 : 2 ≤ a) (hn : a < n) (g : h a = .inl (t, x)) : ∃ y : vp_A, y.1 = x.1 ∧ (wl cy ad h n)[a - 2]? = some (ad a, .inl (cy t, y)) := by
  rw [wl_get h2 hn, g]
  obtain ⟨len, f | f | f | f | f⟩ := x
  · exact ⟨(len, .inl f), rfl, rfl⟩
  · exact ⟨(len, .inr (.inl f)), rfl, rfl⟩
  · exact ⟨(len, .inr (.inr (.inl f))), rfl, rfl⟩
  · exact ⟨(len, .inr (.inr (.inr (.inl f)))), rfl, rfl⟩
  · exact ⟨(len, .inr (.inr (.inr (.inr (fun j => (f j).map ad))))), rfl, rfl⟩
theorem am_rf (ad : Nat → Nat) (r : Option Nat) : cV ad (va_rf r) = va_rf (r.map ad) := by cases r <;> rfl
theorem sd_arraylength : RU_arraylength (Snd l D cy B0 b fw L xs) := by
  intro d M pc ls st n h o a t x g0 g1 g2 p0 ab
  obtain ⟨a1, kw⟩ := p0 (ab.pop.push trivial)
  refine ⟨a1, fun p e R s m args below meth c n0 ad0 fx H locs cells slots la ad mv c1 c2 => ?_⟩
  have hz := fx.2.2.2.2.2.2.2.2.2.2.2.2.2.2.2.2.2.2.2.2.2.2.2.2.2.2.2
  rcases (show a = 0 ∨ a = 1 ∨ 2 ≤ a by omega) with rfl | rfl | h2
  · have e9 := g1.symm.trans ab.2.2.2.2.1
    cases e9
    have kw := kw p e R s m args below meth c n0 ad0 fx H locs cells slots la ad mv c1 c2
    have hX := fx.2.2.2.2.2.2.2.2.2.2.2.2.1
    have hbl := fx.2.2.2.2.2.2.2.2.2.2.2.2.2.1
    rw [← mv.2.2.2.1.1] at hX hbl
    exact va_slen fx.1 fx.2.1 hX (Nat.lt_of_lt_of_le hbl hz) (Nat.not_le.mpr hbl) mv.2.2.1 g0 kw
  · have e9 := g1.symm.trans ab.2.2.2.2.2
    cases e9
    have kw := kw p e R s m args below meth c n0 ad0 fx H locs cells slots la ad mv c1 c2
    have hX := fx.2.2.2.2.2.2.2.2.2.2.2.2.2.2.1
    have hbl := fx.2.2.2.2.2.2.2.2.2.2.2.2.2.2.2.1
    rw [← mv.2.2.2.1.2] at hX hbl
    exact va_slen fx.1 fx.2.1 hX (Nat.lt_of_lt_of_le hbl hz) (Nat.not_le.mpr hbl) mv.2.2.1 g0 kw
  · obtain ⟨y, y1, y2⟩ := am_geta9 (cy := cy) ad h2 ab.top g1
    rcases (show t = 0 ∨ t = 1 ∨ t = 2 ∨ t = 3 by omega) with rfl | rfl | rfl | rfl
    · exact va_alen fx.1 fx.2.1 fx.2.2.2.2.2.2.2.2.2.2.2.1 mv.1 (a - 2) 0 y2 (ty := .int) rfl (by rw [y1]) g0 (kw p e R s m args below meth c n0 ad0 fx H locs cells slots la ad mv c1 c2)
    · exact va_alen fx.1 fx.2.1 fx.2.2.2.2.2.2.2.2.2.2.2.1 mv.1 (a - 2) 1 y2 (ty := .long) rfl (by rw [y1]) g0 (kw p e R s m args below meth c n0 ad0 fx H locs cells slots la ad mv c1 c2)
    · exact va_alen fx.1 fx.2.1 fx.2.2.2.2.2.2.2.2.2.2.2.1 mv.1 (a - 2) 2 y2 (ty := .int) rfl (by rw [y1]) g0 (kw p e R s m args below meth c n0 ad0 fx H locs cells slots la ad mv c1 c2)
    · exact va_alen fx.1 fx.2.1 fx.2.2.2.2.2.2.2.2.2.2.2.1 mv.1 (a - 2) 3 y2 (ty := .object "Glosspair$SentencePair") rfl (by rw [y1]) g0 (kw p e R s m args below meth c n0 ad0 fx H locs cells slots la ad mv c1 c2)
theorem sd_iaload : RU_iaload (Snd l D cy B0 b fw L xs) := by
  intro d M pc ls st n h o a len x f g0 g1 g2 p0 ab
  obtain ⟨a1, kw⟩ := p0 (ab.pop.pop.push trivial)
  refine ⟨a1, fun p e R s m args below meth c n0 ad0 fx H locs cells slots la ad mv c1 c2 => ?_⟩
  have hz := fx.2.2.2.2.2.2.2.2.2.2.2.2.2.2.2.2.2.2.2.2.2.2.2.2.2.2.2
  rcases (show a = 0 ∨ a = 1 ∨ 2 ≤ a by omega) with rfl | rfl | h2
  · have e9 := g1.symm.trans ab.2.2.2.2.1
    cases e9
    have kw := kw p e R s m args below meth c n0 ad0 fx H locs cells slots la ad mv c1 c2
    have hX := fx.2.2.2.2.2.2.2.2.2.2.2.2.1
    have hbl := fx.2.2.2.2.2.2.2.2.2.2.2.2.2.1
    rw [← mv.2.2.2.1.1] at hX hbl
    exact va_sld fx.1 fx.2.1 hX (Nat.lt_of_lt_of_le hbl hz) (Nat.not_le.mpr hbl) mv.2.2.1 g2 g0 kw
  · have e9 := g1.symm.trans ab.2.2.2.2.2
    cases e9
    have kw := kw p e R s m args below meth c n0 ad0 fx H locs cells slots la ad mv c1 c2
    have hX := fx.2.2.2.2.2.2.2.2.2.2.2.2.2.2.1
    have hbl := fx.2.2.2.2.2.2.2.2.2.2.2.2.2.2.2.1
    rw [← mv.2.2.2.1.2] at hX hbl
    exact va_sld fx.1 fx.2.1 hX (Nat.lt_of_lt_of_le hbl hz) (Nat.not_le.mpr hbl) mv.2.2.1 g2 g0 kw
  · exact va_iald fx.1 fx.2.1 fx.2.2.2.2.2.2.2.2.2.2.2.1 mv.1 (a - 2) 0 (am_geta ad h2 ab.pop.top g1) rfl g2 g0 (kw p e R s m args below meth c n0 ad0 fx H locs cells slots la ad mv c1 c2)
theorem sd_laload : RU_laload (Snd l D cy B0 b fw L xs) := by
  intro d M pc ls st n h o a len x f g0 g1 g2 p0 ab
  obtain ⟨a1, kw⟩ := p0 (ab.pop.pop.push trivial)
  refine ⟨a1, fun p e R s m args below meth c n0 ad0 fx H locs cells slots la ad mv c1 c2 => ?_⟩
  exact va_lald fx.1 fx.2.1 fx.2.2.2.2.2.2.2.2.2.2.2.1 mv.1 (a - 2) 1 (am_getl ad (am_ge2t ab g1 (by omega)) ab.pop.top g1) rfl g2 g0 (kw p e R s m args below meth c n0 ad0 fx H locs cells slots la ad mv c1 c2)
theorem sd_aaload : RU_aaload (Snd l D cy B0 b fw L xs) := by
  intro d M pc ls st n h o a len x f g0 g1 g2 p0 ab
  have hv : am_ok n (va_rf (f x.toNatClampNeg)) := by
    have h9 := ab.2.1 a ab.pop.top
    rw [g1] at h9
    cases hf : f x.toNatClampNeg with
    | none => trivial
    | some k => exact h9 _ k hf
  obtain ⟨a1, kw⟩ := p0 (ab.pop.pop.push hv)
  refine ⟨a1, fun p e R s m args below meth c n0 ad0 fx H locs cells slots la ad mv c1 c2 => ?_⟩
  have kw := kw p e R s m args below meth c n0 ad0 fx H locs cells slots la ad mv c1 c2
  rw [List.map_cons, am_rf] at kw
  exact va_aldq fx.1 fx.2.1 fx.2.2.2.2.2.2.2.2.2.2.2.1 mv.1 (a - 2) 3 (am_getq ad (am_ge2t ab g1 (by omega)) ab.pop.top g1) rfl g2 g0 kw
theorem sd_iastore : RU_iastore (Snd l D cy B0 b fw L xs) := by
  intro d M pc ls st n h o a len x y f g0 g1 g2 g3 p0 ab
  have han : a < n := ab.pop.pop.top
  obtain ⟨a1, kw⟩ := p0 (ab.pop.pop.pop.up g1 trivial)
  refine ⟨a1, fun p e R s m args below meth c n0 ad0 fx H locs cells slots la ad mv c1 c2 => ?_⟩
  exact va_iast fx.1 fx.2.1 fx.2.2.2.2.2.2.2.2.2.2.2.1 mv.1 mv.2.1 mv.2.2.1 (a - 2) 0 (am_geta ad g1 han g2) rfl g3 g0 (fun H1 locs1 hP hD hS => kw p e R s m args below meth c n0 ad0 fx H1 locs1 cells slots la ad (mv.up g1 han hP hD hS) c1 c2)
theorem sd_lastore : RU_lastore (Snd l D cy B0 b fw L xs) := by
  intro d M pc ls st n h o a len x y f g0 g1 g2 g3 p0 ab
  have han : a < n := ab.pop.pop.top
  obtain ⟨a1, kw⟩ := p0 (ab.pop.pop.pop.up g1 trivial)
  refine ⟨a1, fun p e R s m args below meth c n0 ad0 fx H locs cells slots la ad mv c1 c2 => ?_⟩
  exact va_last fx.1 fx.2.1 fx.2.2.2.2.2.2.2.2.2.2.2.1 mv.1 mv.2.1 mv.2.2.1 (a - 2) 1 (am_getl ad g1 han g2) rfl g3 g0 (fun H1 locs1 hP hD hS => kw p e R s m args below meth c n0 ad0 fx H1 locs1 cells slots la ad (mv.up g1 han hP hD hS) c1 c2)
theorem sd_aastore : RU_aastore (Snd l D cy B0 b fw L xs) := by
  intro d M pc ls st n h o a len v x f vs g0 g1 g2 g3 g4 p0 ab
  have han : a < n := ab.pop.pop.top
  have hvn : v < n := ab.top
  have hok : am_okE n (.inl (3, len, .inr (.inr (.inr (.inr (va_up f x.toNatClampNeg (some v))))))) := by
    intro j k hj
    unfold va_up at hj
    split at hj
    · cases hj; exact hvn
    · have h9 := ab.2.1 a han
      rw [g2] at h9
      exact h9 j k hj
  obtain ⟨a1, kw⟩ := p0 (ab.pop.pop.pop.up g1 hok)
  refine ⟨a1, fun p e R s m args below meth c n0 ad0 fx H locs cells slots la ad mv c1 c2 => ?_⟩
  have e9 : (va_up (fun j => (f j).map ad) x.toNatClampNeg (some (ad v))) = fun j => (va_up f x.toNatClampNeg (some v) j).map ad := by
    funext j
    unfold va_up
    split <;> rfl
  refine va_astq (r := (RX7, TX7, 3)) fx.1 fx.2.1 fx.2.2.2.2.2.2.2.2.2.2.2.1 mv.1 mv.2.1 mv.2.2.1 (a - 2) 3 (v - 2) 7 (am_getq ad g1 han g2) rfl (am_get ad (ls := ls) (st := .int x :: .ref a :: st) ab g3) rfl g4 g0 (fun H1 locs1 hP hD hS => ?_)
  rw [e9] at hP hD
  exact kw p e R s m args below meth c n0 ad0 fx H1 locs1 cells slots la ad (mv.up g1 han hP hD hS) c1 c2
theorem sd_new : RU_new (Snd l D cy B0 b fw L xs) := by
  intro d M pc ls st n h idx ci N fs r n2 h2 k1 q1 g0 g1 p0 ab
  obtain ⟨q, qq, q2, q3, q4, q5, q6, q7⟩ := g1
  have hok : am_okE (n + 1) (.inr (ci, fs)) := fun v hv => am_ok_mono (Nat.zero_le _) (q7 v hv).1
  obtain ⟨a0, kw⟩ := p0 ((ab.new hok).push (Nat.lt_succ_self n))
  have a1 : am_Oo L xs n (r, n2, h2, 1 + k1, N + q1) := a0.less
  refine ⟨a1, fun p e R s m args below meth c n0 ad0 fx H locs cells slots la ad mv c1 c2 => ?_⟩
  obtain ⟨f1, ⟨ty0, f2⟩, f3⟩ := am_cls ci q qq
  have c1 : cells + (1 + k1) ≤ R.cells := c1
  have c2 : slots + (N + q1) ≤ R.slots := c2
  subst q2
  refine va_new (C := q.1) (T := q.2.1) (N := q.2.2) (fs := fs) fx.1 fx.2.1 fx.2.2.2.2.2.1 f1 ty0 f2 fx.2.2.2.2.1 (fx.2.2.2.2.2.1 _ q3) (fx.2.2.2.2.2.1 _ q4) (fx.2.2.2.2.2.1 _ q5) fx.2.2.2.2.2.2.2.2.2.2.2.1 mv.1 mv.2.1 mv.2.2.1 (fun _ h9 => Nat.le_trans fx.2.2.2.2.2.2.2.2.2.2.2.2.2.2.2.2.2.2.2.2.2.2.2.2.2.2.2 h9) qq (fun j hj => q6 j hj _ (f2 j hj)) (by omega) (by omega) g0 (fun q9 H1 hP hD hS => ?_)
  have kw := kw p e R s m args below meth c n0 ad0 fx H1 locs (cells + 1) (slots + q.2.2) la (va_up ad n q9) (mv.new ab (show cE cy (va_up ad n q9) (.inr (ci, fs)) = .inr (ci, fs) by
    show (Sum.inr (ci, fs.map (cV (va_up ad n q9))) : va_E) = _
    rw [show fs.map (cV (va_up ad n q9)) = fs from (List.map_congr_left fun v hv => (q7 v hv).2 _).trans (List.map_id fs)]) hP hD hS) (by show cells + 1 + k1 ≤ _; omega) (by show slots + q.2.2 + q1 ≤ _; omega)
  rw [List.map_cons, map_up ab.2.2.2.1, show cV (va_up ad n q9) (.ref n) = .ref q9 by simp [cV, va_up]] at kw
  exact kw
theorem sd_newarray0 : RU_newarray0 (Snd l D cy B0 b fw L xs) := by
  intro d M pc ls st n h x N r n2 h2 k1 q1 g0 g1 g2 p0 ab
  obtain ⟨a0, kw⟩ := p0 ((ab.pop.new (e := .inl (0, N, .inl (fun _ => 0))) trivial).push (Nat.lt_succ_self n))
  have a1 : am_Oo L xs n (r, n2, h2, 1 + k1, N + q1) := a0.less
  refine ⟨a1, fun p e R s m args below meth c n0 ad0 fx H locs cells slots la ad mv c1 c2 => ?_⟩
  have c1 : cells + (1 + k1) ≤ R.cells := c1
  have c2 : slots + (N + q1) ≤ R.slots := c2
  subst g1
  refine va_newa (atype := .int) (ty := .int) (N' := N) (a0 := (N, .inl (fun _ => 0))) fx.1 fx.2.1 (fx.2.2.2.2.2.1 (.arrayClass .int) (am_in 103 (by decide +kernel) rfl)) rfl fx.2.2.2.2.2.2.2.2.2.2.2.1 mv.1 mv.2.1 mv.2.2.1 (fun _ h9 => Nat.le_trans fx.2.2.2.2.2.2.2.2.2.2.2.2.2.2.2.2.2.2.2.2.2.2.2.2.2.2.2 h9) (fun cA => rfl) (nI_pos (by omega)) (nI_clamp (by omega)) (by show N * 4 ≤ _; omega) (by omega) (by omega) g0 (fun q9 cA H1 hK hP hD hS => ?_)
  have hcA := am_ty (ty := .int) fx.2.2.2.2.2.2.2.2.2.2.2.1 (t := 0) rfl hK
  subst hcA
  have kw := kw p e R s m args below meth c n0 ad0 fx H1 locs (cells + 1) (slots + N) la (va_up ad n q9) (mv.new ab.pop (show cE cy (va_up ad n q9) (.inl (0, N, .inl (fun _ => 0))) = .inl (cy 0, N, .inl (fun _ => 0)) from rfl) hP hD hS) (by show cells + 1 + k1 ≤ _; omega) (by show slots + N + q1 ≤ _; omega)
  rw [List.map_cons, map_up ab.pop.2.2.2.1, show cV (va_up ad n q9) (.ref n) = .ref q9 by simp [cV, va_up]] at kw
  exact kw
theorem sd_newarray1 : RU_newarray1 (Snd l D cy B0 b fw L xs) := by
  intro d M pc ls st n h x N r n2 h2 k1 q1 g0 g1 g2 p0 ab
  obtain ⟨a0, kw⟩ := p0 ((ab.pop.new (e := .inl (1, N, .inr (.inl (fun _ => 0)))) trivial).push (Nat.lt_succ_self n))
  have a1 : am_Oo L xs n (r, n2, h2, 1 + k1, N + q1) := a0.less
  refine ⟨a1, fun p e R s m args below meth c n0 ad0 fx H locs cells slots la ad mv c1 c2 => ?_⟩
  have c1 : cells + (1 + k1) ≤ R.cells := c1
  have c2 : slots + (N + q1) ≤ R.slots := c2
  subst g1
  refine va_newa (atype := .long) (ty := .long) (N' := N) (a0 := (N, .inr (.inl (fun _ => 0)))) fx.1 fx.2.1 (fx.2.2.2.2.2.1 (.arrayClass .long) (am_in 104 (by decide +kernel) rfl)) rfl fx.2.2.2.2.2.2.2.2.2.2.2.1 mv.1 mv.2.1 mv.2.2.1 (fun _ h9 => Nat.le_trans fx.2.2.2.2.2.2.2.2.2.2.2.2.2.2.2.2.2.2.2.2.2.2.2.2.2.2.2 h9) (fun cA => rfl) (nI_pos (by omega)) (nI_clamp (by omega)) (by show N * 8 ≤ _; omega) (by omega) (by omega) g0 (fun q9 cA H1 hK hP hD hS => ?_)
  have hcA := am_ty (ty := .long) fx.2.2.2.2.2.2.2.2.2.2.2.1 (t := 1) rfl hK
  subst hcA
  have kw := kw p e R s m args below meth c n0 ad0 fx H1 locs (cells + 1) (slots + N) la (va_up ad n q9) (mv.new ab.pop (show cE cy (va_up ad n q9) (.inl (1, N, .inr (.inl (fun _ => 0)))) = .inl (cy 1, N, .inr (.inl (fun _ => 0))) from rfl) hP hD hS) (by show cells + 1 + k1 ≤ _; omega) (by show slots + N + q1 ≤ _; omega)
  rw [List.map_cons, map_up ab.pop.2.2.2.1, show cV (va_up ad n q9) (.ref n) = .ref q9 by simp [cV, va_up]] at kw
  exact kw
theorem sd_anewarray : RU_anewarray (Snd l D cy B0 b fw L xs) := by
  intro d M pc ls st n h x N idx r n2 h2 k1 q1 g0 g1 g2 g3 p0 ab
  obtain ⟨a0, kw⟩ := p0 ((ab.pop.new (e := .inl (3, N, .inr (.inr (.inr (.inr (fun _ => none)))))) (fun j k hj => by cases hj)).push (Nat.lt_succ_self n))
  have a1 : am_Oo L xs n (r, n2, h2, 1 + k1, N + q1) := a0.less
  refine ⟨a1, fun p e R s m args below meth c n0 ad0 fx H locs cells slots la ad mv c1 c2 => ?_⟩
  have c1 : cells + (1 + k1) ≤ R.cells := c1
  have c2 : slots + (N + q1) ≤ R.slots := c2
  subst g2
  refine va_newq (C := "Glosspair$SentencePair") (N' := N) fx.1 fx.2.1 fx.2.2.2.2.1 (fx.2.2.2.2.2.1 _ g1) fx.2.2.2.2.2.2.2.2.2.2.2.2.2.2.2.2.2.2.2.2.2.2.2.2.1 fx.2.2.2.2.2.2.2.2.2.2.2.1 mv.1 mv.2.1 mv.2.2.1 (fun _ h9 => Nat.le_trans fx.2.2.2.2.2.2.2.2.2.2.2.2.2.2.2.2.2.2.2.2.2.2.2.2.2.2.2 h9) (nI_pos (by omega)) (nI_clamp (by omega)) (by omega) (by omega) (by omega) g0 (fun q9 cA H1 hK hP hD hS => ?_)
  have hcA := am_ty (ty := .object "Glosspair$SentencePair") fx.2.2.2.2.2.2.2.2.2.2.2.1 (t := 3) rfl hK
  subst hcA
  have kw := kw p e R s m args below meth c n0 ad0 fx H1 locs (cells + 1) (slots + N) la (va_up ad n q9) (mv.new ab.pop (show cE cy (va_up ad n q9) (.inl (3, N, .inr (.inr (.inr (.inr (fun _ => none)))))) = .inl (cy 3, N, .inr (.inr (.inr (.inr (fun _ => none))))) from rfl) hP hD hS) (by show cells + 1 + k1 ≤ _; omega) (by show slots + N + q1 ≤ _; omega)
  rw [List.map_cons, map_up ab.pop.2.2.2.1, show cV (va_up ad n q9) (.ref n) = .ref q9 by simp [cV, va_up]] at kw
  exact kw
theorem sd_getFW : RU_getFW (Snd l D cy B0 b fw L xs) := by
  intro d M pc ls st n h o idx g0 g1 g2 p0 ab
  have h2 := ab.1
  obtain ⟨a1, kw⟩ := p0 (ab.push (show 1 < n by omega))
  refine ⟨a1, fun p e R s m args below meth c n0 ad0 fx H locs cells slots la ad mv c1 c2 => ?_⟩
  subst g2
  have kw := kw p e R s m args below meth c n0 ad0 fx H locs cells slots la ad mv c1 c2
  rw [List.map_cons, show cV ad (.ref 1) = .ref fw from congrArg Value.ref mv.2.2.2.1.2] at kw
  have ho := fx.2.2.2.2.1
  rw [g1] at ho
  exact va_getsN fx.1 fx.2.1 fx.2.2.2.2.2.2.2.2.2.2.2.2.2.2.2.2.1 mv.2.2.1 ho (va_Nw.use rfl fx.2.2.2.2.2.2.2.2.2.2.2.2.2.2.2.2.2.2.2.2.2.1) (fun _ h9 => h9) g0 kw
theorem sd_castI : RU_castI (Snd l D cy B0 b fw L xs) := by
  intro d M pc ls st n h o idx a len f g0 g1 g2 g3 p0 ab
  obtain ⟨a1, kw⟩ := p0 ab
  refine ⟨a1, fun p e R s m args below meth c n0 ad0 fx H locs cells slots la ad mv c1 c2 => ?_⟩
  exact va_castA fx.1 fx.2.1 fx.2.2.2.2.1 (fx.2.2.2.2.2.1 _ g1) mv.1 (a - 2) (am_geta ad g2 ab.top g3) (((fx.2.2.2.2.2.2.2.2.2.2.2.1).2 0 _ rfl).2) g0 (kw p e R s m args below meth c n0 ad0 fx H locs cells slots la ad mv c1 c2)
theorem sd_objInit : RU_objInit (Snd l D cy B0 b fw L xs) := by
  intro d M pc ls st n h o idx a g0 g1 g2 p0 ab
  obtain ⟨a1, kw⟩ := p0 ab.pop
  refine ⟨a1, fun p e R s m args below meth c n0 ad0 fx H locs cells slots la ad mv c1 c2 => ?_⟩
  have hlo := fx.2.2.2.2.2.2.2.2.2.2.1
  have hfr := fx.2.2.2.2.2.2.2.2.2.1
  refine W.objInit fx.1 fx.2.1 fx.2.2.2.2.1 (fx.2.2.2.2.2.1 _ g1) (fx.2.2.2.2.2.1 _ (am_in 55 (by decide +kernel) rfl)) (fx.2.2.2.2.2.1 _ (am_in 56 (by decide +kernel) rfl)) (g := F0 m pc la (.ref (ad a) :: st.map (cV ad))) rfl (mv.2.2.2.2.2.2.1.trans fx.2.2.2.1.symm) rfl g0 (by omega) (by have := am_room (ad := ad) g2; show 2 * 0 + _ + 12 ≤ _; omega) ?_
  exact kw p e R s m args below meth c n0 ad0 fx H locs cells slots la ad mv c1 c2
theorem sd_cloneFW : RU_cloneFW (Snd l D cy B0 b fw L xs) := by
  intro d M pc ls st n h idx r n2 h2 k1 q1 g0 g1 g2 p0 ab
  obtain ⟨a0, kw⟩ := p0 ((ab.pop.new (e := .inl (0, 5, .inl am_fw)) trivial).push (Nat.lt_succ_self n))
  have a1 : am_Oo L xs n (r, n2, h2, 1 + k1, 5 + q1) := a0.less
  refine ⟨a1, fun p e R s m args below meth c n0 ad0 fx H locs cells slots la ad mv c1 c2 => ?_⟩
  have c1 : cells + (1 + k1) ≤ R.cells := c1
  have c2 : slots + (5 + q1) ≤ R.slots := c2
  have hlo := fx.2.2.2.2.2.2.2.2.2.2.1
  have hfr := fx.2.2.2.2.2.2.2.2.2.1
  have hz := fx.2.2.2.2.2.2.2.2.2.2.2.2.2.2.2.2.2.2.2.2.2.2.2.2.2.2.2
  have hroom := am_room (ad := ad) g2
  have hfw := mv.2.2.2.1.2
  obtain ⟨scr, x1, x2, x3, x4, x5⟩ := fx.2.2.2.2.2.2.2.2.2.2.2.2.2.2.1
  obtain ⟨scr', y1, y2, y3⟩ := fx.2.2.2.2.2.2.2.2.2.2.2.2.2.2.2.2.2.2.2.2.2.2.2.2.2.2.1
  cases x1.symm.trans y1
  have hfl := fx.2.2.2.2.2.2.2.2.2.2.2.2.2.2.2.1
  have hH : H[fw]? = some scr := by rw [mv.2.2.1.2.1 fw (Nat.lt_of_lt_of_le hfl hz) (Nat.not_le.mpr hfl)]; exact x1
  have hnm : s.vm.findClass "[I" = some (cy 0) := ((fx.2.2.2.2.2.2.2.2.2.2.2.1).2 0 _ rfl).2
  have hcls : scr.cls = cy 0 := Option.some.inj (y2.symm.trans hnm)
  obtain ⟨cc0, tt0, f1, f2, f3⟩ := Cond.castable_spec (va_Nw.use (A := args) rfl (fx.2.2.2.2.2.2.2.2.2.2.2.2.2.2.2.2.2.2.2.2.2.2.1 ("[I", "java/lang/Cloneable") (by decide +kernel)))
  cases hnm.symm.trans f1
  have hslots : scr.slots = (arrV (cy 0) 5 (fun j => .int (am_fw j))).slots := by
    apply Array.ext_getElem?
    intro i
    by_cases hi : i < 5
    · rw [x5 i hi, arrV_read _ _ hi]
    · rw [Array.getElem?_eq_none (by rw [x4]; omega), Array.getElem?_eq_none (by rw [arrV_size]; omega)]
  intro T hT X
  have hcellT : T.heap[fw]? = some scr := by rw [hT]; exact hH
  obtain ⟨-, kA, hkA, comp, hkind⟩ := State.isArrayOf_alike X.warmed.alike (((fx.2.2.2.2.2.2.2.2.2.2.2.1).2 0 _ rfl).1 0 (fun _ => .null))
  obtain ⟨-, kS, hkS, compS, hkindS⟩ := ((fx.2.2.2.2.2.2.2.2.2.2.2.1).2 0 _ rfl).1 0 (fun _ => .null)
  obtain ⟨vm', X', st9⟩ := X.cloneArray fx.1 fx.2.2.2.2.1 (fx.2.2.2.2.2.1 _ g1) (fx.2.2.2.2.2.1 _ (am_in 114 (by decide +kernel) rfl)) (fx.2.2.2.2.2.1 _ (am_in 115 (by decide +kernel) rfl)) (fx.2.2.2.2.2.1 _ (am_in 116 (by decide +kernel) rfl)) (fx.2.2.2.2.2.1 _ (am_in 117 (by decide +kernel) rfl)) (a := fw) (cell := scr) hcellT y3 x3 y2 f2 (by rw [hcls]; exact f3)
    (fun i v hv => by
      rw [hcls]
      have hk' : T.vm.classes[cy 0]? = some kA := hkA
      rw [hslots] at hv
      have hfit : fits .int v = true := va_fit (F := fun j => .int (am_fw j)) (fun i hi => rfl) i v hv
      simpa [State.fitsSlot, State.slotType?, hk', hkind] using hfit)
    (g := F0 m pc la (.ref fw :: st.map (cV ad))) rfl (mv.2.2.2.2.2.2.1.trans fx.2.2.2.1.symm) rfl (by rw [fx.2.1]; exact g0) (by omega) (by show 2 * 0 + _ + 14 ≤ _; omega) (by omega) (by rw [x4]; omega) (hloader := by rw [hcls]; exact Vm.clonesLoader_of_array hkS hkindS)
  have hcellE : ({ cls := scr.cls, slots := scr.slots } : Cell) = vp_cell (cy 0) (5, .inl am_fw) := by rw [hcls, hslots]; rfl
  rw [hcellE, x4] at X'
  generalize hH1 : H.push (vp_cell (cy 0) (5, .inl am_fw)) = H1
  have z1 : H1.size = H.size + 1 := by rw [← hH1, Array.size_push]
  have e1 : H1[H.size]? = some (vp_cell (cy 0) (5, .inl am_fw)) := by rw [← hH1, Array.getElem?_push_size]
  have o1 : ∀ q : Nat, q < H.size → H1[q]? = H[q]? := fun q hq => by rw [← hH1, Array.getElem?_push, if_neg (Nat.ne_of_lt hq)]
  have hk : ∀ (k : Nat) (y : Nat × va_E), (wl cy ad h n)[k]? = some y → H1[y.1]? = H[y.1]? := fun k y hy => o1 y.1 ((mv.1 k y hy).lt)
  have hP1 : va_P D vwCl (wl cy ad h n ++ [(H.size, .inl (cy 0, 5, .inl am_fw))]) H1 := (mv.1.kept hk).app (fun k y hy => by
    have hz9 : k < 1 := (List.getElem?_eq_some_iff.mp hy).1
    rw [show k = 0 by omega] at hy
    cases hy
    exact e1)
  have hD1 : va_D (am_A B0) (wl cy ad h n ++ [(H.size, .inl (cy 0, 5, .inl am_fw))]) := mv.2.1.push mv.1 rfl (Nat.le_trans hz mv.2.2.1.1)
  have hS1 : va_S (am_A B0) s.heap H1 locs := ⟨Nat.le_trans mv.2.2.1.1 (by omega), fun y h1 h2 => (o1 y (Nat.lt_of_lt_of_le h1 mv.2.2.1.1)).trans (mv.2.2.1.2.1 y h1 h2), mv.2.2.1.2.2⟩
  have kw := kw p e R s m args below meth c n0 ad0 fx H1 locs (cells + 1) (slots + 5) la (va_up ad n H.size) (mv.new ab.pop (show cE cy (va_up ad n H.size) (.inl (0, 5, .inl am_fw)) = .inl (cy 0, 5, .inl am_fw) from rfl) hP1 hD1 hS1) (by show cells + 1 + k1 ≤ _; omega) (by show slots + 5 + q1 ≤ _; omega)
  rw [List.map_cons, map_up ab.pop.2.2.2.1, show cV (va_up ad n H.size) (.ref n) = .ref H.size by simp [cV, va_up]] at kw
  obtain ⟨t, b1, b2⟩ := kw ((T.setVm vm').pushCell (vp_cell (cy 0) (5, .inl am_fw))) (by rw [← hH1, ← hT]; rfl) X'
  refine ⟨t, ?_, b2⟩
  rw [List.map_cons, show cV ad (.ref 1) = .ref fw from congrArg Value.ref hfw]
  refine st9 t ?_
  rw [hcellE, hT]
  exact b1
theorem am_extP {n a : Nat} {h : Hp} {e : va_E} {H : Heap} {ad : Nat → Nat} {t : Nat} {x y : vp_A} (h2 : 2 ≤ a) (g : h a = .inl (t, x)) (hx : ∃ x', cE cy ad (.inl (t, x)) = .inl (cy t, x') ∧ ∃ y', cE cy ad e = .inl (cy t, y') ∧ vp_cell (cy t) x' = vp_cell (cy t) y') (hP : va_P D vwCl (wl cy ad h n) H) (hD : va_D (am_A B0) (wl cy ad h n)) : va_P D vwCl (wl cy ad (va_up h a e) n) H ∧ va_D (am_A B0) (wl cy ad (va_up h a e) n) := by
  by_cases hn : a < n
  · rw [← wl_set h2 hn]
    have hg := wl_get (cy := cy) (ad := ad) (h := h) h2 hn
    obtain ⟨x', e1, y', e2, e3⟩ := hx
    rw [g, e1] at hg
    refine ⟨fun k q hk => ?_, hD.set hg⟩
    by_cases hka : a - 2 = k
    · subst hka
      rw [List.getElem?_set_self (List.getElem?_eq_some_iff.mp hg).1] at hk
      cases hk
      rw [e2]
      show H[ad a]? = some (vp_cell (cy t) y')
      rw [← e3]
      exact hP _ _ hg
    · rw [List.getElem?_set_ne hka] at hk
      exact hP k q hk
  · have e9 : wl cy ad (va_up h a e) n = wl cy ad h n := by
      unfold wl
      refine List.map_congr_left fun k hk => ?_
      have hk := List.mem_range.mp hk
      rw [show va_up h a e (k + 2) = h (k + 2) by unfold va_up; rw [if_neg (by omega)]]
    rw [e9]
    exact ⟨hP, hD⟩
theorem arr_ext {cA : ClassId} {n : Nat} {f g : Nat → Value} (h : ∀ j, j < n → f j = g j) : arrV cA n f = arrV cA n g := by
  unfold arrV
  have : (fun j : Fin n => f j.val) = fun j : Fin n => g j.val := funext fun j => h j.val j.isLt
  rw [this]
theorem sd_ext : RU_ext (Snd l D cy B0 b fw L xs) := by
  intro d M pc ls st n h o a t len f f2 g0 g1 g2 p0 ab
  obtain ⟨a1, kw⟩ := p0 (ab.up g0 trivial)
  refine ⟨a1, fun p e R s m args below meth c n0 ad0 fx H locs cells slots la ad mv c1 c2 => ?_⟩
  obtain ⟨hP, hD⟩ := am_extP (y := (len, .inl f)) (e := .inl (t, len, .inl f2)) g0 g1 ⟨(len, .inl f), rfl, (len, .inl f2), rfl, arr_ext fun j hj => congrArg Value.int (g2 j hj)⟩ mv.1 mv.2.1
  exact kw p e R s m args below meth c n0 ad0 fx H locs cells slots la ad ⟨hP, hD, mv.2.2.1, mv.2.2.2.1, mv.2.2.2.2.1, mv.2.2.2.2.2.1, mv.2.2.2.2.2.2⟩ c1 c2
theorem sd_extL : RU_extL (Snd l D cy B0 b fw L xs) := by
  intro d M pc ls st n h o a t len f f2 g0 g1 g2 p0 ab
  obtain ⟨a1, kw⟩ := p0 (ab.up g0 trivial)
  refine ⟨a1, fun p e R s m args below meth c n0 ad0 fx H locs cells slots la ad mv c1 c2 => ?_⟩
  obtain ⟨hP, hD⟩ := am_extP (y := (len, .inr (.inl f))) (e := .inl (t, len, .inr (.inl f2))) g0 g1 ⟨(len, .inr (.inl f)), rfl, (len, .inr (.inl f2)), rfl, arr_ext fun j hj => congrArg Value.long (g2 j hj)⟩ mv.1 mv.2.1
  exact kw p e R s m args below meth c n0 ad0 fx H locs cells slots la ad ⟨hP, hD, mv.2.2.1, mv.2.2.2.1, mv.2.2.2.2.1, mv.2.2.2.2.2.1, mv.2.2.2.2.2.2⟩ c1 c2
theorem sd_callMin : RU_callMin (Snd l D cy B0 b fw L xs) := by
  intro d M pc ls st n h o idx x y g0 g1 g2 p0 ab
  obtain ⟨a1, kw⟩ := p0 ((ab.pop.pop).push trivial)
  refine ⟨a1, fun p e R s m args below meth c n0 ad0 fx H locs cells slots la ad mv c1 c2 => ?_⟩
  have hlo := fx.2.2.2.2.2.2.2.2.2.2.1
  have hfr := fx.2.2.2.2.2.2.2.2.2.1
  have hroom := am_room (ad := ad) g2
  have c3 : cells + o.2.2.2.1 ≤ R.cells := c1
  have c4 : slots + o.2.2.2.2 ≤ R.slots := c2
  exact va_mmin fx.1 fx.2.1 (fx.2.2.2.1.trans mv.2.2.2.2.2.2.1.symm) fx.2.2.2.2.1 (fx.2.2.2.2.2.1 _ g1) (fx.2.2.2.2.2.1 _ (am_in 400 (by decide +kernel) rfl)) (fx.2.2.2.2.2.1 _ (am_in 47 (by decide +kernel) rfl)) (fx.2.2.2.2.2.1 _ (am_in 401 (by decide +kernel) rfl)) (by omega) (by omega) (by omega) (by omega) g0 (kw p e R s m args below meth c n0 ad0 fx H locs cells slots la ad mv c1 c2)
theorem sd_callAbs : RU_callAbs (Snd l D cy B0 b fw L xs) := by
  intro d M pc ls st n h o idx x g0 g1 g2 p0 ab
  obtain ⟨a1, kw⟩ := p0 ((ab.pop).push trivial)
  refine ⟨a1, fun p e R s m args below meth c n0 ad0 fx H locs cells slots la ad mv c1 c2 => ?_⟩
  have hlo := fx.2.2.2.2.2.2.2.2.2.2.1
  have hfr := fx.2.2.2.2.2.2.2.2.2.1
  have hroom := am_room (ad := ad) g2
  have c3 : cells + o.2.2.2.1 ≤ R.cells := c1
  have c4 : slots + o.2.2.2.2 ≤ R.slots := c2
  exact va_mabs fx.1 fx.2.1 (fx.2.2.2.1.trans mv.2.2.2.2.2.2.1.symm) fx.2.2.2.2.1 (fx.2.2.2.2.2.1 _ g1) (fx.2.2.2.2.2.1 _ (am_in 397 (by decide +kernel) rfl)) (fx.2.2.2.2.2.1 _ (am_in 47 (by decide +kernel) rfl)) (fx.2.2.2.2.2.1 _ (am_in 398 (by decide +kernel) rfl)) (by omega) (by omega) (by omega) (by omega) g0 (kw p e R s m args below meth c n0 ad0 fx H locs cells slots la ad mv c1 c2)
theorem sd_callV : RU_callV (Snd l D cy B0 b fw L xs) := by
  intro d M pc ls st n h idx b9 M2 as n1 h1 k1 q1 r n2 h2 k2 q2 k q v ci fs g0 g1 g2 g3 g4 g5 g6 g7 g8 p0 p1 ab
  have hmem : ∀ v ∈ ((.ref b9 :: as) : List Value), v ∈ (as.reverse ++ .ref b9 :: st) := fun v hv => (List.mem_cons.mp hv).elim (fun e9 => List.mem_append_right _ (by rw [e9]; exact List.mem_cons_self)) (fun h9 => List.mem_append_left _ (List.mem_reverse.mpr h9))
  have abc := am_Abargs (vs := (.ref b9 :: as)) ab hmem
  have abr : am_Ab L xs n h ls st := ab.drop.pop
  obtain ⟨o1, -⟩ := p0 abc
  obtain ⟨a2, kw⟩ := p1 (am_Abret abr o1)
  have a1 : am_Oo L xs n (r, n2, h2, k, q) := ⟨Nat.le_trans o1.1 a2.1, a2.2⟩
  refine ⟨a1, fun p e R s m args below meth c n0 ad0 fx H locs cells slots la ad mv c1 c2 => ?_⟩
  have c1 : cells + k ≤ R.cells := c1
  have c2 : slots + q ≤ R.slots := c2
  have hfr := fx.2.2.2.2.2.2.2.2.2.1
  have hlo := fx.2.2.2.2.2.2.2.2.2.2.1
  have hcd : Cond.code (mY M2) (mB M2) (mL M2) (mR M2) ∈ am_ws := by rw [← am_code0 g1.2.2.1]; exact g1.2.1.2.2.2.2.1
  have hM := am_met p0 abc g1.2.1 g1.2.2.1 g4 ad
  have hrecv : ∃ cellB : Cell, H[ad b9]? = some cellB ∧ cellB.vm.isStatics = false ∧ s.vm.findClass (mY M2).cls = some cellB.cls := by
    have he := am_get (cy := cy) ad (ls := ls) (st := st) ab.drop g5
    obtain ⟨q, hq, -⟩ := mv.1 _ _ he
    have hq : vwCl[ci]? = some q := hq
    have h9 := va_recv fx.2.2.2.2.2.2.2.2.2.2.2.1 mv.1 hq he
    rw [← g6, show am_CN ci = q.1 by unfold am_CN; rw [hq]]
    exact h9
  have hstk : (as.reverse ++ .ref b9 :: st).map (cV ad) = (as.map (cV ad)).reverse ++ .ref (ad b9) :: st.map (cV ad) := by
    rw [List.map_append, List.map_reverse]; rfl
  rw [hstk]
  refine am_callR (va_runV (As := as.map (cV ad)) (rest := st.map (cV ad)) (C := (mY M2).cls) ⟨fx.1, fx.2.1, fx.2.2.2.1, fx.2.2.2.2.1, fx.2.2.2.2.2.1⟩ hM ⟨callB_of as.length fx.2.2.2.2.2.1 (am_goodIn (M := M2) hcd) rfl rfl rfl (fx.2.2.2.2.2.1 _ g1.2.1.2.2.1) (fx.2.2.2.2.2.1 _ g1.1) ⟨g1.2.1.2.2.2.1.1, g1.2.1.2.2.2.1.2, g2⟩ ⟨by show 12 + d + 1 ≤ _; omega, by show 8 + (mL M2 + 11) + (300 + 64 * d) ≤ _; have := g1.2.1.2.2.2.2.2; omega⟩, fx.2.2.2.2.2.1 _ g1.2.2.2.1, fx.2.2.2.2.2.1 _ g1.2.2.2.2⟩ ⟨am_blind, hrecv, fun U hU hW => ⟨rfl, am_onU mv.1 fx.2.2.2.2.2.2.2.2.2.2.2.1 mv.2.1 mv.2.2.1 fx.2.2.2.2.2.2.2.2.2.2.2.2 mv.2.2.2.1 hU hW⟩⟩ rfl (List.length_map _) mv.2.2.2.2.2.2.1 rfl (lv_room (am_room g3)) g0 ⟨by omega, by omega⟩) mv.2.2.1 (fun ad' H1 locs1 hag hP hD hS => ?_)
  have mv1 := mv.call abr o1.1 hag hP hD hS
  have kw := kw p e R s m args below meth c n0 ad0 fx H1 locs1 (cells + k1) (slots + q1) la ad' mv1 (by show cells + k1 + k2 ≤ _; omega) (by show slots + q1 + q2 ≤ _; omega)
  rw [am_vst, map_agree hag abr.2.2.2.1] at kw
  exact kw
theorem sd_callS : RU_callS (Snd l D cy B0 b fw L xs) := by
  intro d M pc ls st n h idx M2 as n1 h1 k1 q1 r n2 h2 k2 q2 k q v g0 g1 g2 g3 g4 g5 g6 p0 p1 ab
  have hmem : ∀ v ∈ (as : List Value), v ∈ (as.reverse ++ st) := fun v hv => List.mem_append_left _ (List.mem_reverse.mpr hv)
  have abc := am_Abargs (vs := as) ab hmem
  have abr : am_Ab L xs n h ls st := ab.drop
  obtain ⟨o1, -⟩ := p0 abc
  obtain ⟨a2, kw⟩ := p1 (am_Abret abr o1)
  have a1 : am_Oo L xs n (r, n2, h2, k, q) := ⟨Nat.le_trans o1.1 a2.1, a2.2⟩
  refine ⟨a1, fun p e R s m args below meth c n0 ad0 fx H locs cells slots la ad mv c1 c2 => ?_⟩
  have c1 : cells + k ≤ R.cells := c1
  have c2 : slots + q ≤ R.slots := c2
  have hfr := fx.2.2.2.2.2.2.2.2.2.1
  have hlo := fx.2.2.2.2.2.2.2.2.2.2.1
  have hcd : Cond.code (mY M2) (mB M2) (mL M2) (mR M2) ∈ am_ws := by rw [← am_code0 g1.2.2.1]; exact g1.2.1.2.2.2.2.1
  have hM := am_met p0 abc g1.2.1 g1.2.2.1 g4 ad
  have hstk : (as.reverse ++ st).map (cV ad) = (as.map (cV ad)).reverse ++ st.map (cV ad) := by
    rw [List.map_append, List.map_reverse]
  rw [hstk]
  refine am_callR (va_runS (As := as.map (cV ad)) (rest := st.map (cV ad)) ⟨fx.1, fx.2.1, fx.2.2.2.1, fx.2.2.2.2.1, fx.2.2.2.2.2.1⟩ hM ⟨callB_of as.length fx.2.2.2.2.2.1 (am_goodIn (M := M2) hcd) rfl rfl rfl (fx.2.2.2.2.2.1 _ g1.2.1.2.2.1) (fx.2.2.2.2.2.1 _ g1.1) ⟨g1.2.1.2.2.2.1.1, g1.2.1.2.2.2.1.2, g2⟩ ⟨by show 12 + d + 1 ≤ _; omega, by show 8 + (mL M2 + 11) + (300 + 64 * d) ≤ _; have := g1.2.1.2.2.2.2.2; omega⟩, fx.2.2.2.2.2.1 _ g1.2.2.2⟩ ⟨am_blind, fun U hU hW => ⟨rfl, am_onU mv.1 fx.2.2.2.2.2.2.2.2.2.2.2.1 mv.2.1 mv.2.2.1 fx.2.2.2.2.2.2.2.2.2.2.2.2 mv.2.2.2.1 hU hW⟩⟩ rfl (List.length_map _) mv.2.2.2.2.2.2.1 rfl (lv_room (am_room g3)) g0 ⟨by omega, by omega⟩) mv.2.2.1 (fun ad' H1 locs1 hag hP hD hS => ?_)
  have mv1 := mv.call abr o1.1 hag hP hD hS
  have kw := kw p e R s m args below meth c n0 ad0 fx H1 locs1 (cells + k1) (slots + q1) la ad' mv1 (by show cells + k1 + k2 ≤ _; omega) (by show slots + q1 + q2 ≤ _; omega)
  rw [am_vst, map_agree hag abr.2.2.2.1] at kw
  exact kw
theorem sd_callSf : RU_callSf (Snd l D cy B0 b fw L xs) := by
  intro d M pc ls st n h idx M2 as n1 h1 k1 q1 r n2 h2 k2 q2 k q v n3 g0 g1 g2 g3 g4 g5 g6 g7 g8 g9 g10 p0 p1 ab
  have hmem : ∀ v ∈ (as : List Value), v ∈ (as.reverse ++ st) := fun v hv => List.mem_append_left _ (List.mem_reverse.mpr hv)
  have abc := am_Abargs (vs := as) ab hmem
  have abr : am_Ab L xs n h ls st := ab.drop
  obtain ⟨o1, -⟩ := p0 abc
  have o3 : am_Oo L xs n (.inl v, n3, h1, k1, q1) := ⟨g7, g9, o1.2.2.1, o1.2.2.2.1, fun w9 hw9 => g10 w9 (Sum.inl.inj hw9)⟩
  obtain ⟨a2, kw⟩ := p1 (am_Abret abr o3)
  have a1 : am_Oo L xs n (r, n2, h2, k, q) := ⟨Nat.le_trans g7 a2.1, a2.2⟩
  refine ⟨a1, fun p e R s m args below meth c n0 ad0 fx H locs cells slots la ad mv c1 c2 => ?_⟩
  have c1 : cells + k ≤ R.cells := c1
  have c2 : slots + q ≤ R.slots := c2
  have hfr := fx.2.2.2.2.2.2.2.2.2.1
  have hlo := fx.2.2.2.2.2.2.2.2.2.2.1
  have hcd : Cond.code (mY M2) (mB M2) (mL M2) (mR M2) ∈ am_ws := by rw [← am_code0 g1.2.2.1]; exact g1.2.1.2.2.2.2.1
  have hM := am_met p0 abc g1.2.1 g1.2.2.1 g4 ad
  have hstk : (as.reverse ++ st).map (cV ad) = (as.map (cV ad)).reverse ++ st.map (cV ad) := by
    rw [List.map_append, List.map_reverse]
  rw [hstk]
  refine am_callR (va_runS (As := as.map (cV ad)) (rest := st.map (cV ad)) ⟨fx.1, fx.2.1, fx.2.2.2.1, fx.2.2.2.2.1, fx.2.2.2.2.2.1⟩ hM ⟨callB_of as.length fx.2.2.2.2.2.1 (am_goodIn (M := M2) hcd) rfl rfl rfl (fx.2.2.2.2.2.1 _ g1.2.1.2.2.1) (fx.2.2.2.2.2.1 _ g1.1) ⟨g1.2.1.2.2.2.1.1, g1.2.1.2.2.2.1.2, g2⟩ ⟨by show 12 + d + 1 ≤ _; omega, by show 8 + (mL M2 + 11) + (300 + 64 * d) ≤ _; have := g1.2.1.2.2.2.2.2; omega⟩, fx.2.2.2.2.2.1 _ g1.2.2.2⟩ ⟨am_blind, fun U hU hW => ⟨rfl, am_onU mv.1 fx.2.2.2.2.2.2.2.2.2.2.2.1 mv.2.1 mv.2.2.1 fx.2.2.2.2.2.2.2.2.2.2.2.2 mv.2.2.2.1 hU hW⟩⟩ rfl (List.length_map _) mv.2.2.2.2.2.2.1 rfl (lv_room (am_room g3)) g0 ⟨by omega, by omega⟩) mv.2.2.1 (fun ad' H1 locs1 hag hP hD hS => ?_)
  have mv1 := mv.call (n1 := n3) abr g7 hag (fun k9 q9 h9 => hP k9 q9 (wl_pre g8 h9)) ⟨fun i9 j9 p9 q9 h8 h9 => hD.1 i9 j9 p9 q9 (wl_pre g8 h8) (wl_pre g8 h9), fun k9 q9 h9 => hD.2 k9 q9 (wl_pre g8 h9)⟩ hS
  have kw := kw p e R s m args below meth c n0 ad0 fx H1 locs1 (cells + k1) (slots + q1) la ad' mv1 (by show cells + k1 + k2 ≤ _; omega) (by show slots + q1 + q2 ≤ _; omega)
  rw [am_vst, map_agree hag abr.2.2.2.1] at kw
  exact kw
theorem sd_callT : RU_callT (Snd l D cy B0 b fw L xs) := by
  intro d M pc ls st n h idx M2 as n1 h1 k1 q1 r n2 h2 k2 q2 k q v g0 g1 g2 g3 g4 g5 g6 p0 p1 ab
  have hmem : ∀ v ∈ (as : List Value), v ∈ (as.reverse ++ st) := fun v hv => List.mem_append_left _ (List.mem_reverse.mpr hv)
  have abc := am_Abargs (vs := as) ab hmem
  have abr : am_Ab L xs n h ls st := ab.drop
  obtain ⟨o1, -⟩ := p0 abc
  obtain ⟨a2, kw⟩ := p1 (am_Abret abr o1)
  have a1 : am_Oo L xs n (r, n2, h2, k, q) := ⟨Nat.le_trans o1.1 a2.1, a2.2⟩
  refine ⟨a1, fun p e R s m args below meth c n0 ad0 fx H locs cells slots la ad mv c1 c2 => ?_⟩
  have c1 : cells + k ≤ R.cells := c1
  have c2 : slots + q ≤ R.slots := c2
  have hfr := fx.2.2.2.2.2.2.2.2.2.1
  have hlo := fx.2.2.2.2.2.2.2.2.2.2.1
  have hcd : Cond.codeWith (mY M2) (mB M2) (mL M2) (mR M2) (mH M2) ∈ am_ws := by rw [← am_codeT g1.2.2.1]; exact g1.2.1.2.2.2.2.1
  have hM := am_metT p0 abc g1.2.1 g4 ad
  have hstk : (as.reverse ++ st).map (cV ad) = (as.map (cV ad)).reverse ++ st.map (cV ad) := by
    rw [List.map_append, List.map_reverse]
  have hna : (parseMethodDescriptor (mY M2).desc).map (fun d => d.parameters.length) = some as.length := g2
  rw [hstk]
  refine am_callRX (vx_runSX (As := as.map (cV ad)) (rest := st.map (cV ad)) ⟨fx.1, fx.2.1, fx.2.2.2.1, fx.2.2.2.2.1, fx.2.2.2.2.2.1⟩ hM ⟨⟨rfl, rfl, by show 12 + d + 1 ≤ _; omega, by show 8 + (mL M2 + 11) + (300 + 64 * d) ≤ _; have := g1.2.1.2.2.2.2.2; omega, pay_in fx.2.2.2.2.2.1 (am_goodIn (M := M2) hcd), List.mem_cons_self⟩, fx.2.2.2.2.2.1 _ hcd, fx.2.2.2.2.2.1 _ g1.2.1.2.2.1, g1.2.1.2.2.2.1, (fun sig h9 => by rw [show parseMethodDescriptor (mY M2).desc = some sig from h9] at hna; exact (Option.some.inj hna).symm), fx.2.2.2.2.2.1 _ g1.1, fx.2.2.2.2.2.1 _ g1.2.2.2⟩ ⟨am_blind, fun U hU hW => ⟨rfl, am_onU mv.1 fx.2.2.2.2.2.2.2.2.2.2.2.1 mv.2.1 mv.2.2.1 fx.2.2.2.2.2.2.2.2.2.2.2.2 mv.2.2.2.1 hU hW⟩⟩ rfl (List.length_map _) mv.2.2.2.2.2.2.1 rfl (lv_room (am_room g3)) g0 ⟨by omega, by omega⟩) mv.2.2.1 (fun ad' H1 locs1 hag hP hD hS => ?_)
  have mv1 := mv.call abr o1.1 hag hP hD hS
  have kw := kw p e R s m args below meth c n0 ad0 fx H1 locs1 (cells + k1) (slots + q1) la ad' mv1 (by show cells + k1 + k2 ≤ _; omega) (by show slots + q1 + q2 ≤ _; omega)
  rw [am_vst, map_agree hag abr.2.2.2.1] at kw
  exact kw
theorem sd_callI : RU_callI (Snd l D cy B0 b fw L xs) := by
  intro d M pc ls st n h idx b9 M2 as n1 h1 k1 q1 r n2 h2 k2 q2 k q v g0 g1 g2 g3 g4 g5 g6 p0 p1 ab
  have hmem : ∀ v ∈ ((.ref b9 :: as) : List Value), v ∈ (as.reverse ++ .ref b9 :: st) := fun v hv => (List.mem_cons.mp hv).elim (fun e9 => List.mem_append_right _ (by rw [e9]; exact List.mem_cons_self)) (fun h9 => List.mem_append_left _ (List.mem_reverse.mpr h9))
  have abc := am_Abargs (vs := (.ref b9 :: as)) ab hmem
  have abr : am_Ab L xs n h ls st := ab.drop.pop
  obtain ⟨o1, -⟩ := p0 abc
  obtain ⟨a2, kw⟩ := p1 (am_Abret abr o1)
  have a1 : am_Oo L xs n (r, n2, h2, k, q) := ⟨Nat.le_trans o1.1 a2.1, a2.2⟩
  refine ⟨a1, fun p e R s m args below meth c n0 ad0 fx H locs cells slots la ad mv c1 c2 => ?_⟩
  have c1 : cells + k ≤ R.cells := c1
  have c2 : slots + q ≤ R.slots := c2
  have hfr := fx.2.2.2.2.2.2.2.2.2.1
  have hlo := fx.2.2.2.2.2.2.2.2.2.2.1
  have hcd : Cond.code (mY M2) (mB M2) (mL M2) (mR M2) ∈ am_ws := by rw [← am_code0 g1.2.2.1]; exact g1.2.1.2.2.2.2.1
  have hret : mR M2 = none := g1.2.2.2.2.1
  have hM := am_met p0 abc g1.2.1 g1.2.2.1 g4 ad
  have hstk : (as.reverse ++ .ref b9 :: st).map (cV ad) = (as.map (cV ad)).reverse ++ .ref (ad b9) :: st.map (cV ad) := by
    rw [List.map_append, List.map_reverse]; rfl
  rw [hret] at hM hcd
  rw [hstk]
  refine am_callR (va_runI (As := as.map (cV ad)) (rest := st.map (cV ad)) ⟨fx.1, fx.2.1, fx.2.2.2.1, fx.2.2.2.2.1, fx.2.2.2.2.2.1⟩ hM ⟨callB_of as.length fx.2.2.2.2.2.1 (am_goodIn (M := M2) hcd) rfl rfl rfl (fx.2.2.2.2.2.1 _ g1.2.1.2.2.1) (fx.2.2.2.2.2.1 _ g1.1) ⟨g1.2.1.2.2.2.1.1, g1.2.1.2.2.2.1.2, g2⟩ ⟨by show 12 + d + 1 ≤ _; omega, by show 8 + (mL M2 + 11) + (300 + 64 * d) ≤ _; have := g1.2.1.2.2.2.2.2; omega⟩, g1.2.2.2.1, fx.2.2.2.2.2.1 _ g1.2.2.2.2.2⟩ ⟨am_blind, fun U hU hW => ⟨rfl, am_onU mv.1 fx.2.2.2.2.2.2.2.2.2.2.2.1 mv.2.1 mv.2.2.1 fx.2.2.2.2.2.2.2.2.2.2.2.2 mv.2.2.2.1 hU hW⟩⟩ rfl (List.length_map _) mv.2.2.2.2.2.2.1 rfl (lv_room (am_room g3)) g0 ⟨by omega, by omega⟩) mv.2.2.1 (fun ad' H1 locs1 hag hP hD hS => ?_)
  have mv1 := mv.call abr o1.1 hag hP hD hS
  have kw := kw p e R s m args below meth c n0 ad0 fx H1 locs1 (cells + k1) (slots + q1) la ad' mv1 (by show cells + k1 + k2 ≤ _; omega) (by show slots + q1 + q2 ≤ _; omega)
  rw [am_vst, map_agree hag abr.2.2.2.1] at kw
  exact kw
theorem sd_callN : RU_callN (Snd l D cy B0 b fw L xs) := by
  intro d M pc ls st n h idx b9 M2 as n1 h1 k1 q1 r n2 h2 k2 q2 k q v g0 g1 g2 g3 g4 g5 g6 p0 p1 ab
  have hmem : ∀ v ∈ ((.ref b9 :: as) : List Value), v ∈ (as.reverse ++ .ref b9 :: st) := fun v hv => (List.mem_cons.mp hv).elim (fun e9 => List.mem_append_right _ (by rw [e9]; exact List.mem_cons_self)) (fun h9 => List.mem_append_left _ (List.mem_reverse.mpr h9))
  have abc := am_Abargs (vs := (.ref b9 :: as)) ab hmem
  have abr : am_Ab L xs n h ls st := ab.drop.pop
  obtain ⟨o1, -⟩ := p0 abc
  obtain ⟨a2, kw⟩ := p1 (am_Abret abr o1)
  have a1 : am_Oo L xs n (r, n2, h2, k, q) := ⟨Nat.le_trans o1.1 a2.1, a2.2⟩
  refine ⟨a1, fun p e R s m args below meth c n0 ad0 fx H locs cells slots la ad mv c1 c2 => ?_⟩
  have c1 : cells + k ≤ R.cells := c1
  have c2 : slots + q ≤ R.slots := c2
  have hfr := fx.2.2.2.2.2.2.2.2.2.1
  have hlo := fx.2.2.2.2.2.2.2.2.2.2.1
  have hcd : Cond.code (mY M2) (mB M2) (mL M2) (mR M2) ∈ am_ws := by rw [← am_code0 g1.2.2.1]; exact g1.2.1.2.2.2.2.1
  have hret : mR M2 = none := g1.2.2.2.2.1
  have hM := am_met p0 abc g1.2.1 g1.2.2.1 g4 ad
  have hstk : (as.reverse ++ .ref b9 :: st).map (cV ad) = (as.map (cV ad)).reverse ++ .ref (ad b9) :: st.map (cV ad) := by
    rw [List.map_append, List.map_reverse]; rfl
  rw [hret] at hM hcd
  rw [hstk]
  refine am_callR (va_runIN (As := as.map (cV ad)) (rest := st.map (cV ad)) ⟨fx.1, fx.2.1, fx.2.2.2.1, fx.2.2.2.2.1, fx.2.2.2.2.2.1⟩ hM ⟨va_cnB as.length fx.2.2.2.2.2.1 (am_goodIn (M := M2) hcd) rfl rfl rfl (fx.2.2.2.2.2.2.2.2.2.2.2.2.2.2.2.2.2.2.2.2.1 _ g1.1) (fx.2.2.2.2.2.1 _ g1.2.1.2.2.1) ⟨g1.2.1.2.2.2.1.1, g1.2.1.2.2.2.1.2, g2⟩ ⟨by show 12 + d + 1 ≤ _; omega, by show 8 + (mL M2 + 11) + (300 + 64 * d) ≤ _; have := g1.2.1.2.2.2.2.2; omega⟩, g1.2.2.2.1, fx.2.2.2.2.2.1 _ g1.2.2.2.2.2⟩ ⟨am_blind, fun U hU hW => ⟨rfl, am_onU mv.1 fx.2.2.2.2.2.2.2.2.2.2.2.1 mv.2.1 mv.2.2.1 fx.2.2.2.2.2.2.2.2.2.2.2.2 mv.2.2.2.1 hU hW⟩⟩ rfl (List.length_map _) mv.2.2.2.2.2.2.1 rfl (lv_room (am_room g3)) g0 ⟨by omega, by omega⟩) mv.2.2.1 (fun ad' H1 locs1 hag hP hD hS => ?_)
  have mv1 := mv.call abr o1.1 hag hP hD hS
  have kw := kw p e R s m args below meth c n0 ad0 fx H1 locs1 (cells + k1) (slots + q1) la ad' mv1 (by show cells + k1 + k2 ≤ _; omega) (by show slots + q1 + q2 ≤ _; omega)
  rw [am_vst, map_agree hag abr.2.2.2.1] at kw
  exact kw
theorem sd_callZ : RU_callZ (Snd l D cy B0 b fw L xs) := by
  intro d M pc ls st n h idx M2 as n1 h1 k1 q1 r n2 h2 k2 q2 k q v g0 g1 g2 g3 g4 g5 g6 p0 p1 ab
  have hmem : ∀ v ∈ (as : List Value), v ∈ (as.reverse ++ st) := fun v hv => List.mem_append_left _ (List.mem_reverse.mpr hv)
  have abc := am_Abargs (vs := as) ab hmem
  have abr : am_Ab L xs n h ls st := ab.drop
  obtain ⟨o1, -⟩ := p0 abc
  obtain ⟨a2, kw⟩ := p1 (am_Abret abr o1)
  have a1 : am_Oo L xs n (r, n2, h2, k, q) := ⟨Nat.le_trans o1.1 a2.1, a2.2⟩
  refine ⟨a1, fun p e R s m args below meth c n0 ad0 fx H locs cells slots la ad mv c1 c2 => ?_⟩
  have c1 : cells + k ≤ R.cells := c1
  have c2 : slots + q ≤ R.slots := c2
  have hfr := fx.2.2.2.2.2.2.2.2.2.1
  have hlo := fx.2.2.2.2.2.2.2.2.2.2.1
  have hcd : Cond.code (mY M2) (mB M2) (mL M2) (mR M2) ∈ am_ws := by rw [← am_code0 g1.2.2.1]; exact g1.2.1.2.2.2.2.1
  have hM := am_met p0 abc g1.2.1 g1.2.2.1 g4 ad
  have hstk : (as.reverse ++ st).map (cV ad) = (as.map (cV ad)).reverse ++ st.map (cV ad) := by
    rw [List.map_append, List.map_reverse]
  rw [hstk]
  refine am_callR (va_runSN (As := as.map (cV ad)) (rest := st.map (cV ad)) ⟨fx.1, fx.2.1, fx.2.2.2.1, fx.2.2.2.2.1, fx.2.2.2.2.2.1⟩ hM ⟨va_cnB as.length fx.2.2.2.2.2.1 (am_goodIn (M := M2) hcd) rfl rfl rfl (fx.2.2.2.2.2.2.2.2.2.2.2.2.2.2.2.2.2.2.2.2.1 _ g1.1) (fx.2.2.2.2.2.1 _ g1.2.1.2.2.1) ⟨g1.2.1.2.2.2.1.1, g1.2.1.2.2.2.1.2, g2⟩ ⟨by show 12 + d + 1 ≤ _; omega, by show 8 + (mL M2 + 11) + (300 + 64 * d) ≤ _; have := g1.2.1.2.2.2.2.2; omega⟩, fx.2.2.2.2.2.1 _ g1.2.2.2, trivial⟩ ⟨am_blind, fun U hU hW => ⟨rfl, am_onU mv.1 fx.2.2.2.2.2.2.2.2.2.2.2.1 mv.2.1 mv.2.2.1 fx.2.2.2.2.2.2.2.2.2.2.2.2 mv.2.2.2.1 hU hW⟩⟩ rfl (List.length_map _) mv.2.2.2.2.2.2.1 rfl (lv_room (am_room g3)) g0 ⟨by omega, by omega⟩) mv.2.2.1 (fun ad' H1 locs1 hag hP hD hS => ?_)
  have mv1 := mv.call abr o1.1 hag hP hD hS
  have kw := kw p e R s m args below meth c n0 ad0 fx H1 locs1 (cells + k1) (slots + q1) la ad' mv1 (by show cells + k1 + k2 ≤ _; omega) (by show slots + q1 + q2 ≤ _; omega)
  rw [am_vst, map_agree hag abr.2.2.2.1] at kw
  exact kw
theorem sd_callVx : RU_callVx (Snd l D cy B0 b fw L xs) := by
  intro d M pc ls st n h idx b9 M2 as n1 h1 k1 q1 E ci fs g0 g1 g2 g3 g4 g5 g6 g7 p0 ab
  have hmem : ∀ v ∈ ((.ref b9 :: as) : List Value), v ∈ (as.reverse ++ .ref b9 :: st) := fun v hv => (List.mem_cons.mp hv).elim (fun e9 => List.mem_append_right _ (by rw [e9]; exact List.mem_cons_self)) (fun h9 => List.mem_append_left _ (List.mem_reverse.mpr h9))
  have abc := am_Abargs (vs := (.ref b9 :: as)) ab hmem
  have abr : am_Ab L xs n h ls st := ab.drop.pop
  obtain ⟨o1, -⟩ := p0 abc
  have a1 : am_Oo L xs n (.inr E, n1, h1, k1, q1) := o1
  refine ⟨a1, fun p e R s m args below meth c n0 ad0 fx H locs cells slots la ad mv c1 c2 => ?_⟩
  have c1 : cells + k1 ≤ R.cells := c1
  have c2 : slots + q1 ≤ R.slots := c2
  have hfr := fx.2.2.2.2.2.2.2.2.2.1
  have hlo := fx.2.2.2.2.2.2.2.2.2.2.1
  have hcd : Cond.code (mY M2) (mB M2) (mL M2) (mR M2) ∈ am_ws := by rw [← am_code0 g1.2.2.1]; exact g1.2.1.2.2.2.2.1
  have hM := am_metX p0 abc g1.2.1 g1.2.2.1 g4 ad
  have hrecv : ∃ cellB : Cell, H[ad b9]? = some cellB ∧ cellB.vm.isStatics = false ∧ s.vm.findClass (mY M2).cls = some cellB.cls := by
    have he := am_get (cy := cy) ad (ls := ls) (st := st) ab.drop g5
    obtain ⟨q, hq, -⟩ := mv.1 _ _ he
    have hq : vwCl[ci]? = some q := hq
    have h9 := va_recv fx.2.2.2.2.2.2.2.2.2.2.2.1 mv.1 hq he
    rw [← g6, show am_CN ci = q.1 by unfold am_CN; rw [hq]]
    exact h9
  have hstk : (as.reverse ++ .ref b9 :: st).map (cV ad) = (as.map (cV ad)).reverse ++ .ref (ad b9) :: st.map (cV ad) := by
    rw [List.map_append, List.map_reverse]; rfl
  rw [hstk]
  refine am_callX (vx_runV (As := as.map (cV ad)) (rest := st.map (cV ad)) (C := (mY M2).cls) ⟨fx.1, fx.2.1, fx.2.2.2.1, fx.2.2.2.2.1, fx.2.2.2.2.2.1⟩ hM ⟨callB_of as.length fx.2.2.2.2.2.1 (am_goodIn (M := M2) hcd) rfl rfl rfl (fx.2.2.2.2.2.1 _ g1.2.1.2.2.1) (fx.2.2.2.2.2.1 _ g1.1) ⟨g1.2.1.2.2.2.1.1, g1.2.1.2.2.2.1.2, g2⟩ ⟨by show 12 + d + 1 ≤ _; omega, by show 8 + (mL M2 + 11) + (300 + 64 * d) ≤ _; have := g1.2.1.2.2.2.2.2; omega⟩, fx.2.2.2.2.2.1 _ g1.2.2.2.1, fx.2.2.2.2.2.1 _ g1.2.2.2.2⟩ ⟨am_blind, hrecv, fun U hU hW => ⟨rfl, am_onU mv.1 fx.2.2.2.2.2.2.2.2.2.2.2.1 mv.2.1 mv.2.2.1 fx.2.2.2.2.2.2.2.2.2.2.2.2 mv.2.2.2.1 hU hW⟩⟩ rfl (List.length_map _) mv.2.2.2.2.2.2.1 rfl (lv_room (am_room g3)) g0 ⟨by omega, by omega⟩) mv.2.2.1 (fun ad' H1 locs1 ce q9 hag hP hD hS hce hcv hcl => ?_)
  exact vx_out (by rw [fx.2.2.2.2.2.2.2.2.1, g7]; exact fun x hx => by cases hx) fx.2.2.2.2.2.2.1 hce hcv hcl (fun t ht hvm => ⟨rfl, ⟨ad', fun k hk => (hag k (Nat.lt_of_lt_of_le hk mv.2.2.2.2.1)).trans (mv.2.2.2.2.2.1 k hk), by rw [ht]; exact hP, va_K.moved hvm fx.2.2.2.2.2.2.2.2.2.2.2.1, hD⟩, hS.F ht⟩) hS.2.2 c1 c2
theorem sd_callVc : RU_callVc (Snd l D cy B0 b fw L xs) := by
  intro d M pc ls st n h idx b9 M2 as n1 h1 k1 q1 r n2 h2 k2 q2 k q E ci fs hpc hk hl g0 g1 g2 g3 g4 g5 g6 g7 g8 g9 g10 g11 p0 p1 ab
  have hmem : ∀ v ∈ ((.ref b9 :: as) : List Value), v ∈ (as.reverse ++ .ref b9 :: st) := fun v hv => (List.mem_cons.mp hv).elim (fun e9 => List.mem_append_right _ (by rw [e9]; exact List.mem_cons_self)) (fun h9 => List.mem_append_left _ (List.mem_reverse.mpr h9))
  have abc := am_Abargs (vs := (.ref b9 :: as)) ab hmem
  have abr : am_Ab L xs n h ls st := ab.drop.pop
  obtain ⟨o1, -⟩ := p0 abc
  obtain ⟨a2, kw⟩ := p1 (am_Abx abr o1 hk)
  have a1 : am_Oo L xs n (r, n2, h2, k, q) := ⟨Nat.le_trans o1.1 a2.1, a2.2⟩
  refine ⟨a1, fun p e R s m args below meth c n0 ad0 fx H locs cells slots la ad mv c1 c2 => ?_⟩
  have c1 : cells + k ≤ R.cells := c1
  have c2 : slots + q ≤ R.slots := c2
  have hfr := fx.2.2.2.2.2.2.2.2.2.1
  have hlo := fx.2.2.2.2.2.2.2.2.2.2.1
  have hcd : Cond.code (mY M2) (mB M2) (mL M2) (mR M2) ∈ am_ws := by rw [← am_code0 g1.2.2.1]; exact g1.2.1.2.2.2.2.1
  have hM := am_metX p0 abc g1.2.1 g1.2.2.1 g4 ad
  have hrecv : ∃ cellB : Cell, H[ad b9]? = some cellB ∧ cellB.vm.isStatics = false ∧ s.vm.findClass (mY M2).cls = some cellB.cls := by
    have he := am_get (cy := cy) ad (ls := ls) (st := st) ab.drop g5
    obtain ⟨q, hq, -⟩ := mv.1 _ _ he
    have hq : vwCl[ci]? = some q := hq
    have h9 := va_recv fx.2.2.2.2.2.2.2.2.2.2.2.1 mv.1 hq he
    rw [← g6, show am_CN ci = q.1 by unfold am_CN; rw [hq]]
    exact h9
  have hstk : (as.reverse ++ .ref b9 :: st).map (cV ad) = (as.map (cV ad)).reverse ++ .ref (ad b9) :: st.map (cV ad) := by
    rw [List.map_append, List.map_reverse]; rfl
  rw [hstk]
  refine am_callX (vx_runV (As := as.map (cV ad)) (rest := st.map (cV ad)) (C := (mY M2).cls) ⟨fx.1, fx.2.1, fx.2.2.2.1, fx.2.2.2.2.1, fx.2.2.2.2.2.1⟩ hM ⟨callB_of as.length fx.2.2.2.2.2.1 (am_goodIn (M := M2) hcd) rfl rfl rfl (fx.2.2.2.2.2.1 _ g1.2.1.2.2.1) (fx.2.2.2.2.2.1 _ g1.1) ⟨g1.2.1.2.2.2.1.1, g1.2.1.2.2.2.1.2, g2⟩ ⟨by show 12 + d + 1 ≤ _; omega, by show 8 + (mL M2 + 11) + (300 + 64 * d) ≤ _; have := g1.2.1.2.2.2.2.2; omega⟩, fx.2.2.2.2.2.1 _ g1.2.2.2.1, fx.2.2.2.2.2.1 _ g1.2.2.2.2⟩ ⟨am_blind, hrecv, fun U hU hW => ⟨rfl, am_onU mv.1 fx.2.2.2.2.2.2.2.2.2.2.2.1 mv.2.1 mv.2.2.1 fx.2.2.2.2.2.2.2.2.2.2.2.2 mv.2.2.2.1 hU hW⟩⟩ rfl (List.length_map _) mv.2.2.2.2.2.2.1 rfl (lv_room (am_room g3)) g0 ⟨by omega, by omega⟩) mv.2.2.1 (fun ad' H1 locs1 ce q9 hag hP hD hS hce hcv hcl => ?_)
  obtain ⟨pre, x, suf, t1, t2, t3, t4, t5, t6, t7⟩ := g7
  have mv1 := mv.call abr o1.1 hag hP hD hS
  have kk : ∀ la' : Array Slot, lv_has la' (mL M) ((hk, Value.ref q9) :: (lrm ls hk).map (cvP ad')) → W p l e R s m args below meth c H1 locs1 (cells + k1) (slots + q1) (am_Fin D cy B0 (r, n2, h2, k, q) n0 ad0 below args s R) (F0 m (hpc + hl) la' []) := fun la' h9 =>
    kw p e R s m args below meth c n0 ad0 fx H1 locs1 (cells + k1) (slots + q1) la' ad' (mv1.st (ls' := lrm ls hk) ⟨h9.1, h9.2.1, fun q hq => h9.2.2 q (List.mem_cons_of_mem _ hq)⟩) (by show cells + k1 + k2 ≤ _; omega) (by show slots + q1 + q2 ≤ _; omega)
  refine vx_catch fx.2.2.2.2.1 (tableOf pre) ⟨x.1, x.2.1, x.2.2.1, x.2.2.2⟩ (tableOf suf) (by rw [fx.2.2.2.2.2.2.2.2.1, t1]; simp [tableOf]) (fun z hz => ?_) t3 t4 (fx.2.2.2.2.2.1 _ t5) (va_Nw.use rfl (fx.2.2.2.2.2.2.2.2.2.2.2.2.2.2.2.2.2.2.2.2.2.2.1 _ t6)) hce hcv hcl ?_
  · obtain ⟨z0, hz0, rfl⟩ := List.mem_map.mp hz
    obtain ⟨w1, nm, w2, w3⟩ := t7 z0 hz0
    exact Or.inr ⟨w1, nm, fx.2.2.2.2.2.1 _ w2, fx.2.2.2.2.2.2.2.2.2.2.2.2.2.2.2.2.2.2.2.2.2.2.2.1 _ w3⟩
  · subst t2
    rcases g8 with ⟨g8, rfl⟩ | ⟨z, rfl, g8, rfl⟩
    · exact lv_astore (lv := ls.map (cvP ad')) fx.1 fx.2.1 g8 mv1.2.2.2.2.2.2 g9 (congrArg (List.cons (hk, Value.ref q9)) (lrm_map ad' hk ls)) kk
    · exact lv_astore_n (lv := ls.map (cvP ad')) fx.1 fx.2.1 g8 rfl mv1.2.2.2.2.2.2 g9 (congrArg (List.cons ((z : Nat), Value.ref q9)) (lrm_map ad' z ls)) kk
theorem sd_throwS (hlf : l.stackTraces = false) : RU_throwS (Snd l D cy B0 b fw L xs) := by
  intro d M pc ls st n h E g0 g1 g2  ab
  have a1 : am_Oo L xs n (.inr E, n, h, 1, 6) := ⟨Nat.le_refl _, ab.2.1, ab.2.2.2.2.1, ab.2.2.2.2.2, fun v hv => by cases hv⟩
  refine ⟨a1, fun p e R s m args below meth c n0 ad0 fx H locs cells slots la ad mv c1 c2 => ?_⟩
  have c1 : cells + 1 ≤ R.cells := c1
  have c2 : slots + 6 ≤ R.slots := c2
  have hfr := fx.2.2.2.2.2.2.2.2.2.1
  have hlo := fx.2.2.2.2.2.2.2.2.2.2.1
  have hroom := am_room (ad := ad) g1
  obtain ⟨ik, is, ic, text, names, d0, d3, d4, d6, d9, t1, t2, t3, t4, t5, t6, t7, t8, t9⟩ := g0
  obtain ⟨sa, hsa⟩ := fx.2.2.2.2.2.2.2.2.2.2.2.2.2.2.2.2.2.2.2.1 _ t6
  exact vx_throwS (A := am_A B0) fx.1 fx.2.1 hlf fx.2.2.2.2.1 t1 t2 (fx.2.2.2.2.2.1 _ t4) (fx.2.2.2.2.2.1 _ t5) hsa (fun w hw => (t7 w hw).elim (fx.2.2.2.2.2.1 w) (fun e9 => e9.elim (fun e9 => by rw [e9]; exact va_Nw.use rfl (fx.2.2.2.2.2.2.2.2.2.2.2.2.2.2.2.2.2.2.2.2.2.2.1 _ t8)) (fun e9 => by
    obtain ⟨x9, hx9, rfl⟩ := e9
    exact va_Nw.use rfl (fx.2.2.2.2.2.2.2.2.2.2.2.2.2.2.2.2.2.2.2.2.2.2.2.2.2.1 _ hx9)))) t9 fx.2.2.2.2.2.2.2.2.2.2.2.2.2.2.2.2.2.1 fx.2.2.2.2.2.2.2.2.2.2.2.2.2.2.2.2.2.2.1 mv.2.2.1 (mv.2.2.2.2.2.2.1.trans fx.2.2.2.1.symm) d0 d3 d4 d6 d9 (by rw [fx.2.2.2.2.2.2.2.2.1, g2]; exact fun x hx => by cases hx) (by omega) (by omega) c1 c2 fx.2.2.2.2.2.2.1
    (fun t hvm hz hk => ⟨rfl, ⟨ad, mv.2.2.2.2.2.1, mv.1.kept (fun k y hy => hk _ ((mv.1 k y hy).lt)), va_K.moved hvm fx.2.2.2.2.2.2.2.2.2.2.2.1, mv.2.1⟩, Nat.le_trans mv.2.2.1.1 hz, fun q h1 h2 => (hk q (Nat.lt_of_lt_of_le h1 mv.2.2.1.1)).trans (mv.2.2.1.2.1 q h1 h2)⟩) mv.2.2.1.2.2 c1 c2
theorem sd_ireturn : RU_ireturn (Snd l D cy B0 b fw L xs) := by
  intro d M pc ls n h v g0 g1  ab
  have a1 : am_Oo L xs n (.inl (some (.int v)), n, h, 0, 0) := ⟨Nat.le_refl _, ab.2.1, ab.2.2.2.2.1, ab.2.2.2.2.2, fun v9 hv9 => by cases hv9; trivial⟩
  refine ⟨a1, fun p e R s m args below meth c n0 ad0 fx H locs cells slots la ad mv c1 c2 => ?_⟩
  refine W.widen (k := R.cells) (n := R.slots) c1 c2 ?_
  exact W.iret fx.1 fx.2.1 (fx.2.2.1.trans g1)  (fun t ht hW => ⟨⟨ad, mv.2.2.2.2.2.1, rfl, by rw [ht]; exact mv.1, va_K.moved hW.alike fx.2.2.2.2.2.2.2.2.2.2.2.1, mv.2.1⟩, mv.2.2.1.F ht⟩) mv.2.2.1.2.2 g0 (hlocks := fx.2.2.2.2.2.2.1)
theorem sd_zreturn : RU_zreturn (Snd l D cy B0 b fw L xs) := by
  intro d M pc ls n h v g0 g1 g2  ab
  have a1 : am_Oo L xs n (.inl (some (.int v)), n, h, 0, 0) := ⟨Nat.le_refl _, ab.2.1, ab.2.2.2.2.1, ab.2.2.2.2.2, fun v9 hv9 => by cases hv9; trivial⟩
  refine ⟨a1, fun p e R s m args below meth c n0 ad0 fx H locs cells slots la ad mv c1 c2 => ?_⟩
  refine W.widen (k := R.cells) (n := R.slots) c1 c2 ?_
  exact W.zret fx.1 fx.2.1 (fx.2.2.1.trans g1) (by rcases g2 with rfl | rfl <;> rfl) (fun t ht hW => ⟨⟨ad, mv.2.2.2.2.2.1, rfl, by rw [ht]; exact mv.1, va_K.moved hW.alike fx.2.2.2.2.2.2.2.2.2.2.2.1, mv.2.1⟩, mv.2.2.1.F ht⟩) mv.2.2.1.2.2 g0 (hlocks := fx.2.2.2.2.2.2.1)
theorem sd_lreturn : RU_lreturn (Snd l D cy B0 b fw L xs) := by
  intro d M pc ls n h v g0 g1  ab
  have a1 : am_Oo L xs n (.inl (some (.long v)), n, h, 0, 0) := ⟨Nat.le_refl _, ab.2.1, ab.2.2.2.2.1, ab.2.2.2.2.2, fun v9 hv9 => by cases hv9; trivial⟩
  refine ⟨a1, fun p e R s m args below meth c n0 ad0 fx H locs cells slots la ad mv c1 c2 => ?_⟩
  refine W.widen (k := R.cells) (n := R.slots) c1 c2 ?_
  exact W.lret fx.1 fx.2.1 (fx.2.2.1.trans g1)  (fun t ht hW => ⟨⟨ad, mv.2.2.2.2.2.1, rfl, by rw [ht]; exact mv.1, va_K.moved hW.alike fx.2.2.2.2.2.2.2.2.2.2.2.1, mv.2.1⟩, mv.2.2.1.F ht⟩) mv.2.2.1.2.2 g0 (hlocks := fx.2.2.2.2.2.2.1)
theorem sd_areturn : RU_areturn (Snd l D cy B0 b fw L xs) := by
  intro d M pc ls n h v cn g0 g1 g2  ab
  have a1 : am_Oo L xs n (.inl (some v), n, h, 0, 0) := ⟨Nat.le_refl _, ab.2.1, ab.2.2.2.2.1, ab.2.2.2.2.2, fun v9 hv9 => by cases hv9; exact ab.top⟩
  refine ⟨a1, fun p e R s m args below meth c n0 ad0 fx H locs cells slots la ad mv c1 c2 => ?_⟩
  refine W.widen (k := R.cells) (n := R.slots) c1 c2 ?_
  exact W.aret (v := cV ad v) fx.1 fx.2.1 (fx.2.2.1.trans g1) (Or.inl ⟨cn, rfl⟩) (by rcases g2 with rfl | ⟨a, rfl⟩; exact Or.inl rfl; exact Or.inr ⟨ad a, rfl⟩) (fun t ht hW => ⟨⟨ad, mv.2.2.2.2.2.1, rfl, by rw [ht]; exact mv.1, va_K.moved hW.alike fx.2.2.2.2.2.2.2.2.2.2.2.1, mv.2.1⟩, mv.2.2.1.F ht⟩) mv.2.2.1.2.2 g0 (hlocks := fx.2.2.2.2.2.2.1)
theorem sd_vreturn : RU_vreturn (Snd l D cy B0 b fw L xs) := by
  intro d M pc ls n h  g0 g1  ab
  have a1 : am_Oo L xs n (.inl none, n, h, 0, 0) := ⟨Nat.le_refl _, ab.2.1, ab.2.2.2.2.1, ab.2.2.2.2.2, fun v9 hv9 => by cases hv9⟩
  refine ⟨a1, fun p e R s m args below meth c n0 ad0 fx H locs cells slots la ad mv c1 c2 => ?_⟩
  refine W.widen (k := R.cells) (n := R.slots) c1 c2 ?_
  exact W.vret fx.1 fx.2.1 (fx.2.2.1.trans g1)  (fun t ht hW => ⟨⟨ad, mv.2.2.2.2.2.1, rfl, by rw [ht]; exact mv.1, va_K.moved hW.alike fx.2.2.2.2.2.2.2.2.2.2.2.1, mv.2.1⟩, mv.2.2.1.F ht⟩) mv.2.2.1.2.2 g0 (hlocks := fx.2.2.2.2.2.2.1)
theorem am_rules (hlf : l.stackTraces = false) : Rules (Snd l D cy B0 b fw L xs) := ⟨sd_iconst, sd_bipush, sd_sipush, sd_lconst, sd_ldc, sd_ldcw, sd_ldc2, sd_null, sd_iload_n, sd_iload, sd_lload_n, sd_lload, sd_aload_n, sd_aload, sd_aload_nN, sd_aloadN, sd_istore_n, sd_istore, sd_lstore_n, sd_lstore, sd_astore_n, sd_astore, sd_astore_nN, sd_astoreN, sd_iinc, sd_iadd, sd_isub, sd_imul, sd_iand, sd_ior, sd_ixor, sd_ishl, sd_ishr, sd_ladd, sd_lmul, sd_iushr, sd_ineg, sd_idiv, sd_irem, sd_ldiv, sd_lrem, sd_lcmp, sd_i2l, sd_l2i, sd_dup, sd_pop, sd_dup2_11, sd_if_eq, sd_icmp_eq, sd_if_ne, sd_icmp_ne, sd_if_lt, sd_icmp_lt, sd_if_ge, sd_icmp_ge, sd_if_gt, sd_icmp_gt, sd_if_le, sd_icmp_le, sd_goto, sd_ifnull, sd_ifnullN, sd_ifnonnull, sd_ifnonnullN, sd_tableIn, sd_tableOut, sd_sub, sd_ext, sd_extL, sd_getfield, sd_putfield, sd_arraylength, sd_iaload, sd_laload, sd_aaload, sd_iastore, sd_lastore, sd_aastore, sd_new, sd_newarray0, sd_newarray1, sd_anewarray, sd_getFW, sd_cloneFW, sd_castI, sd_objInit, sd_callMin, sd_callAbs, sd_callV, sd_callS, sd_callT, sd_callI, sd_callN, sd_callZ, sd_callSf, sd_callVx, sd_callVc, sd_throwS hlf, sd_ireturn, sd_zreturn, sd_lreturn, sd_areturn, sd_vreturn⟩
end SND
