/-! numbers: what is counted and given, for either side -/
def MM : Nat := 1000000
def sumN (f : Nat → Nat) : Nat → Nat
  | 0 => 0
  | k + 1 => sumN f k + f k
def mtI (off o : Nat) (wa : Nat → Nat) : Nat → (Nat → Nat) → (Nat → Nat)
  | 0, C => C
  | k + 1, C => va_up (mtI off o wa k C) (15 * wa k + o + off) 1
def mtO (off : Nat) (wa : Nat → Nat) (la : Nat) (wb : Nat → Nat) : Nat → (Nat → Nat) → (Nat → Nat)
  | 0, C => C
  | j + 1, C => mtI off (wb j) wa la (va_up (mtO off wa la wb j C) (15 * 15 + wb j + off) 1)
def ccF (t : Nat → Nat) (f : Nat → (Nat → Nat) → (Nat → Nat)) : Nat → (Nat → Nat) → (Nat → Nat)
  | 0, C => C
  | i + 1, C => if t i = 1 then f i (ccF t f i C) else ccF t f i C
def sm (S : Nat → Nat) (off o : Nat) (wa : Nat → Nat) : Nat → Nat
  | 0 => S (15 * 15 + o + off)
  | k + 1 => sm S off o wa k + S (15 * wa k + o + off)
def adI (S C : Nat → Nat) (c s : Nat) : Nat → Nat := if 0 < s then va_up C c (C c + S c * 1000000 / s) else C
def anI (S : Nat → Nat) (off o s : Nat) (wa : Nat → Nat) : Nat → (Nat → Nat) → (Nat → Nat)
  | 0, C => C
  | k + 1, C => adI S (anI S off o s wa k C) (15 * wa k + o + off) s
def anO (S : Nat → Nat) (off : Nat) (wa : Nat → Nat) (la : Nat) (wb : Nat → Nat) : Nat → (Nat → Nat) → (Nat → Nat)
  | 0, C => C
  | j + 1, C => anI S off (wb j) (sm S off (wb j) wa la) wa la (adI S (anO S off wa la wb j C) (15 * 15 + wb j + off) (sm S off (wb j) wa la))
def prF (R : Nat → Int) : Nat → Nat × Int
  | 0 => (0, -1)
  | k + 1 => if (prF R k).2 < R k then (k, R k) else prF R k
def grS (x : (Nat → Nat) × (Nat → Int)) : (Nat → Nat) × (Nat → Int) := (va_up x.1 (prF x.2 15).1 (x.1 (prF x.2 15).1 + 1), va_up x.2 (prF x.2 15).1 (-1))
def grF : Nat → (Nat → Nat) × (Nat → Int) → (Nat → Nat) × (Nat → Int)
  | 0, x => x
  | k + 1, x => grS (grF k x)
/-- a row's wholes, rests, and what is missing -/
def whF (c : Nat → Nat) (s : Nat) : Nat → Nat := fun k => if k < 15 then c k * 1000000 / s else 0
def whR (c : Nat → Nat) (s : Nat) : Nat → Int := fun k => if k < 15 then ((c k * 1000000 % s : Nat) : Int) else 0
def whM (c : Nat → Nat) (s : Nat) : Nat := 1000000 - sumN (whF c s) 15
def apF (c : Nat → Nat) : Nat → Nat := if sumN c 15 = 0 then (fun _ => 0) else (grF (whM c (sumN c 15)) (whF c (sumN c 15), whR c (sumN c 15))).1
def rsS (F : Nat → Nat) (b : Nat) : Nat → (Nat → Nat) → (Nat → Nat)
  | 0, S => S
  | k + 1, S => va_up (rsS F b k S) (b + k) (F k)
def rsN (F : Nat → Nat) (b : Nat) (S : Nat → Nat) : Nat → Nat
  | 0 => 0
  | k + 1 => rsN F b S k + if rsS F b k S (b + k) = F k then 0 else 1
def apS (C : Nat → Nat) (off : Nat) : Nat → (Nat → Nat) → (Nat → Nat)
  | 0, S => S
  | k + 1, S => rsS (apF (fun j => C (15 * k + off + j))) (15 * k + off) 15 (apS C off k S)
def apN (C : Nat → Nat) (off : Nat) (S : Nat → Nat) : Nat → Nat
  | 0 => 0
  | k + 1 => apN C off S k + rsN (apF (fun j => C (15 * k + off + j))) (15 * k + off) (apS C off k S) 15
def szN (S : Nat → Nat) : Nat → Nat
  | 0 => 0
  | k + 1 => szN S k + if 0 < S k then 1 else 0
theorem up_sN {f : Nat → Nat} {k v : Nat} : va_up f k v k = v := by simp [va_up]
theorem up_nN {f : Nat → Nat} {k a v : Nat} (q : a ≠ k) : va_up f k v a = f a := by simp [va_up, q]
theorem up_sZ {f : Nat → Int} {k : Nat} {v : Int} : va_up f k v k = v := by simp [va_up]
theorem up_nZ {f : Nat → Int} {k a : Nat} {v : Int} (q : a ≠ k) : va_up f k v a = f a := by simp [va_up, q]
theorem sumN_le {f : Nat → Nat} {n k : Nat} (h : k < n) : f k ≤ sumN f n := by
  induction n with
  | zero => omega
  | succ n ih =>
    show f k ≤ sumN f n + f n
    rcases Nat.lt_or_ge k n with q | q
    · have := ih q; omega
    · have : k = n := by omega
      subst this; omega
theorem sumN_mono {f : Nat → Nat} {n m : Nat} (h : n ≤ m) : sumN f n ≤ sumN f m := by
  induction m with
  | zero => have : n = 0 := by omega
            subst this; exact Nat.le_refl _
  | succ m ih =>
    rcases Nat.lt_or_ge n (m + 1) with q | q
    · have := ih (by omega)
      show _ ≤ sumN f m + f m
      omega
    · have : n = m + 1 := by omega
      subst this; exact Nat.le_refl _
theorem sumN_congr {f g : Nat → Nat} {n : Nat} (h : ∀ k, k < n → f k = g k) : sumN f n = sumN g n := by
  induction n with
  | zero => rfl
  | succ n ih =>
    show sumN f n + f n = sumN g n + g n
    rw [ih (fun k hk => h k (by omega)), h n (by omega)]
theorem sumN_bd {f : Nat → Nat} {n b : Nat} (h : ∀ k, k < n → f k ≤ b) : sumN f n ≤ n * b := by
  induction n with
  | zero => exact Nat.zero_le _
  | succ n ih =>
    have h1 := ih (fun k hk => h k (by omega))
    have h2 := h n (by omega)
    show sumN f n + f n ≤ (n + 1) * b
    rw [Nat.succ_mul]; omega
theorem sumN_up {f : Nat → Nat} {n k v : Nat} (h : k < n) : sumN (va_up f k v) n + f k = sumN f n + v := by
  induction n with
  | zero => omega
  | succ n ih =>
    show sumN (va_up f k v) n + va_up f k v n + f k = sumN f n + f n + v
    rcases Nat.lt_or_ge k n with q | q
    · have := ih q
      rw [up_nN (show n ≠ k by omega)]; omega
    · have : k = n := by omega
      subst this
      rw [up_sN, sumN_congr (g := f) (fun j hj => up_nN (by omega))]; omega
theorem prF_lt (R : Nat → Int) : ∀ k, 0 < k → (prF R k).1 < k
  | 0, h => by omega
  | 1, _ => by unfold prF; split <;> simp [prF]
  | k + 2, _ => by
    have := prF_lt R (k + 1) (by omega)
    unfold prF
    split
    · simp
    · omega
theorem grF_sum (x : (Nat → Nat) × (Nat → Int)) : ∀ k, sumN (grF k x).1 15 = sumN x.1 15 + k
  | 0 => rfl
  | k + 1 => by
    have ih := grF_sum x k
    have hb := prF_lt (grF k x).2 15 (by omega)
    have h1 := sumN_up (f := (grF k x).1) (v := (grF k x).1 (prF (grF k x).2 15).1 + 1) hb
    show sumN (va_up (grF k x).1 (prF (grF k x).2 15).1 ((grF k x).1 (prF (grF k x).2 15).1 + 1)) 15 = _
    omega
theorem wh_eq (c : Nat → Nat) (s : Nat) : ∀ n, n ≤ 15 → sumN (whF c s) n * s + sumN (fun k => c k * 1000000 % s) n = sumN c n * 1000000
  | 0, _ => by simp [sumN]
  | n + 1, h => by
    have ih := wh_eq c s n (by omega)
    have h1 : whF c s n = c n * 1000000 / s := if_pos (by omega)
    have h2 : s * (c n * 1000000 / s) + c n * 1000000 % s = c n * 1000000 := Nat.div_add_mod _ _
    show (sumN (whF c s) n + whF c s n) * s + (sumN _ n + c n * 1000000 % s) = (sumN c n + c n) * 1000000
    rw [h1, Nat.add_mul, Nat.add_mul]
    rw [Nat.mul_comm s] at h2
    omega
theorem wh_le {c : Nat → Nat} {s : Nat} (hs : s = sumN c 15) (h0 : 0 < s) {n : Nat} (hn : n ≤ 15) : sumN (whF c s) n ≤ 1000000 := by
  have h1 := wh_eq c s n hn
  have h2 : sumN c n ≤ s := by rw [hs]; exact sumN_mono hn
  have h3 : sumN (whF c s) n * s ≤ 1000000 * s := by
    have : sumN c n * 1000000 ≤ s * 1000000 := Nat.mul_le_mul_right _ h2
    rw [Nat.mul_comm 1000000]; omega
  exact Nat.le_of_mul_le_mul_right h3 h0
theorem whM_lt {c : Nat → Nat} {s : Nat} (hs : s = sumN c 15) (h0 : 0 < s) : whM c s < 15 := by
  have h1 := wh_eq c s 15 (Nat.le_refl _)
  have h2 : sumN (fun k => c k * 1000000 % s) 15 ≤ 15 * (s - 1) := sumN_bd fun k _ => by have := Nat.mod_lt (c k * 1000000) h0; omega
  have h3 := wh_le hs h0 (Nat.le_refl 15)
  unfold whM
  rw [← hs] at h1
  rcases Nat.lt_or_ge (1000000 - sumN (whF c s) 15) 15 with q | q
  · exact q
  · have h4 : sumN (whF c s) 15 + 15 ≤ 1000000 := by omega
    have h5 : (sumN (whF c s) 15 + 15) * s ≤ 1000000 * s := Nat.mul_le_mul_right _ h4
    rw [Nat.add_mul] at h5
    rw [Nat.mul_comm s 1000000] at h1
    omega
theorem apF_le (c : Nat → Nat) {k : Nat} (hk : k < 15) : apF c k ≤ 1000000 := by
  unfold apF
  split
  · exact Nat.zero_le _
  · next h =>
    have h1 := grF_sum (whF c (sumN c 15), whR c (sumN c 15)) (whM c (sumN c 15))
    have h2 := wh_le (c := c) rfl (show 0 < sumN c 15 by omega) (Nat.le_refl 15)
    have h3 := sumN_le (f := (grF (whM c (sumN c 15)) (whF c (sumN c 15), whR c (sumN c 15))).1) hk
    have h4 : whM c (sumN c 15) = 1000000 - sumN (whF c (sumN c 15)) 15 := rfl
    simp only at h1
    omega
theorem apF_congr {c c' : Nat → Nat} (h : ∀ k, k < 15 → c k = c' k) : apF c = apF c' := by
  have h1 : sumN c 15 = sumN c' 15 := sumN_congr h
  have h2 : ∀ s, whF c s = whF c' s := by
    intro s
    funext k
    show (if k < 15 then c k * 1000000 / s else 0) = if k < 15 then c' k * 1000000 / s else 0
    split
    · next q => rw [h k q]
    · rfl
  have h3 : ∀ s, whR c s = whR c' s := by
    intro s
    funext k
    show (if k < 15 then ((c k * 1000000 % s : Nat) : Int) else 0) = if k < 15 then ((c' k * 1000000 % s : Nat) : Int) else 0
    split
    · next q => rw [h k q]
    · rfl
  unfold apF whM
  rw [h1, h2, h3]
def SB (S : Nat → Nat) : Prop := ∀ c, S c ≤ 1000000
theorem rsS_SB {F : Nat → Nat} {b : Nat} (hF : ∀ k, k < 15 → F k ≤ 1000000) {S : Nat → Nat} (hS : SB S) : ∀ k, k ≤ 15 → SB (rsS F b k S)
  | 0, _ => hS
  | k + 1, h => fun c => by
    show va_up (rsS F b k S) (b + k) (F k) c ≤ _
    unfold va_up
    split
    · exact hF k (by omega)
    · exact rsS_SB hF hS k (by omega) c
theorem apS_SB {C : Nat → Nat} {off : Nat} {S : Nat → Nat} (hS : SB S) : ∀ k, SB (apS C off k S)
  | 0 => hS
  | k + 1 => rsS_SB (fun j hj => apF_le _ hj) (apS_SB hS k) 15 (Nat.le_refl _)
theorem sm_ge (S : Nat → Nat) (off o : Nat) (wa : Nat → Nat) : ∀ n k, k < n → S (15 * wa k + o + off) ≤ sm S off o wa n
  | 0, k, h => by omega
  | n + 1, k, h => by
    show _ ≤ sm S off o wa n + S (15 * wa n + o + off)
    rcases Nat.lt_or_ge k n with q | q
    · have := sm_ge S off o wa n k q; omega
    · have : k = n := by omega
      subst this; omega
theorem sm_ge0 (S : Nat → Nat) (off o : Nat) (wa : Nat → Nat) : ∀ n, S (15 * 15 + o + off) ≤ sm S off o wa n
  | 0 => Nat.le_refl _
  | n + 1 => Nat.le_trans (sm_ge0 S off o wa n) (Nat.le_add_right _ _)
theorem sm_le {S : Nat → Nat} (hS : SB S) (off o : Nat) (wa : Nat → Nat) : ∀ n, sm S off o wa n ≤ (n + 1) * 1000000
  | 0 => by have := hS (15 * 15 + o + off); show S _ ≤ _; omega
  | n + 1 => by
    have h1 := sm_le hS off o wa n
    have h2 := hS (15 * wa n + o + off)
    show sm S off o wa n + S _ ≤ _
    omega
theorem adI_le {S C : Nat → Nat} {c s B : Nat} (hs : S c ≤ s) (hC : ∀ k, C k ≤ B) : ∀ k, adI S C c s k ≤ B + 1000000 := by
  intro k
  unfold adI
  split
  · next h =>
    unfold va_up
    split
    · have h1 : S c * 1000000 / s ≤ 1000000 := by
        apply Nat.div_le_of_le_mul
        exact Nat.mul_le_mul_right _ hs
      have h2 := hC c
      omega
    · have := hC k; omega
  · have := hC k; omega
theorem anI_le {S C : Nat → Nat} {off o s B : Nat} {wa : Nat → Nat} {n : Nat} (hs : ∀ k, k < n → S (15 * wa k + o + off) ≤ s) (hC : ∀ k, C k ≤ B) : ∀ m, m ≤ n → ∀ k, anI S off o s wa m C k ≤ B + m * 1000000
  | 0, _, k => by have := hC k; show C k ≤ _; omega
  | m + 1, h, k => by
    have h1 := anI_le hs hC m (by omega)
    have h2 := adI_le (C := anI S off o s wa m C) (hs m (by omega)) h1 k
    show adI S (anI S off o s wa m C) _ _ k ≤ _
    omega
theorem anO_le {S C : Nat → Nat} {off B : Nat} {wa wb : Nat → Nat} {la : Nat} (hla : la ≤ 8) (hC : ∀ k, C k ≤ B) : ∀ j k, anO S off wa la wb j C k ≤ B + j * 9000000
  | 0, k => by have := hC k; show C k ≤ _; omega
  | j + 1, k => by
    have h1 := anO_le (S := S) (off := off) (wa := wa) (wb := wb) hla hC j
    have h2 := adI_le (C := anO S off wa la wb j C) (sm_ge0 S off (wb j) wa la) h1
    have h3 := anI_le (wa := wa) (o := wb j) (off := off) (n := la) (sm_ge S off (wb j) wa la) h2 la (Nat.le_refl _) k
    show anI S off (wb j) (sm S off (wb j) wa la) wa la _ k ≤ _
    have : la * 1000000 ≤ 8000000 := by omega
    omega
theorem ccF_le {t : Nat → Nat} {f : Nat → (Nat → Nat) → (Nat → Nat)} {K : Nat} {n : Nat} (hf : ∀ i, i < n → ∀ (C : Nat → Nat) B, (∀ k, C k ≤ B) → ∀ k, f i C k ≤ B + K) : ∀ i, i ≤ n → ∀ k, ccF t f i (fun _ => 0) k ≤ i * K
  | 0, _, k => by show 0 ≤ _; omega
  | i + 1, h, k => by
    have h1 := ccF_le (t := t) hf i (by omega)
    show (if t i = 1 then f i (ccF t f i _) else ccF t f i _) k ≤ _
    rw [Nat.succ_mul]
    split
    · exact hf i (by omega) _ _ h1 k
    · have := h1 k; omega
theorem mtI_le {off o : Nat} {wa C : Nat → Nat} (hC : ∀ k, C k ≤ 1) : ∀ m k, mtI off o wa m C k ≤ 1
  | 0, k => hC k
  | m + 1, k => by
    show va_up (mtI off o wa m C) _ 1 k ≤ 1
    unfold va_up
    split
    · omega
    · exact mtI_le hC m k
theorem mtO_le {off la : Nat} {wa wb C : Nat → Nat} (hC : ∀ k, C k ≤ 1) : ∀ j k, mtO off wa la wb j C k ≤ 1
  | 0, k => hC k
  | j + 1, k => mtI_le (fun k => by
      unfold va_up
      split
      · omega
      · exact mtO_le hC j k) la k
theorem ccF_le1 {t : Nat → Nat} {f : Nat → (Nat → Nat) → (Nat → Nat)} (hf : ∀ i (C : Nat → Nat), (∀ k, C k ≤ 1) → ∀ k, f i C k ≤ 1) : ∀ i k, ccF t f i (fun _ => 0) k ≤ 1
  | 0, k => Nat.zero_le _
  | i + 1, k => by
    show (if t i = 1 then f i (ccF t f i _) else ccF t f i _) k ≤ _
    split
    · exact hf i _ (ccF_le1 hf i) k
    · exact ccF_le1 hf i k
