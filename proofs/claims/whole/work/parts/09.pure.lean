/-! ===== the values and words of the document, as numbers ===== -/
section Zp
theorem ib {a : Prop} {da : Decidable a} {b : Bool} (h : (!(@decide a da) || b) = true) (ha : a) : b = true := by
  rw [decide_eq_true ha] at h
  exact h
theorem al0 (b : Bool) (h : b = true) : b = true := h
theorem al1 {N : Nat} (P : Nat → Bool) (h : (List.range N).all P = true) (p : Nat) (hp : p < N) : P p = true := List.all_eq_true.mp h p (List.mem_range.mpr hp)
theorem al2 {N M : Nat} (P : Nat → Nat → Bool) (h : (List.range N).all (fun p => (List.range M).all (P p)) = true) (p : Nat) (hp : p < N) (q : Nat) (hq : q < M) : P p q = true := al1 (P p) (al1 (fun p => (List.range M).all (P p)) h p hp) q hq
theorem al3 {L N M : Nat} (P : Nat → Nat → Nat → Bool) (h : (List.range L).all (fun o => (List.range N).all (fun p => (List.range M).all (P o p))) = true) (o : Nat) (ho : o < L) (p : Nat) (hp : p < N) (q : Nat) (hq : q < M) : P o p q = true := al2 (P o) (al1 (fun o => (List.range N).all (fun p => (List.range M).all (P o p))) h o ho) p hp q hq
def zLow (v : Nat) : Nat := if v = 2 ∨ v = 6 then 1 else 0
def zHigh (v : Nat) : Nat := if v = 3 ∨ v = 7 then 1 else 0
def zClear (v : Nat) : Nat := if v = 2 ∨ v = 6 ∨ v = 3 ∨ v = 7 then 1 else 0
def zDrive (p q : Nat) : Nat :=
  if p = 0 ∨ q = 0 then 0 else if p = 1 ∨ p = 8 ∨ q = 1 ∨ q = 8 then 1 else if p = 4 then q else if q = 4 then p
  else if (p = 2 ∧ q = 3) ∨ (p = 3 ∧ q = 2) then 1 else if p = 2 ∨ p = 3 then p else if q = 2 ∨ q = 3 then q else if p = q then p else 5
def zAnd (p q : Nat) : Nat := if zLow p = 1 ∨ zLow q = 1 then 2 else if p = 0 ∨ q = 0 then 0 else if zHigh p = 1 ∧ zHigh q = 1 then 3 else 1
def zOr (p q : Nat) : Nat := if zHigh p = 1 ∨ zHigh q = 1 then 3 else if p = 0 ∨ q = 0 then 0 else if zLow p = 1 ∧ zLow q = 1 then 2 else 1
def zXor (p q : Nat) : Nat := if p = 0 ∨ q = 0 then 0 else if zClear p = 0 ∨ zClear q = 0 then 1 else if zHigh p = zHigh q then 2 else 3
def zNot (v : Nat) : Nat := if v = 0 then 0 else if zLow v = 1 then 3 else if zHigh v = 1 then 2 else 1
def zJoin (o p q : Nat) : Nat :=
  if o = 0 then zDrive p q else if o = 1 then zAnd p q else if o = 2 then zOr p q else if o = 3 then zXor p q
  else if o = 4 then zNot (zAnd p q) else if o = 5 then zNot (zOr p q) else zNot (zXor p q)
def zStrip (o v : Nat) : Nat := if zLow v = 1 then 2 else if zHigh v = 1 then 3 else if o = 1 ∧ v = 4 then 4 else if o = 2 ∧ v = 0 then 0 else if o = 3 then 2 else 1
def zMatch (p q : Nat) : Nat := if p = 8 ∨ q = 8 ∨ (zLow p = 1 ∧ zLow q = 1) ∨ (zHigh p = 1 ∧ zHigh q = 1) then 1 else 0
theorem zDrive_lt : ∀ p, p < 9 → ∀ q, q < 9 → zDrive p q < 9 := by decide +kernel
theorem zAnd_lt : ∀ p, p < 9 → ∀ q, q < 9 → zAnd p q < 9 := by decide +kernel
theorem zOr_lt : ∀ p, p < 9 → ∀ q, q < 9 → zOr p q < 9 := by decide +kernel
theorem zXor_lt : ∀ p, p < 9 → ∀ q, q < 9 → zXor p q < 9 := by decide +kernel
theorem zNot_lt : ∀ p, p < 9 → zNot p < 9 := by decide +kernel
theorem zStrip_lt : ∀ o, o < 4 → ∀ p, p < 9 → zStrip o p < 9 := by decide +kernel
theorem zJoin_lt7 : ∀ o, o < 7 → ∀ p, p < 9 → ∀ q, q < 9 → zJoin o p q < 9 := by decide +kernel
/-- the places a .. a + k - 1 are f's, the others h's -/
def pov (f h : Nat → Nat) (a k : Nat) : Nat → Nat := fun j => if a ≤ j ∧ j < a + k then f j else h j
theorem pov_0 (f h : Nat → Nat) (a : Nat) : pov f h a 0 = h := by
  funext j
  unfold pov
  rw [if_neg (by omega)]
theorem pov_s (f h : Nat → Nat) (a k : Nat) : va_up (pov f h a k) (a + k) (f (a + k)) = pov f h a (k + 1) := by
  funext j
  unfold pov va_up
  by_cases hj : j = a + k
  · subst hj
    rw [if_pos rfl, if_pos (by omega)]
  · rw [if_neg hj]
    show (if a ≤ j ∧ j < a + k then f j else h j) = _
    by_cases hk : a ≤ j ∧ j < a + k
    · rw [if_pos hk, if_pos (by omega)]
    · rw [if_neg hk, if_neg (by omega)]
theorem pov_s0 (f h : Nat → Nat) (k : Nat) : va_up (pov f h 0 k) k (f k) = pov f h 0 (k + 1) := by
  have h1 := pov_s f h 0 k
  rw [Nat.zero_add] at h1
  exact h1
theorem pov_in {f h : Nat → Nat} {a k j : Nat} (h1 : a ≤ j) (h2 : j < a + k) : pov f h a k j = f j := if_pos ⟨h1, h2⟩
theorem pov_out {f h : Nat → Nat} {a k j : Nat} (h1 : j < a ∨ a + k ≤ j) : pov f h a k j = h j := if_neg (by omega)
theorem pov_lt {f h : Nat → Nat} {a k b : Nat} (hf : ∀ j, a ≤ j → j < a + k → f j < b) (hh : ∀ j, h j < b) : ∀ j, pov f h a k j < b := by
  intro j
  unfold pov
  by_cases hj : a ≤ j ∧ j < a + k
  · rw [if_pos hj]; exact hf j hj.1 hj.2
  · rw [if_neg hj]; exact hh j
/-- the number of the first N elements -/
def zNum (f : Nat → Nat) : Nat → Nat
  | 0 => 0
  | k + 1 => zNum f k + zHigh (f k) * 2 ^ k
theorem zHigh_le (v : Nat) : zHigh v ≤ 1 := by
  unfold zHigh
  split <;> omega
theorem zNum_lt (f : Nat → Nat) : ∀ k, zNum f k < 2 ^ k
  | 0 => by simp [zNum]
  | k + 1 => by
    have h1 := zNum_lt f k
    have h2 := zHigh_le (f k)
    have h3 : zHigh (f k) * 2 ^ k ≤ 1 * 2 ^ k := Nat.mul_le_mul_right _ h2
    rw [zNum, Nat.pow_succ]
    omega
theorem zNum_congr {f h : Nat → Nat} : ∀ {k : Nat}, (∀ j, j < k → f j = h j) → zNum f k = zNum h k
  | 0, _ => rfl
  | k + 1, e => by rw [zNum, zNum, zNum_congr (fun j hj => e j (by omega)), e k (by omega)]
/-- all of the first N are clear -/
def zAll (f : Nat → Nat) (N : Nat) : Nat := if ∀ k, k < N → zClear (f k) = 1 then 1 else 0
def zFold (o v : Nat) (f : Nat → Nat) : Nat → Nat
  | 0 => v
  | k + 1 => zJoin o (zFold o v f k) (f k)
theorem zFold_lt {o v : Nat} {f : Nat → Nat} (ho : o < 7) (hv : v < 9) (hf : ∀ k, f k < 9) : ∀ k, zFold o v f k < 9
  | 0 => hv
  | k + 1 => zJoin_lt7 o ho _ (zFold_lt ho hv hf k) _ (hf k)
/-- the last element, ZERO of an empty word -/
def zLast (f : Nat → Nat) (N : Nat) : Nat := if N = 0 then 2 else f (N - 1)
/-- a word's elements, its last one again and again beyond its end -/
def zExt (f : Nat → Nat) (N : Nat) : Nat → Nat := fun k => if k < N then f k else zLast f N
theorem zExt_in {f : Nat → Nat} {N k : Nat} (h : k < N) : zExt f N k = f k := if_pos h
theorem zExt_out {f : Nat → Nat} {N k : Nat} (h : N ≤ k) : zExt f N k = zLast f N := if_neg (by omega)
theorem zLast_lt {f : Nat → Nat} (hf : ∀ k, f k < 9) (N : Nat) : zLast f N < 9 := by
  unfold zLast
  by_cases h : N = 0
  · rw [if_pos h]; decide
  · rw [if_neg h]; exact hf _
/-- how many bits count: all 64 where it is signed -/
def zB (b N : Nat) : Nat := if b = 1 then 64 else N
theorem zB_le (b : Nat) {N : Nat} (h : N ≤ 64) : zB b N ≤ 64 := by
  unfold zB
  split <;> omega
/-- the 64 bits of a word's number; b = 1: signed -/
def zLong (b : Nat) (f : Nat → Nat) (N : Nat) : Nat := zNum (zExt f N) (zB b N)
theorem zLong_lt (b : Nat) (f : Nat → Nat) {N : Nat} (h : N ≤ 64) : zLong b f N < 2 ^ 64 :=
  Nat.lt_of_lt_of_le (zNum_lt _ _) (Nat.pow_le_pow_right (by decide) (zB_le b h))
theorem zNum_s0 {f : Nat → Nat} {k : Nat} (h : zHigh (f k) = 0) : zNum f (k + 1) = zNum f k := by
  rw [zNum, h, Nat.zero_mul, Nat.add_zero]
/-- it can be reckoned with -/
def zCnt (f : Nat → Nat) (N : Nat) : Nat := if 0 < N ∧ zAll f N = 1 then 1 else 0
theorem zAll_01 (f : Nat → Nat) (N : Nat) : zAll f N = 0 ∨ zAll f N = 1 := by
  unfold zAll
  split
  · exact Or.inr rfl
  · exact Or.inl rfl
theorem zCnt_0 {f : Nat → Nat} {N : Nat} (h : N ≤ 0) : (0 : Int32) = nI (zCnt f N) := by
  rw [show zCnt f N = 0 from if_neg (by omega)]; rfl
theorem zCnt_1 {f : Nat → Nat} {N : Nat} (h : 0 < N) (h2 : ¬ nI (zAll f N) = 0) : (1 : Int32) = nI (zCnt f N) := by
  rcases zAll_01 f N with q | q
  · exact absurd (by rw [q]; rfl) h2
  · rw [show zCnt f N = 1 from if_pos ⟨h, q⟩]; rfl
theorem zCnt_2 {f : Nat → Nat} {N : Nat} (h2 : nI (zAll f N) = 0) : (0 : Int32) = nI (zCnt f N) := by
  rcases zAll_01 f N with q | q
  · rw [show zCnt f N = 0 from if_neg (by omega)]; rfl
  · rw [q] at h2; exact absurd h2 (by decide)
theorem va_up_eta {α : Type} (f : Nat → α) (k : Nat) : va_up f k (f k) = f := by
  funext j
  unfold va_up
  by_cases h : j = k
  · rw [if_pos h, h]
  · rw [if_neg h]
theorem nv_step (g : Nat → Nat → Nat) (i : Nat) (f h : Nat → Nat) (k : Nat) : va_up (va_up g i (pov f h 0 k)) i (va_up ((va_up g i (pov f h 0 k)) i) k (f k)) = va_up g i (pov f h 0 (k + 1)) := by
  rw [va_up_self, bx_uu, pov_s0]
theorem nv_stepA (g : Nat → Nat → Nat) (i : Nat) (f h : Nat → Nat) (a k : Nat) : va_up (va_up g i (pov f h a k)) i (va_up ((va_up g i (pov f h a k)) i) (a + k) (f (a + k))) = va_up g i (pov f h a (k + 1)) := by
  rw [va_up_self, bx_uu, pov_s]
theorem zShl1 {k : Nat} (hk : k < 64) : (1 : Int64) <<< ((nI k).toInt64 &&& 63) = lN (2 ^ k) := by
  have h := wb_shl 1 hk
  rw [Nat.one_mul] at h
  exact h
theorem zNum_s1 {f : Nat → Nat} {k : Nat} (hk : k < 64) (h : zHigh (f k) = 1) : lN (zNum f k) ||| lN (2 ^ k) = lN (zNum f (k + 1)) := by
  have h1 := zNum_lt f k
  have h2 : (2 : Nat) ^ k * 2 ≤ 2 ^ 64 := by
    rw [← Nat.pow_succ]
    exact Nat.pow_le_pow_right (by decide) (by omega)
  have h3 := g_or' (k := k) (p := 2 ^ k) (a := zNum f k) (b := 1) rfl h1 (by omega)
  rw [Nat.one_mul] at h3
  rw [h3, zNum, h, Nat.one_mul]
/-- a number's bits as values -/
def zPut (v k : Nat) : Nat := if v / 2 ^ k % 2 = 0 then 2 else 3
theorem zPut_lt (v k : Nat) : zPut v k < 9 := by
  unfold zPut
  split <;> omega
end Zp
