/-! ===== comparing by bits ===== -/
section Mc
/-- bit k of a word's number, beyond its end too -/
def zBt (b1 : Nat) (f : Nat → Nat) (N k : Nat) : Nat := if k < N then zHigh (f k) else if b1 = 1 then zHigh (f (N - 1)) else 0
theorem zBt_le (b1 : Nat) (f : Nat → Nat) (N k : Nat) : zBt b1 f N k ≤ 1 := by
  unfold zBt
  split
  · exact zHigh_le _
  · split
    · exact zHigh_le _
    · omega
/-- the number of the first j bits -/
def zBn (x : Nat → Nat) : Nat → Nat
  | 0 => 0
  | j + 1 => zBn x j + x j * 2 ^ j
theorem zBn_lt {x : Nat → Nat} (h : ∀ k, x k ≤ 1) : ∀ j, zBn x j < 2 ^ j
  | 0 => by simp [zBn]
  | j + 1 => by
    have h1 := zBn_lt h j
    have h3 : x j * 2 ^ j ≤ 1 * 2 ^ j := Nat.mul_le_mul_right _ (h j)
    rw [zBn, Nat.pow_succ]
    omega
/-- the reference's comparison, j bits looked at -/
def zCj (x y : Nat → Nat) : Nat → Int32
  | 0 => 0
  | j + 1 => if x j = y j then zCj x y j else if (y j < x j ↔ j = 64) then -1 else 1
theorem zCj_low {x y : Nat → Nat} (hx : ∀ k, x k ≤ 1) (hy : ∀ k, y k ≤ 1) : ∀ j, j ≤ 64 → zCj x y j = if zBn x j = zBn y j then 0 else if zBn x j < zBn y j then -1 else 1
  | 0, _ => by simp [zCj, zBn]
  | j + 1, hj => by
    have h1 := zCj_low hx hy j (by omega)
    have u1 := zBn_lt hx j
    have u2 := zBn_lt hy j
    have v1 := hx j
    have v2 := hy j
    rw [zCj, zBn, zBn]
    by_cases e : x j = y j
    · rw [if_pos e, h1, e]
      by_cases e1 : zBn x j = zBn y j
      · rw [if_pos e1, if_pos (by omega)]
      · by_cases e2 : zBn x j < zBn y j
        · rw [if_neg e1, if_pos e2, if_neg (by omega), if_pos (by omega)]
        · rw [if_neg e1, if_neg e2, if_neg (by omega), if_neg (by omega)]
    · rw [if_neg e]
      rcases (show (x j = 0 ∧ y j = 1) ∨ (x j = 1 ∧ y j = 0) by omega) with ⟨a1, a2⟩ | ⟨a1, a2⟩
      · rw [a1, a2, if_pos (by constructor <;> intro q <;> omega), if_neg (by omega), if_pos (by omega)]
      · rw [a1, a2, if_neg (by intro q; have := q.mp (by omega); omega), if_neg (by omega), if_neg (by omega)]
theorem zBn_congr {x y : Nat → Nat} : ∀ {j : Nat}, (∀ k, k < j → x k = y k) → zBn x j = zBn y j
  | 0, _ => rfl
  | j + 1, h => by rw [zBn, zBn, zBn_congr (fun k hk => h k (by omega)), h j (by omega)]
theorem zBn_num (f : Nat → Nat) : ∀ j, zBn (fun k => zHigh (f k)) j = zNum f j
  | 0 => rfl
  | j + 1 => by rw [zBn, zNum, zBn_num f j]
theorem zBn_up {x : Nat → Nat} {N : Nat} (h : ∀ k, N ≤ k → x k = 0) : ∀ d, zBn x (N + d) = zBn x N
  | 0 => rfl
  | d + 1 => by rw [← Nat.add_assoc, zBn, zBn_up h d, h _ (by omega), Nat.zero_mul, Nat.add_zero]
theorem zBt_64 {b1 : Nat} {f : Nat → Nat} {N : Nat} (hb : b1 < 2) (h0 : 0 < N) (hN : N ≤ 64) : zBn (zBt b1 f N) 64 = zLong b1 f N := by
  unfold zLong zB
  by_cases h1 : b1 = 1
  · rw [if_pos h1, ← zBn_num]
    refine zBn_congr (fun k _ => ?_)
    unfold zBt zExt
    by_cases hk : k < N
    · rw [if_pos hk, if_pos hk]
    · rw [if_neg hk, if_neg hk, if_pos h1, show zLast f N = f (N - 1) from if_neg (by omega)]
  · rw [if_neg h1, ← zBn_num]
    have e := zBn_up (x := zBt b1 f N) (N := N) (fun k hk => by unfold zBt; rw [if_neg (by omega), if_neg h1]) (64 - N)
    rw [show N + (64 - N) = 64 by omega] at e
    rw [e]
    refine zBn_congr (fun k hk => ?_)
    unfold zBt zExt
    rw [if_pos hk, if_pos hk]
/-- the top bit is the sign's -/
theorem zBt_63 {b1 : Nat} {f : Nat → Nat} {N : Nat} (h1 : b1 = 1) (h0 : 0 < N) (hN : N ≤ 64) : zBt b1 f N 64 = zBt b1 f N 63 := by
  unfold zBt
  rw [if_neg (by omega), if_pos h1]
  by_cases h : 63 < N
  · rw [if_pos h, show N - 1 = 63 by omega]
  · rw [if_neg h]
theorem zBt_sg {b1 : Nat} {f : Nat → Nat} {N : Nat} (hb : b1 < 2) (h1 : b1 = 1) (h0 : 0 < N) (hN : N ≤ 64) : zBt b1 f N 64 = 1 ↔ 9223372036854775808 ≤ zLong b1 f N := by
  rw [← zBt_64 hb h0 hN, zBt_63 h1 h0 hN]
  have e : zBn (zBt b1 f N) 64 = zBn (zBt b1 f N) 63 + zBt b1 f N 63 * 2 ^ 63 := rfl
  have u := zBn_lt (zBt_le b1 f N) 63
  have v := zBt_le b1 f N 63
  rw [e]
  rcases (show zBt b1 f N 63 = 0 ∨ zBt b1 f N 63 = 1 by omega) with q | q <;> rw [q] <;> omega
theorem zCj_cmp {b1 : Nat} {f h : Nat → Nat} {N N' : Nat} (hb : b1 < 2) (h0 : 0 < N) (hN : N ≤ 64) (h0' : 0 < N') (hN' : N' ≤ 64) (c1 : zCnt f N = 1) (c2 : zCnt h N' = 1) : zCj (zBt b1 f N) (zBt b1 h N') 65 = zCompare b1 f N h N' := by
  have p1 := zLong_lt b1 f hN
  have p2 := zLong_lt b1 h hN'
  have hl := zCj_low (zBt_le b1 f N) (zBt_le b1 h N') 64 (by omega)
  rw [zBt_64 hb h0 hN, zBt_64 hb h0' hN'] at hl
  have e : zCj (zBt b1 f N) (zBt b1 h N') 65 = if zBt b1 f N 64 = zBt b1 h N' 64 then zCj (zBt b1 f N) (zBt b1 h N') 64 else if (zBt b1 h N' 64 < zBt b1 f N 64 ↔ (64 : Nat) = 64) then -1 else 1 := rfl
  rw [e, hl]
  have t1 := lN_ti p1
  have t2 := lN_ti p2
  by_cases hs : b1 = 1
  · have s1 := zBt_sg (f := f) hb hs h0 hN
    have s2 := zBt_sg (f := h) hb hs h0' hN'
    have v1 := zBt_le b1 f N 64
    have v2 := zBt_le b1 h N' 64
    have hbel : zBelow b1 (zLong b1 f N) (zLong b1 h N') ↔ (lN (zLong b1 f N)).toInt < (lN (zLong b1 h N')).toInt := (zBelow_s hs).trans Int64.lt_iff_toInt_lt
    rw [t1, t2] at hbel
    by_cases e1 : zBt b1 f N 64 = zBt b1 h N' 64
    · rw [if_pos e1]
      by_cases e2 : zLong b1 f N = zLong b1 h N'
      · rw [if_pos e2]; exact zCmp_0 c1 c2 e2
      · rw [if_neg e2]
        have hsame : (9223372036854775808 ≤ zLong b1 f N) ↔ (9223372036854775808 ≤ zLong b1 h N') := by rw [← s1, ← s2, e1]
        by_cases e3 : zLong b1 f N < zLong b1 h N'
        · rw [if_pos e3]; exact zCmp_m c1 c2 e2 (hbel.mpr (by split <;> split <;> omega))
        · rw [if_neg e3]; exact zCmp_p c1 c2 e2 (fun w => by have := hbel.mp w; revert this; split <;> split <;> omega)
    · rw [if_neg e1]
      have e2 : ¬ zLong b1 f N = zLong b1 h N' := fun q => e1 (by
        rcases (show zBt b1 f N 64 = 0 ∨ zBt b1 f N 64 = 1 by omega) with a | a <;> rcases (show zBt b1 h N' 64 = 0 ∨ zBt b1 h N' 64 = 1 by omega) with b | b <;> omega)
      by_cases e3 : zBt b1 h N' 64 < zBt b1 f N 64
      · rw [if_pos ⟨fun _ => rfl, fun _ => e3⟩]
        exact zCmp_m c1 c2 e2 (hbel.mpr (by split <;> split <;> omega))
      · rw [if_neg (fun q => e3 (q.mpr rfl))]
        exact zCmp_p c1 c2 e2 (fun w => by have := hbel.mp w; revert this; split <;> split <;> omega)
  · have hb0 : b1 = 0 := by omega
    have z1 : zBt b1 f N 64 = 0 := by unfold zBt; rw [if_neg (by omega), if_neg hs]
    have z2 : zBt b1 h N' 64 = 0 := by unfold zBt; rw [if_neg (by omega), if_neg hs]
    rw [if_pos (by rw [z1, z2])]
    by_cases e2 : zLong b1 f N = zLong b1 h N'
    · rw [if_pos e2]; exact zCmp_0 c1 c2 e2
    · rw [if_neg e2]
      by_cases e3 : zLong b1 f N < zLong b1 h N'
      · rw [if_pos e3]; exact zCmp_m c1 c2 e2 ((zBelow_u hb0).mpr e3)
      · rw [if_neg e3]; exact zCmp_p c1 c2 e2 (fun w => e3 ((zBelow_u hb0).mp w))
theorem zCnt_pos {f : Nat → Nat} {N : Nat} (h : zCnt f N = 1) : 0 < N := by
  unfold zCnt at h
  by_cases h1 : 0 < N ∧ zAll f N = 1
  · exact h1.1
  · rw [if_neg h1] at h; exact absurd h (by decide)
end Mc
