/-! ===== more of what the reference's methods reckon ===== -/
section Mt
/-- same so far -/
def zSj (b1 : Nat) (f h : Nat → Nat) (N N' j : Nat) : Nat := if N = N' ∧ ∀ k, k < j → (if b1 = 1 then zMatch (f k) (h k) = 1 else f k = h k) then 1 else 0
variable {b1 N N' j : Nat} {f h : Nat → Nat}
theorem zSj_N : zSj b1 f h N N' N = zSame b1 f h N N' := rfl
theorem zSj_01 (b1 : Nat) (f h : Nat → Nat) (N N' j : Nat) : zSj b1 f h N N' j = 0 ∨ zSj b1 f h N N' j = 1 := by
  by_cases hc : N = N' ∧ ∀ k, k < j → (if b1 = 1 then zMatch (f k) (h k) = 1 else f k = h k)
  · exact Or.inr (if_pos hc)
  · exact Or.inl (if_neg hc)
theorem zSj_z (hj : j ≤ N) (q : nI (zSj b1 f h N N' j) = 0) : zSj b1 f h N N' j = zSame b1 f h N N' := by
  have h1 : ¬ (N = N' ∧ ∀ k, k < j → (if b1 = 1 then zMatch (f k) (h k) = 1 else f k = h k)) := fun w => by
    unfold zSj at q
    rw [if_pos w] at q
    exact absurd q (by decide)
  unfold zSj zSame
  rw [if_neg h1, if_neg (fun w => h1 ⟨w.1, fun k hk => w.2 k (by omega)⟩)]
theorem zSj_s (q : ¬ nI (zSj b1 f h N N' j) = 0) {r : Nat} (hr : r = 0 ∨ r = 1) (e : r = 1 ↔ (if b1 = 1 then zMatch (f j) (h j) = 1 else f j = h j)) : r = zSj b1 f h N N' (j + 1) := by
  have h1 : N = N' ∧ ∀ k, k < j → (if b1 = 1 then zMatch (f k) (h k) = 1 else f k = h k) := Classical.byContradiction fun w => q (by unfold zSj; rw [if_neg w]; rfl)
  unfold zSj
  by_cases hc : (if b1 = 1 then zMatch (f j) (h j) = 1 else f j = h j)
  · rw [if_pos ⟨h1.1, fun k hk => by
      by_cases e2 : k = j
      · rw [e2]; exact hc
      · exact h1.2 k (by omega)⟩]
    exact e.mpr hc
  · rw [if_neg (fun w => hc (w.2 j (by omega)))]
    rcases hr with h2 | h2
    · exact h2
    · exact absurd (e.mp h2) hc
theorem zSj_nn (q : ¬ nI (zSj b1 f h N N' j) = 0) : N = N' := Classical.byContradiction fun w => q (by unfold zSj; rw [if_neg (fun z => w z.1)]; rfl)
theorem zMatch_01 (p q : Nat) : zMatch p q = 0 ∨ zMatch p q = 1 := by
  unfold zMatch
  split
  · exact Or.inr rfl
  · exact Or.inl rfl
theorem zSj_0n (hn : ¬ N = N') : (0 : Int32) = nI (zSj b1 f h N N' 0) := by
  unfold zSj
  rw [if_neg (fun w => hn w.1)]
  rfl
theorem zSj_0y (hn : N = N') : (1 : Int32) = nI (zSj b1 f h N N' 0) := by
  unfold zSj
  rw [if_pos ⟨hn, fun k hk => absurd hk (by omega)⟩]
  rfl
/-- joining all, kind o -/
def zOpK (o : Nat) : Nat := if o = 0 then 1 else if o = 1 then 2 else if o = 2 then 3 else 0
def zStK (o : Nat) : Nat := if o = 0 then 3 else if o = 3 then 4 else 2
def zAf (o : Nat) (f : Nat → Nat) (j : Nat) : Nat := zFold (zOpK o) (zStK o) f j
theorem zAf_N : ∀ o, o < 4 → ∀ (f : Nat → Nat) (N : Nat), zAf o f N = zAllOf o f N := by
  intro o ho f N
  rcases (show o = 0 ∨ o = 1 ∨ o = 2 ∨ o = 3 by omega) with rfl | rfl | rfl | rfl <;> rfl
theorem zAf_lt {o : Nat} (ho : o < 4) (hf : ∀ k, f k < 9) (j : Nat) : zAf o f j < 9 := by
  unfold zAf
  refine zFold_lt ?_ ?_ hf j
  · unfold zOpK; split; decide; split; decide; split <;> decide
  · unfold zStK; split; decide; split <;> decide
/-- the reference's number of a word, j elements read -/
def zVv (b1 : Nat) (f : Nat → Nat) (N j : Nat) : Nat := if j = N ∧ 0 < N ∧ b1 = 1 ∧ zHigh (f (N - 1)) = 1 then zSum 8 (zNum f (N - 1)) (2 ^ (N - 1)) else zNum f j
theorem zVv_lt (hj : j < N) : zVv b1 f N j = zNum f j := if_neg (fun q => by omega)
theorem zVv_n (hh : zHigh (f j) = 0) : zVv b1 f N (j + 1) = zNum f j := by
  unfold zVv
  rw [if_neg (fun q => by have h1 := q.2.2.2; rw [show N - 1 = j by omega, hh] at h1; exact absurd h1 (by decide)), zNum_s0 hh]
theorem zVv_l (hh : zHigh (f j) = 1) (hb : b1 = 1) (hl : j = N - 1) (hj : j < N) : zVv b1 f N (j + 1) = zSum 8 (zNum f j) (2 ^ j) := by
  unfold zVv
  rw [if_pos ⟨by omega, by omega, hb, by rw [← hl]; exact hh⟩, ← hl]
theorem zVv_p (hh : zHigh (f j) = 1) (hb : b1 = 0 ∨ ¬ j = N - 1) : zVv b1 f N (j + 1) = zNum f j + 2 ^ j := by
  unfold zVv
  rw [if_neg (fun q => by omega), zNum, hh, Nat.one_mul]
theorem zNum_z : ∀ d : Nat, zNum (zExt f N) (N + d) = if zHigh (zLast f N) = 1 then zNum f N + (2 ^ (N + d) - 2 ^ N) else zNum f N
  | 0 => by
    have e : zNum (zExt f N) N = zNum f N := zNum_congr (fun k hk => zExt_in hk)
    rw [Nat.add_zero, e]
    split <;> omega
  | d + 1 => by
    have h1 := zNum_z d
    have e : zExt f N (N + d) = zLast f N := zExt_out (by omega)
    rw [← Nat.add_assoc, zNum, h1, e]
    have h3 : 2 ^ (N + d + 1) = 2 ^ (N + d) * 2 := Nat.pow_succ _ _
    have h4 : 2 ^ N ≤ 2 ^ (N + d) := Nat.pow_le_pow_right (by decide) (by omega)
    by_cases hh : zHigh (zLast f N) = 1
    · rw [if_pos hh, if_pos hh, hh, Nat.one_mul]
      omega
    · have h0 : zHigh (zLast f N) = 0 := by have := zHigh_le (zLast f N); omega
      rw [if_neg hh, if_neg hh, h0, Nat.zero_mul, Nat.add_zero]
theorem zVv_N (hN : N ≤ 64) (hb : b1 < 2) : zVv b1 f N N = zLong b1 f N := by
  unfold zLong zB
  by_cases h1 : b1 = 1
  · rw [if_pos h1]
    have h2 := zNum_z (f := f) (N := N) (64 - N)
    rw [show N + (64 - N) = 64 by omega] at h2
    rw [h2]
    unfold zVv
    by_cases h0 : 0 < N
    · have el : zLast f N = f (N - 1) := if_neg (by omega)
      rw [el]
      by_cases hh : zHigh (f (N - 1)) = 1
      · rw [if_pos ⟨rfl, h0, h1, hh⟩, if_pos hh]
        have e2 : zNum f N = zNum f (N - 1) + 2 ^ (N - 1) := by
          have : zNum f (N - 1 + 1) = zNum f (N - 1) + zHigh (f (N - 1)) * 2 ^ (N - 1) := rfl
          rw [show N - 1 + 1 = N by omega, hh, Nat.one_mul] at this
          exact this
        have e3 := zNum_lt f (N - 1)
        have e4 : 2 ^ N = 2 ^ (N - 1) * 2 := by rw [← Nat.pow_succ, show (N - 1).succ = N by omega]
        have e5 : 2 ^ N ≤ 2 ^ 64 := Nat.pow_le_pow_right (by decide) hN
        show (zNum f (N - 1) + (18446744073709551616 - 2 ^ (N - 1))) % 18446744073709551616 = _
        rw [Nat.mod_eq_of_lt (by omega)]
        omega
      · rw [if_neg (fun q => hh q.2.2.2), if_neg hh]
    · have hz : N = 0 := by omega
      subst hz
      rw [if_neg (fun q => h0 q.2.1), if_neg (by rw [show zLast f 0 = 2 from rfl]; decide)]
  · rw [if_neg h1]
    unfold zVv
    rw [if_neg (fun q => h1 q.2.2.1)]
    exact (zNum_congr (fun k hk => zExt_in hk)).symm
theorem zH_n {v : Nat} (hv : v < 9) (h : nI (zHigh v) = 0) : zHigh v = 0 := (by decide +kernel : ∀ v, v < 9 → nI (zHigh v) = 0 → zHigh v = 0) v hv h
theorem zH_y {v : Nat} (hv : v < 9) (h : ¬ nI (zHigh v) = 0) : zHigh v = 1 := (by decide +kernel : ∀ v, v < 9 → ¬ nI (zHigh v) = 0 → zHigh v = 1) v hv h
theorem lN_2p (j : Nat) : (2 : Int64) * lN (2 ^ j) = lN (2 ^ (j + 1)) := by
  have h1 : (2 : Int64) = lN 2 := rfl
  rw [h1, lN_mul, Nat.mul_comm, ← Nat.pow_succ]
theorem lN_sb {p j : Nat} (hj : j < 64) : lN p - lN (2 ^ j) = lN (zSum 8 p (2 ^ j)) := zSum_8 (Nat.pow_lt_pow_right (by decide) hj)
theorem zAll_of0 {N : Nat} (h : N ≤ 0) : zAll f N = 1 := if_pos (fun k hk => absurd hk (by omega))
theorem zCnt_all {N : Nat} (h : zCnt f N = 1) : zAll f N = 1 := by
  unfold zCnt at h
  by_cases h1 : 0 < N ∧ zAll f N = 1
  · exact h1.2
  · rw [if_neg h1] at h; exact absurd h (by decide)
theorem zCnt_nall {N : Nat} (h : ¬ zCnt f N = 1) (h0 : 0 < N) : ¬ zAll f N = 1 := fun q => h (if_pos ⟨h0, q⟩)
end Mt
