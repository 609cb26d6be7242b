/-! ===== the reference's shift and division ===== -/
section Mu
theorem fMove_lt {dl : Int} {v N : Nat} {f : Nat → Nat} (hf : ∀ k, f k < 9) (hv : v < 9) (k : Nat) : fMove dl v f N k < 9 := by
  unfold fMove
  split
  · exact hf _
  · exact hv
theorem fShift_lt {o : Nat} {dl : Int} {v N : Nat} {f : Nat → Nat} (hf : ∀ k, f k < 9) (hv : v < 9) (k : Nat) : fShift o dl v f N k < 9 := by
  unfold fShift
  by_cases h0 : o = 0
  · rw [if_pos h0]; exact fMove_lt hf hv k
  · rw [if_neg h0]
    by_cases h1 : o = 1
    · rw [if_pos h1]; exact fMove_lt hf hv k
    · rw [if_neg h1]
      by_cases h2 : o = 2
      · rw [if_pos h2]
        refine fMove_lt hf ?_ k
        split
        · decide
        · exact zLast_lt hf _
      · rw [if_neg h2]
        by_cases h3 : o = 3
        · rw [if_pos h3]; exact hf _
        · rw [if_neg h3]; exact hf _
theorem iadd_toInt {a b : Int32} (h : -2147483648 ≤ a.toInt + b.toInt) (h2 : a.toInt + b.toInt < 2147483648) : (a + b).toInt = a.toInt + b.toInt := by
  rw [Int32.toInt_add]
  exact Int.bmod_eq_of_le (by omega) (by omega)
theorem i32_lt0 {x : Int32} : x < 0 ↔ x.toInt < 0 := Int32.lt_iff_toInt_lt
theorem i32_0le {x : Int32} : 0 ≤ x ↔ 0 ≤ x.toInt := Int32.le_iff_toInt_le
theorem i32_ge {x : Int32} {N : Nat} (hN : N < 2 ^ 31) : nI N ≤ x ↔ (N : Int) ≤ x.toInt := by rw [Int32.le_iff_toInt_le, nI_toInt hN]
theorem i32_lt {x : Int32} {N : Nat} (hN : N < 2 ^ 31) : x < nI N ↔ x.toInt < (N : Int) := by rw [Int32.lt_iff_toInt_lt, nI_toInt hN]
theorem i32_toNat {x : Int32} {N : Nat} (h0 : 0 ≤ x.toInt) (h1 : x.toInt < (N : Int)) (hN : N < 2 ^ 31) : x = nI x.toInt.toNat := i32_of (by omega) (by omega)
/-- a bit more of the dividend -/
theorem dv_step {P y b : Nat} (hy : 0 < y) (hb : b < 2) : (2 * P + b) / y = 2 * (P / y) + (if y ≤ 2 * (P % y) + b then 1 else 0) ∧ (2 * P + b) % y = 2 * (P % y) + b - (if y ≤ 2 * (P % y) + b then y else 0) := by
  have h1 := Nat.div_add_mod' P y
  have h2 := Nat.mod_lt P hy
  have h3 : 2 * P + b = 2 * (P / y) * y + (2 * (P % y) + b) := by
    have : 2 * (P / y) * y = 2 * (P / y * y) := Nat.mul_assoc _ _ _
    omega
  by_cases hc : y ≤ 2 * (P % y) + b
  · rw [if_pos hc, if_pos hc]
    have h4 : 2 * P + b = (2 * (P / y) + 1) * y + (2 * (P % y) + b - y) := by
      rw [Nat.add_mul, Nat.one_mul]
      omega
    have h5 : 2 * (P % y) + b - y < y := by omega
    constructor
    · rw [h4, Nat.mul_comm, Nat.mul_add_div hy, Nat.div_eq_of_lt h5]
    · rw [h4, Nat.mul_comm, Nat.mul_add_mod, Nat.mod_eq_of_lt h5]
  · rw [if_neg hc, if_neg hc]
    have h5 : 2 * (P % y) + b < y := by omega
    constructor
    · rw [h3, Nat.mul_comm, Nat.mul_add_div hy, Nat.div_eq_of_lt h5]
    · rw [h3, Nat.mul_comm, Nat.mul_add_mod, Nat.mod_eq_of_lt h5]
      omega
theorem dv_pow {p k : Nat} : p / 2 ^ k = 2 * (p / 2 ^ (k + 1)) + p / 2 ^ k % 2 := by
  have h1 : p / 2 ^ (k + 1) = p / 2 ^ k / 2 := by rw [Nat.pow_succ, Nat.div_div_eq_div_mul]
  omega
/-- with the least number added to both, they stand in their order without signs -/
theorem ult_add {a b : Nat} (ha : a < 2 ^ 64) (hb : b < 2 ^ 64) : (lg_cmp (lN a + (-9223372036854775808)) (lN b + (-9223372036854775808)) < 0) ↔ a < b := by
  have h1 : ∀ n, n < 2 ^ 64 → (lN n + (-9223372036854775808)).toInt = (n : Int) - 9223372036854775808 := by
    intro n hn
    have e : (-9223372036854775808 : Int64) = lN 9223372036854775808 := rfl
    rw [e, lN_add, lN_mod, lN_ti (Nat.mod_lt _ (by decide))]
    split <;> omega
  rw [← Int32.not_le, lg_cmp_ge, Int64.le_iff_toInt_le, h1 a ha, h1 b hb]
  omega
theorem lcmp_neg {r : Nat} (hr : r < 2 ^ 64) : (0 ≤ lg_cmp (lN r) 0) ↔ r < 9223372036854775808 := lN_lt0 hr
theorem lN_tw (R b : Nat) : (2 : Int64) * lN R + lN b = lN (2 * R + b) := by
  have h1 : (2 : Int64) = lN 2 := rfl
  rw [h1, lN_mul, lN_add]
end Mu
