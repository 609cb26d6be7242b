/-! ===== lengths, sums, products, quotients ===== -/
section Ar
def zLen (o a b : Nat) : Nat := if o = 7 ∨ o = 8 then max a b else if o = 9 then a + b else if o = 10 then a else b
def zSum (o p q : Nat) : Nat := if o = 7 then (p + q) % 18446744073709551616 else if o = 8 then (p + (18446744073709551616 - q)) % 18446744073709551616 else p * q % 18446744073709551616
theorem zSum_lt (o p q : Nat) : zSum o p q < 2 ^ 64 := by
  unfold zSum
  split
  · exact Nat.mod_lt _ (by decide)
  · split
    · exact Nat.mod_lt _ (by decide)
    · exact Nat.mod_lt _ (by decide)
theorem lN_mod (n : Nat) : lN n = lN (n % 18446744073709551616) := wb_mod n
theorem zSum_7 (p q : Nat) : lN p + lN q = lN (zSum 7 p q) := by
  rw [lN_add, lN_mod]; rfl
theorem zSum_8 {p q : Nat} (hq : q < 2 ^ 64) : lN p - lN q = lN (zSum 8 p q) := by
  apply wb_inj
  rw [Int64.toBitVec_sub, wb_tb, wb_tb, wb_tb]
  apply BitVec.eq_of_toNat_eq
  rw [BitVec.toNat_sub, BitVec.toNat_ofNat, BitVec.toNat_ofNat, BitVec.toNat_ofNat]
  have e : zSum 8 p q = (p + (18446744073709551616 - q)) % 18446744073709551616 := rfl
  rw [e]
  omega
theorem zSum_9 (p q : Nat) : lN p * lN q = lN (zSum 9 p q) := by
  rw [lN_mul, lN_mod]; rfl
/-- the remainder that has the divisor's sign -/
def sFm (P Q : Int64) : Int64 := if (P ^^^ Q) < 0 ∧ ¬ P - P / Q * Q = 0 then P - P / Q * Q + Q else P - P / Q * Q
def sDiv (o : Nat) (P Q : Int64) : Int64 := if o = 10 then P / Q else if o = 11 then P - P / Q * Q else sFm P Q
def zU (z : Int64) : Nat := z.toBitVec.toNat
theorem zU_lt (z : Int64) : zU z < 2 ^ 64 := z.toBitVec.isLt
theorem lN_zU (z : Int64) : lN (zU z) = z := by
  apply wb_inj
  rw [wb_tb]
  apply BitVec.eq_of_toNat_eq
  rw [BitVec.toNat_ofNat]
  exact Nat.mod_eq_of_lt z.toBitVec.isLt
def zDiv (o b1 p q : Nat) : Nat := if b1 = 1 then zU (sDiv o (lN p) (lN q)) else if o = 10 then p / q else p % q
theorem zDiv_lt {o b1 p q : Nat} (hp : p < 2 ^ 64) (hq : 0 < q) (hq2 : q < 2 ^ 64) : zDiv o b1 p q < 2 ^ 64 := by
  unfold zDiv
  split
  · exact zU_lt _
  · split
    · exact Nat.lt_of_le_of_lt (Nat.div_le_self _ _) hp
    · exact Nat.lt_trans (Nat.mod_lt _ hq) hq2
def zArith (o b1 p q : Nat) : Nat := if o < 10 then zSum o p q else zDiv o b1 p q
def kCalc (o b1 : Nat) (f : Nat → Nat) (N : Nat) (h : Nat → Nat) (N' : Nat) : Nat :=
  if 64 < zLen o N N' then 2 else if zCnt f N = 1 ∧ zCnt h N' = 1 ∧ 10 ≤ o ∧ zLong b1 h N' = 0 then 3 else 0
def nCalc (o : Nat) (f : Nat → Nat) (N : Nat) (h : Nat → Nat) (N' : Nat) : Nat := if zCnt f N = 1 ∧ zCnt h N' = 1 then zLen o N N' else if N = 0 ∨ N' = 0 then 0 else zLen o N N'
def fCalc (o b1 : Nat) (f : Nat → Nat) (N : Nat) (h : Nat → Nat) (N' : Nat) : Nat → Nat := fun k => if zCnt f N = 1 ∧ zCnt h N' = 1 then zPut (zArith o b1 (zLong b1 f N) (zLong b1 h N')) k else 1
def kOp (o b1 : Nat) (f : Nat → Nat) (N : Nat) (h : Nat → Nat) (N' : Nat) : Nat := if o ≤ 6 then (if N = N' then 0 else 2) else if o = 13 then (if N + N' ≤ 64 then 0 else 2) else kCalc o b1 f N h N'
def nOp (o : Nat) (f : Nat → Nat) (N : Nat) (h : Nat → Nat) (N' : Nat) : Nat := if o ≤ 6 then N else if o = 13 then N + N' else nCalc o f N h N'
def fOp (o b1 : Nat) (f : Nat → Nat) (N : Nat) (h : Nat → Nat) (N' : Nat) : Nat → Nat := if o ≤ 6 then (fun k => zJoin o (f k) (h k)) else if o = 13 then (fun k => if k < N' then h k else f (k - N')) else fCalc o b1 f N h N'
def kOperate (n : Nat → Nat) (g : Nat → Nat → Nat) (b1 : Nat) (x1 x3 x4 x5 : Int32) : Nat :=
  if plB x3 ∨ plB x4 ∨ plB x5 then 1 else if x1 < 0 ∨ 13 < x1 then 2 else kOp (ix x1) b1 (g (ix x3)) (n (ix x3)) (g (ix x4)) (n (ix x4))
/-- half of p by q, doubled, is the quotient or one less -/
theorem uq_le (p q : Nat) : p / 2 / q * 2 * q ≤ p := by
  have h1 : p / 2 / q * q ≤ p / 2 := Nat.div_mul_le_self _ _
  have h2 : p / 2 / q * 2 * q = p / 2 / q * q * 2 := by rw [Nat.mul_assoc, Nat.mul_comm 2 q, ← Nat.mul_assoc]
  omega
theorem uq_lo {p q : Nat} (hq : 0 < q) (h : p - p / 2 / q * 2 * q < q) : p / q = p / 2 / q * 2 := by
  have h1 := uq_le p q
  refine Nat.div_eq_of_lt_le h1 ?_
  rw [Nat.add_mul, Nat.one_mul]
  omega
theorem uq_hi {p q : Nat} (hq : 0 < q) (h : ¬ p - p / 2 / q * 2 * q < q) : p / q = p / 2 / q * 2 + 1 := by
  have h1 := uq_le p q
  have h3 : p / 2 < p / 2 / q * q + q := by
    have := Nat.lt_div_mul_add hq (a := p / 2)
    exact this
  have h2 : p / 2 / q * 2 * q = p / 2 / q * q * 2 := by rw [Nat.mul_assoc, Nat.mul_comm 2 q, ← Nat.mul_assoc]
  refine Nat.div_eq_of_lt_le ?_ ?_
  · rw [Nat.add_mul, Nat.one_mul]; omega
  · rw [Nat.add_mul, Nat.add_mul, Nat.one_mul, h2]; omega
theorem uq_1 {p q : Nat} (hp : p < 2 ^ 64) (hq : 9223372036854775808 ≤ q) (h : ¬ p < q) : p / q = 1 := Nat.div_eq_of_lt_le (by omega) (by omega)
end Ar
section Ar2
theorem lcmp_gt0 {q : Nat} (h0 : 0 < q) (hq : q < 2 ^ 64) : (0 < lg_cmp (lN q) 0) ↔ q < 9223372036854775808 := by
  have h1 : (lN q).toInt = if q < 2 ^ 63 then (q : Int) else (q : Int) - 2 ^ 64 := lN_ti hq
  have hg : (lN q > 0) ↔ q < 9223372036854775808 := by
    show (0 : Int64) < lN q ↔ _
    rw [Int64.lt_iff_toInt_lt, h1, show (0 : Int64).toInt = 0 from rfl]
    split <;> omega
  unfold lg_cmp
  by_cases hc : lN q > 0
  · rw [if_pos hc]; exact ⟨fun _ => hg.mp hc, fun _ => by decide⟩
  · rw [if_neg hc]
    refine ⟨fun h => ?_, fun h => absurd (hg.mpr h) hc⟩
    split at h
    · exact absurd h (by decide)
    · exact absurd h (by decide)
theorem lcmp_z {q : Nat} (hq : q < 2 ^ 64) : lg_cmp (lN q) 0 = 0 ↔ q = 0 := lcmp_eq (b := 0) hq (by decide)
theorem lN_n0 {q : Nat} (hq : q < 2 ^ 64) (h : ¬ q = 0) : ¬ lN q = 0 := fun e => h (by
  have h1 := congrArg (fun x : Int64 => x.toBitVec.toNat) e
  have h2 : (lN q).toBitVec.toNat = q := wb_tn hq
  have h3 : (0 : Int64).toBitVec.toNat = 0 := rfl
  rw [← h2]
  exact h1.trans h3)
theorem lenB_of {z : Nat} (hz : z < 2 ^ 31) (h : lenB (nI z)) : 64 < z := by
  rcases h with q | q
  · exact absurd q (nI_pos hz)
  · exact (nI_ltI (a := 64) (by decide) hz).mp q
theorem lenB_no {z : Nat} (hz : z < 2 ^ 31) (h : ¬ lenB (nI z)) : z ≤ 64 := Nat.le_of_not_lt (fun q => h (Or.inr ((nI_ltI (a := 64) (by decide) hz).mpr q)))
theorem zLen_le (o : Nat) {a b : Nat} (ha : a ≤ 64) (hb : b ≤ 64) : zLen o a b ≤ 128 := by
  unfold zLen
  split
  · omega
  · split
    · omega
    · split <;> omega
end Ar2
