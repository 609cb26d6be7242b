/-! ===== quotients with signs, by quotients without ===== -/
section Mq
variable {P Q m n : Nat}
theorem sgP (h : P < 9223372036854775808) : (lN P).toInt = (P : Int) := by
  rw [lN_ti (by omega), if_pos (by omega)]
theorem sgN (h : 9223372036854775808 ≤ P) (hP : P < 2 ^ 64) : (lN P).toInt = -((zNeg P : Nat) : Int) := by
  rw [lN_ti hP, if_neg (by omega)]
  unfold zNeg
  omega
theorem zNeg_le (h : 9223372036854775808 ≤ P) (hP : P < 2 ^ 64) : zNeg P ≤ 9223372036854775808 ∧ 0 < zNeg P := by
  unfold zNeg
  omega
theorem sgM (h : m ≤ 9223372036854775808) : (-lN m).toInt = -(m : Int) := Int64.toInt_neg_ofNat_of_le h
theorem bm_neg (h : m ≤ 9223372036854775808) : (-(m : Int)).bmod (2 ^ 64) = -(m : Int) := Int.bmod_eq_of_le (by omega) (by omega)
theorem bm_pos (h : m ≤ 9223372036854775808) : ((m : Int)).bmod (2 ^ 64) = (lN m).toInt := by
  rw [lN_ti (by omega)]
  by_cases e : m = 9223372036854775808
  · subst e; decide
  · rw [if_pos (by omega)]
    exact Int.bmod_eq_of_le (by omega) (by omega)
theorem td_nat (m n : Nat) : (m : Int).tdiv (n : Int) = ((m / n : Nat) : Int) := rfl
theorem tm_nat (m n : Nat) : (m : Int).tmod (n : Int) = ((m % n : Nat) : Int) := rfl
theorem dv_le (h : m ≤ 9223372036854775808) (n : Nat) : m / n ≤ 9223372036854775808 := Nat.le_trans (Nat.div_le_self _ _) h
theorem md_le (h : m ≤ 9223372036854775808) (n : Nat) : m % n ≤ 9223372036854775808 := Nat.le_trans (Nat.mod_le _ _) h
theorem sq_np (hP : 9223372036854775808 ≤ P) (hP2 : P < 2 ^ 64) (hQ : Q < 9223372036854775808) : lN P / lN Q = -lN (zNeg P / Q) := by
  have hz := (zNeg_le hP hP2).1
  apply Int64.toInt_inj.mp
  rw [Int64.toInt_div, sgN hP hP2, sgP hQ, Int.neg_tdiv, td_nat, sgM (dv_le hz Q), bm_neg (dv_le hz Q)]
theorem sq_pn (hP : P < 9223372036854775808) (hQ : 9223372036854775808 ≤ Q) (hQ2 : Q < 2 ^ 64) : lN P / lN Q = -lN (P / zNeg Q) := by
  apply Int64.toInt_inj.mp
  rw [Int64.toInt_div, sgP hP, sgN hQ hQ2, Int.tdiv_neg, td_nat, sgM (dv_le (by omega) _), bm_neg (dv_le (by omega) _)]
theorem sq_nn (hP : 9223372036854775808 ≤ P) (hP2 : P < 2 ^ 64) (hQ : 9223372036854775808 ≤ Q) (hQ2 : Q < 2 ^ 64) : lN P / lN Q = lN (zNeg P / zNeg Q) := by
  have hz := (zNeg_le hP hP2).1
  apply Int64.toInt_inj.mp
  rw [Int64.toInt_div, sgN hP hP2, sgN hQ hQ2, Int.neg_tdiv_neg, td_nat, bm_pos (dv_le hz _)]
theorem sq_pp (hP : P < 9223372036854775808) (h0 : 0 < Q) (hQ : Q < 9223372036854775808) : lN P / lN Q = lN (P / Q) := pk_lDiv hP h0 hQ
theorem rem64 (x y : Int64) : (x - x / y * y).toInt = x.toInt.tmod y.toInt := by
  have h1 := (x % y).toInt_lt
  have h2 := (x % y).le_toInt
  rw [Int64.toInt_mod] at h1 h2
  have e : x.toInt - x.toInt.tdiv y.toInt * y.toInt = x.toInt.tmod y.toInt := by rw [Int.tmod_def, Int.mul_comm]
  rw [Int64.toInt_sub, Int64.toInt_mul, Int64.toInt_div, Int.bmod_mul_bmod, Int.sub_bmod_bmod, e]
  exact Int.bmod_eq_of_le (by omega) (by omega)
theorem sr_pp (hP : P < 9223372036854775808) (h0 : 0 < Q) (hQ : Q < 9223372036854775808) : lN P - lN P / lN Q * lN Q = lN (P % Q) := pk_lRem hP h0 hQ
theorem sr_np (hP : 9223372036854775808 ≤ P) (hP2 : P < 2 ^ 64) (hQ : Q < 9223372036854775808) : lN P - lN P / lN Q * lN Q = -lN (zNeg P % Q) := by
  have hz := (zNeg_le hP hP2).1
  apply Int64.toInt_inj.mp
  rw [rem64, sgN hP hP2, sgP hQ, Int.neg_tmod, tm_nat, sgM (md_le hz Q)]
theorem sr_pn (hP : P < 9223372036854775808) (hQ : 9223372036854775808 ≤ Q) (hQ2 : Q < 2 ^ 64) : lN P - lN P / lN Q * lN Q = lN (P % zNeg Q) := by
  apply Int64.toInt_inj.mp
  rw [rem64, sgP hP, sgN hQ hQ2, Int.tmod_neg, tm_nat, sgP (Nat.lt_of_le_of_lt (Nat.mod_le _ _) hP)]
theorem sr_nn (hP : 9223372036854775808 ≤ P) (hP2 : P < 2 ^ 64) (hQ : 9223372036854775808 ≤ Q) (hQ2 : Q < 2 ^ 64) : lN P - lN P / lN Q * lN Q = -lN (zNeg P % zNeg Q) := by
  have hz := (zNeg_le hP hP2).1
  apply Int64.toInt_inj.mp
  rw [rem64, sgN hP hP2, sgN hQ hQ2, Int.tmod_neg, Int.neg_tmod, tm_nat, sgM (md_le hz _)]
theorem sg64 (z : Int64) : 0 ≤ z ↔ z.toBitVec.msb = false := by
  rw [Int64.le_iff_toInt_le, ← Int64.toInt_toBitVec z, BitVec.msb_eq_toInt]
  have h0 : (0 : Int64).toInt = 0 := rfl
  rw [h0]
  simp
theorem sgm (hP : P < 2 ^ 64) : (lN P).toBitVec.msb = false ↔ P < 9223372036854775808 := by
  rw [← sg64, Int64.le_iff_toInt_le, lN_ti hP, show (0 : Int64).toInt = 0 from rfl]
  split <;> omega
theorem sx_same (hP : P < 2 ^ 64) (hQ : Q < 2 ^ 64) (h : P < 9223372036854775808 ↔ Q < 9223372036854775808) : ¬ (lN P ^^^ lN Q) < 0 := by
  rw [Int64.not_lt, sg64, Int64.toBitVec_xor, BitVec.msb_xor]
  by_cases hp : P < 9223372036854775808
  · rw [(sgm hP).mpr hp, (sgm hQ).mpr (h.mp hp)]; rfl
  · have e1 : (lN P).toBitVec.msb = true := by rw [← Bool.not_eq_false, sgm hP]; exact hp
    have e2 : (lN Q).toBitVec.msb = true := by rw [← Bool.not_eq_false, sgm hQ]; exact fun q => hp (h.mpr q)
    rw [e1, e2]; rfl
theorem sx_diff (hP : P < 2 ^ 64) (hQ : Q < 2 ^ 64) (h : P < 9223372036854775808 ↔ ¬ Q < 9223372036854775808) : (lN P ^^^ lN Q) < 0 := by
  rw [← Int64.not_le, sg64, Int64.toBitVec_xor, BitVec.msb_xor]
  by_cases hp : P < 9223372036854775808
  · have e2 : (lN Q).toBitVec.msb = true := by rw [← Bool.not_eq_false, sgm hQ]; exact h.mp hp
    rw [(sgm hP).mpr hp, e2]; decide
  · have e1 : (lN P).toBitVec.msb = true := by rw [← Bool.not_eq_false, sgm hP]; exact hp
    have e2 : (lN Q).toBitVec.msb = false := (sgm hQ).mpr (Classical.byContradiction fun q => hp (h.mpr q))
    rw [e1, e2]; decide
theorem sFm_same (hP : P < 2 ^ 64) (hQ : Q < 2 ^ 64) (h : P < 9223372036854775808 ↔ Q < 9223372036854775808) : sFm (lN P) (lN Q) = lN P - lN P / lN Q * lN Q := by
  unfold sFm
  rw [if_neg (fun q => sx_same hP hQ h q.1)]
theorem sFm_zero (hz : lN P - lN P / lN Q * lN Q = 0) : sFm (lN P) (lN Q) = lN P - lN P / lN Q * lN Q := by
  unfold sFm
  rw [if_neg (fun q => q.2 hz)]
theorem sFm_diff (hP : P < 2 ^ 64) (hQ : Q < 2 ^ 64) (h : P < 9223372036854775808 ↔ ¬ Q < 9223372036854775808) (hz : ¬ lN P - lN P / lN Q * lN Q = 0) : sFm (lN P) (lN Q) = lN P - lN P / lN Q * lN Q + lN Q := by
  unfold sFm
  rw [if_pos ⟨sx_diff hP hQ h, hz⟩]
end Mq
