/-! ===== what the reference's methods leave ===== -/
section Ms
theorem ifn_n {p : Prop} [Decidable p] (h : nI (if p then 1 else 0) = 0) : ¬ p := fun q => by rw [if_pos q] at h; exact absurd h (by decide)
theorem ifn_y {p : Prop} [Decidable p] (h : ¬ nI (if p then 1 else 0) = 0) : p := Classical.byContradiction fun q => h (by rw [if_neg q]; rfl)
/-- a writer's end: K = 0: the place 'to' is N elements F; else nothing has changed -/
def moV (D : va_G) (cA : ClassId) (T C L : Nat → Nat) (K to N : Nat) (F : Nat → Nat) (t : State) : Prop :=
  ∃ (C' L' O' : Nat → Nat) (c' : Nat), (K = 0 → moU C L to N F C' L') ∧ (K ≠ 0 → C' = C ∧ L' = L) ∧ moOk C' L' O' ∧ va_P D vwCl (moW cA T (nI K) C' L' O' c') t.heap
/-- a reader's end -/
def moB (D : va_G) (cA : ClassId) (T C L O : Nat → Nat) (c0 K : Nat) (t : State) : Prop := va_P D vwCl (moW cA T (nI K) C L O c0) t.heap
theorem moOk_O {C L O O' : Nat → Nat} (ok : moOk C L O) (h : ∀ j, O' j < 9) : moOk C L O' := ⟨ok.1, ok.2.1, h⟩
theorem moK_s (C O : Nat → Nat) (to c0 j : Nat) : va_up (pov (fun j => if j - 64 * to < c0 then O (j - 64 * to) else 0) C (64 * to) j) (64 * to + j) (if j < c0 then O j else 0) = pov (fun j => if j - 64 * to < c0 then O (j - 64 * to) else 0) C (64 * to) (j + 1) := by
  rw [← pov_s]
  show _ = va_up _ _ (if 64 * to + j - 64 * to < c0 then O (64 * to + j - 64 * to) else 0)
  rw [Nat.add_sub_cancel_left]
/-- one bit of a number, shifted with its sign -/
theorem sbit {v k : Nat} (hv : v < 2 ^ 64) (hk : k < 64) : (lN v >>> ((nI k).toInt64 &&& 63)) &&& 1 = lN (v / 2 ^ k % 2) := by
  have e1 : ((nI k).toInt64 &&& 63) = lN k := wb_c k hk
  rw [e1]
  apply wb_inj
  rw [wb_tb]
  apply BitVec.eq_of_getLsbD_eq
  intro i hi
  rw [Int64.toBitVec_and, BitVec.getLsbD_and, Int64.toBitVec_shiftRight, wb_tb, wb_tb]
  have e2 : (BitVec.ofNat 64 k).smod 64 = BitVec.ofNat 64 k := wb_sm k hk
  rw [e2]
  have e3 : (BitVec.ofNat 64 k).toNat = k := by rw [BitVec.toNat_ofNat]; exact Nat.mod_eq_of_lt (by omega)
  rw [BitVec.sshiftRight', e3, BitVec.getLsbD_sshiftRight]
  by_cases h0 : i = 0
  · subst h0
    have e4 : (1 : Int64).toBitVec.getLsbD 0 = true := by decide
    rw [e4, Bool.and_true, BitVec.getLsbD_ofNat, BitVec.getLsbD_ofNat]
    simp [hk, Nat.testBit_eq_decide_div_mod_eq]
  · have e4 : (1 : Int64).toBitVec.getLsbD i = false := by
      have : ∀ i, i < 64 → i ≠ 0 → (1 : Int64).toBitVec.getLsbD i = false := by decide +kernel
      exact this i hi h0
    rw [e4, Bool.and_false, BitVec.getLsbD_ofNat]
    have h5 : (v / 2 ^ k % 2).testBit i = false := Nat.testBit_lt_two_pow (Nat.lt_of_lt_of_le (Nat.mod_lt _ (by decide)) (by
      have : 2 ^ 1 ≤ 2 ^ i := Nat.pow_le_pow_right (by decide) (by omega)
      simpa using this))
    rw [h5, Bool.and_false]
theorem lcmp_1 {b : Nat} (hb : b < 2) : lg_cmp (lN b) 1 = 0 ↔ b = 1 := lcmp_eq (b := 1) (by omega) (by decide)
end Ms
section Ms2
/-- longer than 0, and the first j are clear -/
def zCn (f : Nat → Nat) (N j : Nat) : Nat := if 0 < N ∧ ∀ k, k < j → zClear (f k) = 1 then 1 else 0
theorem zCn_N (f : Nat → Nat) (N : Nat) : zCn f N N = zCnt f N := by
  unfold zCn zCnt zAll
  by_cases h : ∀ k, k < N → zClear (f k) = 1
  · by_cases h0 : 0 < N
    · rw [if_pos ⟨h0, h⟩, if_pos ⟨h0, if_pos h⟩]
    · rw [if_neg (fun q => h0 q.1), if_neg (fun q => h0 q.1)]
  · rw [if_neg (fun q => h q.2), if_neg (fun q => by rw [if_neg h] at q; exact absurd q.2 (by decide))]
theorem zCn_0 {f : Nat → Nat} {N j : Nat} (h : nI (zCn f N j) = 0) : (0 : Int32) = nI (zCn f N (j + 1)) := by
  have h1 : ¬ (0 < N ∧ ∀ k, k < j → zClear (f k) = 1) := fun q => by
    unfold zCn at h
    rw [if_pos q] at h
    exact absurd h (by decide)
  unfold zCn
  rw [if_neg (fun q => h1 ⟨q.1, fun k hk => q.2 k (by omega)⟩)]
  rfl
theorem zCn_c {f : Nat → Nat} {N j : Nat} (hf : f j < 9) (h : nI (zClear (f j)) = 0) : (0 : Int32) = nI (zCn f N (j + 1)) := by
  have h1 : ¬ zClear (f j) = 1 := fun q => by rw [q] at h; exact absurd h (by decide)
  unfold zCn
  rw [if_neg (fun q => h1 (q.2 j (by omega)))]
  rfl
theorem zCn_1 {f : Nat → Nat} {N j : Nat} (hf : f j < 9) (h : ¬ nI (zCn f N j) = 0) (h2 : ¬ nI (zClear (f j)) = 0) : (1 : Int32) = nI (zCn f N (j + 1)) := by
  have h1 : 0 < N ∧ ∀ k, k < j → zClear (f k) = 1 := Classical.byContradiction fun q => h (by unfold zCn; rw [if_neg q]; rfl)
  have h3 : zClear (f j) = 1 := (by decide +kernel : ∀ v, v < 9 → ¬ nI (zClear v) = 0 → zClear v = 1) _ hf h2
  unfold zCn
  rw [if_pos ⟨h1.1, fun k hk => by
    by_cases e : k = j
    · rw [e]; exact h3
    · exact h1.2 k (by omega)⟩]
  rfl
theorem zCn_00 {f : Nat → Nat} {N : Nat} (h : N ≤ 0) : (0 : Int32) = nI (zCn f N 0) := by
  unfold zCn
  rw [if_neg (fun q => by omega)]
  rfl
theorem zCn_01 {f : Nat → Nat} {N : Nat} (h : 0 < N) : (1 : Int32) = nI (zCn f N 0) := by
  unfold zCn
  rw [if_pos ⟨h, fun k hk => absurd hk (by omega)⟩]
  rfl
end Ms2
section Ms3
theorem zn_ok (b : Nat) (h : b = 0 ∨ b = 1) : narrow .boolean (.int (nI b)) = .int (nI b) := by
  rcases h with h | h
  · rw [h]; rfl
  · rw [h]; rfl
theorem zCn_01b (f : Nat → Nat) (N j : Nat) : zCn f N j = 0 ∨ zCn f N j = 1 := by
  unfold zCn
  split
  · exact Or.inr rfl
  · exact Or.inl rfl
end Ms3
theorem moB_of {D : va_G} {cA : ClassId} {T C L O : Nat → Nat} {c0 K : Nat} {t : State} {H : Heap} (hP : va_P D vwCl (moW cA T (nI K) C L O c0) H) (ht : t.heap = H) : moB D cA T C L O c0 K t := by
  unfold moB
  rw [ht]
  exact hP
