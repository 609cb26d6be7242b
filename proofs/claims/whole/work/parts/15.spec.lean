/-! ===== what the methods of NineValues answer: codes, new states ===== -/
section Sp
abbrev eIO : String := "java/lang/IndexOutOfBoundsException"
abbrev eIA : String := "java/lang/IllegalArgumentException"
abbrev eIS : String := "java/lang/IllegalStateException"
abbrev eAR : String := "java/lang/ArithmeticException"
def exI (k : Nat) : String := if k = 1 then eIO else if k = 2 then eIA else eAR
def exS (k : Nat) : String := if k = 1 then eIO else eIS
/-- code K is told by an exception -/
def exK (ex : Nat → String) (K : Nat) : String → Prop := fun E => K ≠ 0 ∧ E = ex K
theorem exK_of {ex : Nat → String} {K k : Nat} (hk : K = k) (h0 : k ≠ 0) {E : String} (hE : E = ex k) : exK ex K E := by
  subst hk
  exact ⟨h0, hE⟩
/-- an index as a number -/
def ix (x : Int32) : Nat := x.toNatClampNeg
theorem ix_nI {j : Nat} (h : j < 2 ^ 31) : ix (nI j) = j := nI_clamp h
abbrev plB (x : Int32) : Prop := x < 0 ∨ 16 ≤ x
abbrev lenB (x : Int32) : Prop := x < 0 ∨ 64 < x
abbrev valB (x : Int32) : Prop := x < 0 ∨ 8 < x
theorem in_not {x : Int32} {c : Int32} {N : Nat} (hc : c = nI N) (hN : N < 2 ^ 31) (h : ¬ (x < 0 ∨ c ≤ x)) : ∃ j : Nat, j < N ∧ x = nI j := by
  subst hc
  rcases pk_ix x hN with q | q | q
  · exact absurd (Or.inl q) h
  · exact absurd (Or.inr q) h
  · exact q
theorem in_not' {x : Int32} {c : Int32} {N : Nat} (hc : c = nI N) (hN : N + 1 < 2 ^ 31) (h : ¬ (x < 0 ∨ c < x)) : ∃ j : Nat, j ≤ N ∧ x = nI j := by
  subst hc
  rcases pk_ix x hN with q | q | ⟨j, q1, q2⟩
  · exact absurd (Or.inl q) h
  · exfalso
    refine h (Or.inr ?_)
    rcases pk_ix x (n := 2147483647) (by decide) with w | w | ⟨j, w1, w2⟩
    · exact absurd (Or.inl w) h
    · have h1 : x.toInt ≤ 2147483647 := by have := x.toInt_lt; omega
      have h2 : (nI 2147483647) ≤ x := w
      rw [Int32.le_iff_toInt_le, nI_toInt (by decide)] at h2
      rw [Int32.lt_iff_toInt_lt, nI_toInt (by omega)]
      omega
    · subst w2
      exact (nI_ltI (by omega) (by omega)).mpr (by have := (nI_leI (by omega) (by omega)).mp q; omega)
  · exact ⟨j, by omega, q2⟩
theorem plB_not {x : Int32} (h : ¬ plB x) : ∃ j : Nat, j < 16 ∧ x = nI j := in_not rfl (by decide) h
theorem lenB_not {x : Int32} (h : ¬ lenB x) : ∃ j : Nat, j ≤ 64 ∧ x = nI j := in_not' rfl (by decide) h
theorem valB_not {x : Int32} (h : ¬ valB x) : ∃ j : Nat, j < 9 ∧ x = nI j := by
  obtain ⟨j, h1, h2⟩ := in_not' (N := 8) rfl (by decide) h
  exact ⟨j, by omega, h2⟩
theorem plB_nI {j : Nat} (h : j < 16) : ¬ plB (nI j) := by
  rintro (q | q)
  · exact nI_pos (by omega) q
  · have := (nI_leI (a := 16) (b := j) (by decide) (by omega)).mp q
    omega
/-- lengths and values are such -/
def nvOk (n : Nat → Nat) (g : Nat → Nat → Nat) : Prop := (∀ j, n j ≤ 64) ∧ ∀ j k, g j k < 9
/-- the word 'to' has become N elements F; of the first M words no other has changed -/
def nvU (M : Nat) (n : Nat → Nat) (g : Nat → Nat → Nat) (to N : Nat) (F : Nat → Nat) (n' : Nat → Nat) (g' : Nat → Nat → Nat) : Prop :=
  n' to = N ∧ (∀ k, k < N → g' to k = F k) ∧ (∀ j, j < M → j ≠ to → n' j = n j ∧ g' j = g j) ∧ nvOk n' g'
variable {M N N' to : Nat} {n n1 n2 : Nat → Nat} {g g1 g2 : Nat → Nat → Nat} {F F' : Nat → Nat}
theorem nvOk_up (ok : nvOk n g) (hN : N ≤ 64) (h : ∀ k, F k < 9) : nvOk (va_up n to N) (va_up g to F) := by
  refine ⟨fun j => ?_, fun j k => ?_⟩
  · by_cases h1 : j = to
    · subst h1; rw [va_up_self]; exact hN
    · rw [va_up_ne _ _ h1]; exact ok.1 j
  · by_cases h1 : j = to
    · subst h1; rw [va_up_self]; exact h k
    · rw [va_up_ne _ _ h1]; exact ok.2 j k
theorem nvU_lay (ok : nvOk n g) (hN : N ≤ 64) (hF : ∀ k, k < N → F k < 9) : nvU M n g to N F (va_up n to N) (va_up g to (pov F (g to) 0 N)) := by
  refine ⟨va_up_self _ _ _, fun k hk => ?_, fun j _ hj => ⟨va_up_ne _ _ hj, va_up_ne _ _ hj⟩, nvOk_up ok hN (pov_lt (fun k _ h2 => hF k (by omega)) (ok.2 _))⟩
  rw [va_up_self]
  exact pov_in (Nat.zero_le _) (by omega)
theorem nvU_copy (h : nvU 17 n g 16 N F n1 g1) (ht : to < 16) (h2 : nvU 17 n1 g1 to (n1 16) (g1 16) n2 g2) : nvU 16 n g to N F n2 g2 :=
  ⟨h2.1.trans h.1, fun k hk => (h2.2.1 k (by rw [h.1]; exact hk)).trans (h.2.1 k hk), fun j hj hne => ⟨((h2.2.2.1 j (by omega) hne).1).trans (h.2.2.1 j (by omega) (by omega)).1, ((h2.2.2.1 j (by omega) hne).2).trans (h.2.2.1 j (by omega) (by omega)).2⟩, h2.2.2.2⟩
theorem nvU_eq (h : nvU M n g to N F n1 g1) (hN : N = N') (hF : ∀ k, k < N' → F k = F' k) : nvU M n g to N' F' n1 g1 := by
  subst hN
  exact ⟨h.1, fun k hk => (h.2.1 k hk).trans (hF k hk), h.2.2⟩
theorem nvU_le (h : nvU M n g to N F n1 g1) {M' : Nat} (hM : M' ≤ M) : nvU M' n g to N F n1 g1 := ⟨h.1, h.2.1, fun j hj => h.2.2.1 j (by omega), h.2.2.2⟩
end Sp
section Sq
variable {M N N' to a at0 k0 L v : Nat} {n n1 n2 : Nat → Nat} {g g1 g2 : Nat → Nat → Nat} {F F' : Nat → Nat}
theorem nvU_put (ok : nvOk n g) {k : Nat} (hv : v < 9) : nvU M n g to (n to) (va_up (g to) k v) n (va_up g to (va_up (g to) k v)) := by
  refine ⟨rfl, fun j _ => by rw [va_up_self], fun j _ h => ⟨rfl, va_up_ne _ _ h⟩, ok.1, fun j i => ?_⟩
  by_cases h1 : j = to
  · subst h1
    rw [va_up_self]
    by_cases h2 : i = k
    · subst h2; rw [va_up_self]; exact hv
    · rw [va_up_ne _ _ h2]; exact ok.2 _ i
  · rw [va_up_ne _ _ h1]; exact ok.2 j i
/-- a new length, the elements as they lie -/
theorem nvU_size (ok : nvOk n g) (hN : N ≤ 64) : nvU M n g to N (g to) (va_up n to N) g := by
  refine ⟨va_up_self _ _ _, fun _ _ => rfl, fun j _ h => ⟨va_up_ne _ _ h, rfl⟩, fun j => ?_, ok.2⟩
  by_cases h1 : j = to
  · subst h1; rw [va_up_self]; exact hN
  · rw [va_up_ne _ _ h1]; exact ok.1 j
/-- L elements of a, from k0 on, are laid over those from at0 on -/
theorem nvU_on (h : nvU 17 n g to N F n1 g1) (ha : a < 17) (hne : a ≠ to) : nvU 17 n g to N (fun x => if at0 ≤ x ∧ x < at0 + L then g a (k0 + (x - at0)) else F x) n1 (va_up g1 to (pov (fun x => g1 a (k0 + (x - at0))) (g1 to) at0 L)) := by
  have ea := (h.2.2.1 a ha hne).2
  refine ⟨h.1, fun x hx => ?_, fun j hj hn => ⟨(h.2.2.1 j hj hn).1, (va_up_ne _ _ hn).trans (h.2.2.1 j hj hn).2⟩, h.2.2.2.1, fun j i => ?_⟩
  · rw [va_up_self]
    show (if at0 ≤ x ∧ x < at0 + L then g1 a (k0 + (x - at0)) else g1 to x) = if at0 ≤ x ∧ x < at0 + L then g a (k0 + (x - at0)) else F x
    by_cases hc : at0 ≤ x ∧ x < at0 + L
    · rw [if_pos hc, if_pos hc, ea]
    · rw [if_neg hc, if_neg hc]; exact h.2.1 x hx
  · by_cases h1 : j = to
    · subst h1
      rw [va_up_self]
      exact pov_lt (fun _ _ _ => h.2.2.2.2 _ _) (h.2.2.2.2 _) i
    · rw [va_up_ne _ _ h1]; exact h.2.2.2.2 j i
theorem nvU_fin (h : nvU 17 n g 16 N F n1 g1) (ht : to < 16) : nvU 16 n g to N F (va_up n1 to (n1 16)) (va_up g1 to (pov (g1 16) (g1 to) 0 (n1 16))) :=
  nvU_copy h ht (nvU_lay h.2.2.2 (h.2.2.2.1 16) (fun k _ => h.2.2.2.2 16 k))
theorem nI_min (a b : Nat) (ha : a < 2 ^ 31) (hb : b < 2 ^ 31) : (if nI b < nI a then nI b else nI a) = nI (min a b) := by
  by_cases h : b < a
  · rw [if_pos ((nI_ltI hb ha).mpr h), Nat.min_eq_right (by omega)]
  · rw [if_neg (fun q => h ((nI_ltI hb ha).mp q)), Nat.min_eq_left (by omega)]
theorem nI_max (a b : Nat) (ha : a < 2 ^ 31) (hb : b < 2 ^ 31) : (if nI a < nI b then nI b else nI a) = nI (max a b) := by
  by_cases h : a < b
  · rw [if_pos ((nI_ltI ha hb).mpr h), Nat.max_eq_right (by omega)]
  · rw [if_neg (fun q => h ((nI_ltI ha hb).mp q)), Nat.max_eq_left (by omega)]
theorem zAll_n {f : Nat → Nat} (h : nI (zAll f N) = 0) : ¬ zAll f N = 1 := fun q => by rw [q] at h; exact absurd h (by decide)
theorem zAll_y {f : Nat → Nat} (h : ¬ nI (zAll f N) = 0) : zAll f N = 1 := by
  rcases zAll_01 f N with q | q
  · exact absurd (by rw [q]; rfl) h
  · exact q
theorem zCnt_01 (f : Nat → Nat) (N : Nat) : zCnt f N = 0 ∨ zCnt f N = 1 := by
  unfold zCnt
  split
  · exact Or.inr rfl
  · exact Or.inl rfl
theorem zCnt_n {f : Nat → Nat} (h : nI (zCnt f N) = 0) : ¬ zCnt f N = 1 := fun q => by rw [q] at h; exact absurd h (by decide)
theorem zCnt_y {f : Nat → Nat} (h : ¬ nI (zCnt f N) = 0) : zCnt f N = 1 := by
  rcases zCnt_01 f N with q | q
  · exact absurd (by rw [q]; rfl) h
  · exact q
end Sq
section Sr
abbrev elB (n : Nat → Nat) (x1 x2 : Int32) : Prop := plB x1 ∨ x2 < 0 ∨ nI (n (ix x1)) ≤ x2
def kFill (x1 x2 x3 : Int32) : Nat := if plB x1 then 1 else if lenB x2 ∨ valB x3 then 2 else 0
def kPut (n : Nat → Nat) (x1 x2 x3 : Int32) : Nat := if elB n x1 x2 then 1 else if valB x3 then 2 else 0
def kGet (n : Nat → Nat) (x1 x2 : Int32) : Nat := if elB n x1 x2 then 1 else 0
def kPl (x1 : Int32) : Nat := if plB x1 then 1 else 0
def kPl2 (x1 x2 : Int32) : Nat := if plB x1 ∨ plB x2 then 1 else 0
def kNumber (x1 x2 : Int32) : Nat := if plB x1 then 1 else if lenB x2 then 2 else 0
def kNumberOf (n : Nat → Nat) (g : Nat → Nat → Nat) (x1 : Int32) : Nat := if plB x1 then 1 else if zAll (g (ix x1)) (n (ix x1)) = 1 then 0 else 2
def kBring (x2 x3 x4 : Int32) : Nat := if plB x3 ∨ plB x4 then 1 else if lenB x2 then 2 else 0
def fBring (b1 : Nat) (f : Nat → Nat) (N : Nat) : Nat → Nat := fun k => if k < N then f k else if b1 = 1 then zLast f N else 2
def kCut (n : Nat → Nat) (x1 x2 x3 x4 : Int32) : Nat := if plB x3 ∨ plB x4 ∨ x1 < 0 ∨ nI (n (ix x3)) < x1 ∨ x2 < 0 ∨ nI (n (ix x3)) - x1 < x2 then 1 else 0
/-- below, of 64 bits: signed where b1 = 1 -/
def zBelow (b1 p q : Nat) : Prop := if b1 = 1 then lN p < lN q else p < q
noncomputable def zCompare (b1 : Nat) (f : Nat → Nat) (N : Nat) (h : Nat → Nat) (N' : Nat) : Int32 :=
  if zCnt f N = 1 ∧ zCnt h N' = 1 then (if zLong b1 f N = zLong b1 h N' then 0 else @ite _ (zBelow b1 (zLong b1 f N) (zLong b1 h N')) (Classical.propDecidable _) (-1) 1) else 2
/-- same, or matched -/
def zSame (b1 : Nat) (f h : Nat → Nat) (N N' : Nat) : Nat := if N = N' ∧ ∀ k, k < N → (if b1 = 1 then zMatch (f k) (h k) = 1 else f k = h k) then 1 else 0
def kAll (x1 x2 : Int32) : Nat := if plB x2 then 1 else if x1 < 0 ∨ 3 < x1 then 2 else 0
def zAllOf (o : Nat) (f : Nat → Nat) (N : Nat) : Nat := if o = 0 then zFold 1 3 f N else if o = 1 then zFold 2 2 f N else if o = 2 then zFold 3 2 f N else zFold 0 4 f N
def kEdge (x1 x2 : Int32) : Nat := if valB x1 ∨ valB x2 then 1 else 0
def zEdge (p q : Nat) : Int32 := if zLow p = 1 ∧ zHigh q = 1 then 1 else if zHigh p = 1 ∧ zLow q = 1 then -1 else 0
end Sr
section Ss
variable {b1 N N' : Nat} {f h : Nat → Nat}
theorem lcmp_eq {a b : Nat} (ha : a < 2 ^ 64) (hb : b < 2 ^ 64) : lg_cmp (lN a) (lN b) = 0 ↔ a = b := by
  constructor
  · intro q
    unfold lg_cmp at q
    by_cases h1 : lN a > lN b
    · rw [if_pos h1] at q; exact absurd q (by decide)
    · rw [if_neg h1] at q
      by_cases h2 : lN a = lN b
      · have := congrArg (fun x : Int64 => x.toBitVec.toNat) h2
        simpa [wb_tn ha, wb_tn hb] using this
      · rw [if_neg h2] at q; exact absurd q (by decide)
  · intro q
    subst q
    unfold lg_cmp
    rw [if_neg (Int64.lt_irrefl), if_pos rfl]
theorem zCmp_2 (q : ¬ (zCnt f N = 1 ∧ zCnt h N' = 1)) : (2 : Int32) = zCompare b1 f N h N' := (if_neg q).symm
theorem zCmp_0 (q1 : zCnt f N = 1) (q2 : zCnt h N' = 1) (q : zLong b1 f N = zLong b1 h N') : (0 : Int32) = zCompare b1 f N h N' := by
  unfold zCompare
  rw [if_pos ⟨q1, q2⟩, if_pos q]
theorem zCmp_m (q1 : zCnt f N = 1) (q2 : zCnt h N' = 1) (q : ¬ zLong b1 f N = zLong b1 h N') (w : zBelow b1 (zLong b1 f N) (zLong b1 h N')) : (-1 : Int32) = zCompare b1 f N h N' := by
  unfold zCompare
  rw [if_pos ⟨q1, q2⟩, if_neg q, if_pos w]
theorem zCmp_p (q1 : zCnt f N = 1) (q2 : zCnt h N' = 1) (q : ¬ zLong b1 f N = zLong b1 h N') (w : ¬ zBelow b1 (zLong b1 f N) (zLong b1 h N')) : (1 : Int32) = zCompare b1 f N h N' := by
  unfold zCompare
  rw [if_pos ⟨q1, q2⟩, if_neg q, if_neg w]
theorem zBelow_s {p q : Nat} (hb : b1 = 1) : zBelow b1 p q ↔ lN p < lN q := by
  unfold zBelow
  rw [if_pos hb]
theorem zBelow_u {p q : Nat} (hb : b1 = 0) : zBelow b1 p q ↔ p < q := by
  unfold zBelow
  rw [if_neg (by omega)]
theorem zSame_0 (q : ¬ (N = N' ∧ ∀ k, k < N → (if b1 = 1 then zMatch (f k) (h k) = 1 else f k = h k))) : (0 : Int32) = nI (zSame b1 f h N N') := by
  rw [show zSame b1 f h N N' = 0 from if_neg q]; rfl
theorem zSame_1 (q : N = N' ∧ ∀ k, k < N → (if b1 = 1 then zMatch (f k) (h k) = 1 else f k = h k)) : (1 : Int32) = nI (zSame b1 f h N N') := by
  rw [show zSame b1 f h N N' = 1 from if_pos q]; rfl
end Ss
section St
/-- as a signed number -/
theorem isub_toInt {a b : Int32} (h : -2147483648 ≤ a.toInt - b.toInt) (h2 : a.toInt - b.toInt < 2147483648) : (a - b).toInt = a.toInt - b.toInt := by
  rw [Int32.toInt_sub]
  exact Int.bmod_eq_of_le (by omega) (by omega)
def fMove (dl : Int) (v : Nat) (f : Nat → Nat) (N : Nat) : Nat → Nat := fun k => if 0 ≤ (k : Int) - dl ∧ (k : Int) - dl < N then f ((k : Int) - dl).toNat else v
def fRound (dl : Int) (f : Nat → Nat) (N : Nat) : Nat → Nat := fun k => f (((k : Int) - dl) % (N : Int)).toNat
def zNeg (P : Nat) : Nat := (18446744073709551616 - P) % 18446744073709551616
def zSize (o P : Nat) : Nat := if o = 5 ∨ 9223372036854775808 ≤ P then zNeg P else P
def fChange (o : Nat) (f : Nat → Nat) (N : Nat) : Nat → Nat := fun k => if o = 4 then zNot (f k) else if o < 4 then zStrip o (f k) else if zAll f N = 1 then zPut (zSize o (zLong 1 f N)) k else 1
theorem zNeg_lt (P : Nat) : zNeg P < 2 ^ 64 := Nat.mod_lt _ (by decide)
theorem lN_neg {P : Nat} (h : P < 2 ^ 64) : - lN P = lN (zNeg P) := by
  apply wb_inj
  rw [wb_tb, Int64.toBitVec_neg, wb_tb]
  apply BitVec.eq_of_toNat_eq
  rw [BitVec.toNat_neg, BitVec.toNat_ofNat, BitVec.toNat_ofNat]
  unfold zNeg
  omega
theorem lN_lt0 {P : Nat} (h : P < 2 ^ 64) : (0 ≤ lg_cmp (lN P) 0) ↔ P < 9223372036854775808 := by
  rw [lg_cmp_ge, Int64.le_iff_toInt_le]
  have h1 : (lN P).toInt = if P < 2 ^ 63 then (P : Int) else (P : Int) - 2 ^ 64 := lN_ti h
  rw [h1]
  have h0 : (0 : Int64).toInt = 0 := rfl
  rw [h0]
  split <;> omega
theorem pov_k {F h : Nat → Nat} {k : Nat} (e : h k = F k) : pov F h 0 k = pov F h 0 (k + 1) := by
  rw [← pov_s0, ← e]
  have : pov F h 0 k k = h k := pov_out (Or.inr (by omega))
  rw [← this, va_up_eta]
end St
section Su
variable {N v : Nat} {n n1 : Nat → Nat} {g : Nat → Nat → Nat} {F : Nat → Nat}
theorem pov_two (F h f : Nat → Nat) (N k : Nat) (hk : k < N) : pov F (pov h f 0 N) 0 N k = F k := pov_in (Nat.zero_le _) (by omega)
theorem nvU_two {a : Nat} (hn1 : va_up n 16 (n a) = n1) (ok : nvOk n g) (hN : n a ≤ 64) (hF : ∀ k, k < n a → F k < 9) {h : Nat → Nat} (hh : ∀ k, k < n a → h k < 9 := by intros; assumption) : nvU 17 n g 16 (n a) F n1 (va_up g 16 (pov F (pov h (g 16) 0 (n a)) 0 (n a))) := by
  subst hn1
  refine ⟨va_up_self _ _ _, fun k hk => ?_, fun j _ hj => ⟨va_up_ne _ _ hj, va_up_ne _ _ hj⟩, nvOk_up ok hN (pov_lt (fun k _ h2 => hF k (by omega)) (pov_lt (fun k _ h2 => hh k (by omega)) (ok.2 _)))⟩
  rw [va_up_self]
  exact pov_in (Nat.zero_le _) (by omega)
end Su
section Sv
def kChange (x1 x2 x3 : Int32) : Nat := if plB x2 ∨ plB x3 then 1 else if x1 < 0 ∨ 6 < x1 then 2 else 0
abbrev shB (x1 x2 x3 : Int32) : Prop := valB x3 ∨ (x1 < 0 ∨ 4 < x1) ∨ x2 < (-1000) ∨ 1000 < x2
def kShift (x1 x2 x3 x4 x5 : Int32) : Nat := if plB x4 ∨ plB x5 then 1 else if shB x1 x2 x3 then 2 else 0
def fShift (o : Nat) (dl : Int) (v : Nat) (f : Nat → Nat) (N : Nat) : Nat → Nat :=
  if o = 0 then fMove dl v f N else if o = 1 then fMove (-dl) v f N else if o = 2 then fMove (-dl) (if dl < 0 then 2 else zLast f N) f N else if o = 3 then fRound dl f N else fRound (-dl) f N
theorem ineg_toInt {x : Int32} (h : -1000 ≤ x.toInt) : (-x).toInt = - x.toInt := by
  rw [Int32.toInt_neg]
  have := x.toInt_lt
  exact Int.bmod_eq_of_le (by omega) (by omega)
theorem sh_bd {x : Int32} (h1 : ¬ x < (-1000)) (h2 : ¬ 1000 < x) : -1000 ≤ x.toInt ∧ x.toInt ≤ 1000 := by
  rw [Int32.lt_iff_toInt_lt] at h1 h2
  have e1 : (-1000 : Int32).toInt = -1000 := by decide
  have e2 : (1000 : Int32).toInt = 1000 := by decide
  rw [e1] at h1
  rw [e2] at h2
  omega
end Sv
