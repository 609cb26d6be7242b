/-! ===== two words that agree as far as they reach are one word ===== -/
section Cg
variable {f f' h h' : Nat → Nat} {N N' : Nat}
theorem g_all (e : ∀ k, k < N → f k = f' k) : zAll f N = zAll f' N := by
  unfold zAll
  have : (∀ k, k < N → zClear (f k) = 1) ↔ ∀ k, k < N → zClear (f' k) = 1 := ⟨fun q k hk => by rw [← e k hk]; exact q k hk, fun q k hk => by rw [e k hk]; exact q k hk⟩
  by_cases c : ∀ k, k < N → zClear (f k) = 1
  · rw [if_pos c, if_pos (this.mp c)]
  · rw [if_neg c, if_neg (fun q => c (this.mpr q))]
theorem g_cnt (e : ∀ k, k < N → f k = f' k) : zCnt f N = zCnt f' N := by
  unfold zCnt
  rw [g_all e]
theorem g_last (e : ∀ k, k < N → f k = f' k) : zLast f N = zLast f' N := by
  unfold zLast
  by_cases c : N = 0
  · rw [if_pos c, if_pos c]
  · rw [if_neg c, if_neg c, e (N - 1) (by omega)]
theorem g_ext (e : ∀ k, k < N → f k = f' k) : zExt f N = zExt f' N := by
  funext k
  unfold zExt
  by_cases c : k < N
  · rw [if_pos c, if_pos c, e k c]
  · rw [if_neg c, if_neg c, g_last e]
theorem g_long (b : Nat) (e : ∀ k, k < N → f k = f' k) : zLong b f N = zLong b f' N := by
  unfold zLong
  rw [g_ext e]
theorem g_fold (o v : Nat) : ∀ {N : Nat}, (∀ k, k < N → f k = f' k) → zFold o v f N = zFold o v f' N
  | 0, _ => rfl
  | N + 1, e => by
    show zJoin o (zFold o v f N) (f N) = zJoin o (zFold o v f' N) (f' N)
    rw [g_fold o v (fun k hk => e k (by omega)), e N (by omega)]
theorem g_allOf (o : Nat) (e : ∀ k, k < N → f k = f' k) : zAllOf o f N = zAllOf o f' N := by
  unfold zAllOf
  rw [g_fold 1 3 e, g_fold 2 2 e, g_fold 3 2 e, g_fold 0 4 e]
theorem g_same (b : Nat) (e : ∀ k, k < N → f k = f' k) (e2 : ∀ k, k < N' → h k = h' k) : zSame b f h N N' = zSame b f' h' N N' := by
  unfold zSame
  have : (N = N' ∧ ∀ k, k < N → (if b = 1 then zMatch (f k) (h k) = 1 else f k = h k)) ↔ (N = N' ∧ ∀ k, k < N → (if b = 1 then zMatch (f' k) (h' k) = 1 else f' k = h' k)) :=
    ⟨fun q => ⟨q.1, fun k hk => by rw [← e k hk, ← e2 k (q.1 ▸ hk)]; exact q.2 k hk⟩, fun q => ⟨q.1, fun k hk => by rw [e k hk, e2 k (q.1 ▸ hk)]; exact q.2 k hk⟩⟩
  by_cases c : N = N' ∧ ∀ k, k < N → (if b = 1 then zMatch (f k) (h k) = 1 else f k = h k)
  · rw [if_pos c, if_pos (this.mp c)]
  · rw [if_neg c, if_neg (fun q => c (this.mpr q))]
theorem g_compare (b : Nat) (e : ∀ k, k < N → f k = f' k) (e2 : ∀ k, k < N' → h k = h' k) : zCompare b f N h N' = zCompare b f' N h' N' := by
  unfold zCompare
  rw [g_cnt e, g_cnt e2, g_long b e, g_long b e2]
theorem g_bring (b : Nat) (e : ∀ k, k < N → f k = f' k) : fBring b f N = fBring b f' N := by
  funext k
  unfold fBring
  rw [g_last e]
  by_cases c : k < N
  · rw [if_pos c, if_pos c, e k c]
  · rw [if_neg c, if_neg c]
theorem g_move (dl : Int) (v : Nat) (e : ∀ k, k < N → f k = f' k) : fMove dl v f N = fMove dl v f' N := by
  funext k
  unfold fMove
  by_cases c : 0 ≤ (k : Int) - dl ∧ (k : Int) - dl < N
  · rw [if_pos c, if_pos c, e _ (by omega)]
  · rw [if_neg c, if_neg c]
theorem g_round (dl : Int) (e : ∀ k, k < N → f k = f' k) : ∀ k, k < N → fRound dl f N k = fRound dl f' N k := by
  intro k hk
  unfold fRound
  have h0 : (N : Int) ≠ 0 := by omega
  have h1 := Int.emod_nonneg ((k : Int) - dl) h0
  have h2 := Int.emod_lt_of_pos ((k : Int) - dl) (show (0 : Int) < N by omega)
  exact e _ (by omega)
theorem g_shift (o : Nat) (dl : Int) (v : Nat) (e : ∀ k, k < N → f k = f' k) : ∀ k, k < N → fShift o dl v f N k = fShift o dl v f' N k := by
  intro k hk
  unfold fShift
  rw [g_move dl v e, g_move (-dl) v e, g_last e]
  by_cases c0 : o = 0
  · rw [if_pos c0, if_pos c0]
  · rw [if_neg c0, if_neg c0]
    by_cases c1 : o = 1
    · rw [if_pos c1, if_pos c1]
    · rw [if_neg c1, if_neg c1]
      by_cases c2 : o = 2
      · rw [if_pos c2, if_pos c2, g_move (-dl) _ e]
      · rw [if_neg c2, if_neg c2]
        by_cases c3 : o = 3
        · rw [if_pos c3, if_pos c3]; exact g_round dl e k hk
        · rw [if_neg c3, if_neg c3]; exact g_round (-dl) e k hk
theorem g_change (o : Nat) (e : ∀ k, k < N → f k = f' k) : ∀ k, k < N → fChange o f N k = fChange o f' N k := by
  intro k hk
  unfold fChange
  rw [e k hk, g_all e, g_long 1 e]
theorem g_kop (o b : Nat) (e : ∀ k, k < N → f k = f' k) (e2 : ∀ k, k < N' → h k = h' k) : kOp o b f N h N' = kOp o b f' N h' N' := by
  unfold kOp kCalc
  rw [g_cnt e, g_cnt e2, g_long b e2]
theorem g_nop (o : Nat) (e : ∀ k, k < N → f k = f' k) (e2 : ∀ k, k < N' → h k = h' k) : nOp o f N h N' = nOp o f' N h' N' := by
  unfold nOp nCalc
  rw [g_cnt e, g_cnt e2]
theorem g_fop (o b : Nat) (e : ∀ k, k < N → f k = f' k) (e2 : ∀ k, k < N' → h k = h' k) (h0 : kOp o b f N h N' = 0) : ∀ k, k < nOp o f N h N' → fOp o b f N h N' k = fOp o b f' N h' N' k := by
  intro k hk
  unfold fOp
  unfold nOp at hk
  unfold kOp at h0
  by_cases c0 : o ≤ 6
  · rw [if_pos c0, if_pos c0]
    rw [if_pos c0] at hk h0
    have hN : N = N' := Classical.byContradiction fun q => by rw [if_neg q] at h0; exact absurd h0 (by decide)
    show zJoin o (f k) (h k) = zJoin o (f' k) (h' k)
    rw [e k hk, e2 k (by omega)]
  · rw [if_neg c0, if_neg c0]
    rw [if_neg c0] at hk
    by_cases c1 : o = 13
    · rw [if_pos c1, if_pos c1]
      rw [if_pos c1] at hk
      show (if k < N' then h k else f (k - N')) = if k < N' then h' k else f' (k - N')
      by_cases c2 : k < N'
      · rw [if_pos c2, if_pos c2, e2 k c2]
      · rw [if_neg c2, if_neg c2, e _ (by omega)]
    · rw [if_neg c1, if_neg c1]
      unfold fCalc
      rw [g_cnt e, g_cnt e2, g_long b e, g_long b e2]
end Cg
section Rl
/-- the class's places and the reference's are the same words -/
def Rel (n : Nat → Nat) (g : Nat → Nat → Nat) (C L : Nat → Nat) : Prop := ∀ j, j < 16 → L j = n j ∧ ∀ k, k < n j → g j k = mR C j k
variable {n n' : Nat → Nat} {g g' : Nat → Nat → Nat} {C L C' L' F F' : Nat → Nat} {to N N' b1 : Nat} {x1 x2 x3 x4 x5 : Int32}
theorem Rel.up (h : Rel n g C L) (ok : nvOk n g) (h1 : nvU 16 n g to N F n' g') (h2 : moU C L to N' F' C' L') (hN : N = N') (hF : ∀ k, k < N → F k = F' k) : Rel n' g' C' L' := by
  subst hN
  intro j hj
  by_cases c : j = to
  · subst c
    refine ⟨h2.1.trans h1.1.symm, fun k hk => ?_⟩
    rw [h1.1] at hk
    rw [h1.2.1 k hk, h2.2.1 k hk, hF k hk]
  · have a1 := h1.2.2.1 j hj c
    have a2 := h2.2.2 j hj c
    refine ⟨by rw [a2.1, a1.1]; exact (h j hj).1, fun k hk => ?_⟩
    rw [a1.1] at hk
    rw [a1.2, a2.2 k (Nat.lt_of_lt_of_le hk (ok.1 j))]
    exact (h j hj).2 k hk
theorem ix_pl {x : Int32} (h : ¬ plB x) : ix x < 16 := by
  obtain ⟨j, h1, rfl⟩ := plB_not h
  rw [ix_nI (by omega)]
  exact h1
theorem Rel.len (h : Rel n g C L) {x : Int32} (hx : ¬ plB x) : L (ix x) = n (ix x) := (h _ (ix_pl hx)).1
theorem Rel.e (h : Rel n g C L) {x : Int32} (hx : ¬ plB x) : ∀ k, k < n (ix x) → g (ix x) k = mR C (ix x) k := (h _ (ix_pl hx)).2
theorem el_of (h : Rel n g C L) : elB n x1 x2 ↔ elB L x1 x2 := by
  by_cases c : plB x1
  · exact ⟨fun _ => Or.inl c, fun _ => Or.inl c⟩
  · unfold elB
    rw [h.len c]
theorem r_put (h : Rel n g C L) : kPut n x1 x2 x3 = kPut L x1 x2 x3 := by
  unfold kPut
  by_cases c : elB n x1 x2
  · rw [if_pos c, if_pos ((el_of h).mp c)]
  · rw [if_neg c, if_neg (fun q => c ((el_of h).mpr q))]
theorem r_get (h : Rel n g C L) : kGet n x1 x2 = kGet L x1 x2 := by
  unfold kGet
  by_cases c : elB n x1 x2
  · rw [if_pos c, if_pos ((el_of h).mp c)]
  · rw [if_neg c, if_neg (fun q => c ((el_of h).mpr q))]
theorem r_numberOf (h : Rel n g C L) : kNumberOf n g x1 = kNumberOf L (mR C) x1 := by
  unfold kNumberOf
  by_cases c : plB x1
  · rw [if_pos c, if_pos c]
  · rw [if_neg c, if_neg c, h.len c, g_all (h.e c)]
theorem r_cut (h : Rel n g C L) : kCut n x1 x2 x3 x4 = kCut L x1 x2 x3 x4 := by
  unfold kCut
  by_cases c : plB x3
  · rw [if_pos (Or.inl c), if_pos (Or.inl c)]
  · rw [h.len c]
theorem r_operate (h : Rel n g C L) : kOperate n g b1 x1 x3 x4 x5 = kOperate L (mR C) b1 x1 x3 x4 x5 := by
  unfold kOperate
  by_cases c : plB x3 ∨ plB x4 ∨ plB x5
  · rw [if_pos c, if_pos c]
  · rw [if_neg c, if_neg c, h.len (fun q => c (Or.inl q)), h.len (fun q => c (Or.inr (Or.inl q))), g_kop _ _ (h.e (fun q => c (Or.inl q))) (h.e (fun q => c (Or.inr (Or.inl q))))]
/-- the code 0: its conditions do not hold -/
theorem k0_pl (h : kPl x1 = 0) : ¬ plB x1 := fun q => by unfold kPl at h; rw [if_pos q] at h; exact absurd h (by decide)
theorem k0_pl2 (h : kPl2 x1 x2 = 0) : ¬ plB x1 ∧ ¬ plB x2 := ⟨fun q => by unfold kPl2 at h; rw [if_pos (Or.inl q)] at h; exact absurd h (by decide), fun q => by unfold kPl2 at h; rw [if_pos (Or.inr q)] at h; exact absurd h (by decide)⟩
theorem k0_put (h : kPut n x1 x2 x3 = 0) : ¬ plB x1 := fun q => by unfold kPut at h; rw [if_pos (Or.inl q)] at h; exact absurd h (by decide)
theorem k0_get (h : kGet n x1 x2 = 0) : ¬ plB x1 ∧ ix x2 < n (ix x1) := by
  have c : ¬ elB n x1 x2 := fun q => by unfold kGet at h; rw [if_pos q] at h; exact absurd h (by decide)
  refine ⟨fun q => c (Or.inl q), ?_⟩
  have c1 : ¬ x2 < 0 := fun q => c (Or.inr (Or.inl q))
  have c2 : ¬ nI (n (ix x1)) ≤ x2 := fun q => c (Or.inr (Or.inr q))
  rcases pk_ix x2 (n := 2147483647) (by decide) with w | w | ⟨j, w1, w2⟩
  · exact absurd w c1
  · exact absurd (Int32.le_trans (by
      rw [Int32.le_iff_toInt_le]
      have h1 := (nI (n (ix x1))).toInt_lt
      have h2 : (nI 2147483647).toInt = 2147483647 := by decide
      rw [h2]
      omega) w) c2
  · subst w2
    rw [ix_nI (by omega)]
    refine Nat.lt_of_not_le fun q => c2 ?_
    exact (nI_leI (by omega) (by omega)).mpr q
theorem k0_numberOf (h : kNumberOf n g x1 = 0) : ¬ plB x1 := fun q => by unfold kNumberOf at h; rw [if_pos q] at h; exact absurd h (by decide)
theorem k0_change (h : kChange x1 x2 x3 = 0) : ¬ plB x2 := fun q => by unfold kChange at h; rw [if_pos (Or.inl q)] at h; exact absurd h (by decide)
theorem k0_shift (h : kShift x1 x2 x3 x4 x5 = 0) : ¬ plB x4 := fun q => by unfold kShift at h; rw [if_pos (Or.inl q)] at h; exact absurd h (by decide)
theorem k0_bring (h : kBring x2 x3 x4 = 0) : ¬ plB x3 := fun q => by unfold kBring at h; rw [if_pos (Or.inl q)] at h; exact absurd h (by decide)
theorem k0_all (h : kAll x1 x2 = 0) : ¬ plB x2 := fun q => by unfold kAll at h; rw [if_pos q] at h; exact absurd h (by decide)
theorem k0_operate (h : kOperate n g b1 x1 x3 x4 x5 = 0) : ¬ plB x3 ∧ ¬ plB x4 ∧ kOp (ix x1) b1 (g (ix x3)) (n (ix x3)) (g (ix x4)) (n (ix x4)) = 0 := by
  unfold kOperate at h
  by_cases c : plB x3 ∨ plB x4 ∨ plB x5
  · rw [if_pos c] at h; exact absurd h (by decide)
  · rw [if_neg c] at h
    by_cases c2 : x1 < 0 ∨ 13 < x1
    · rw [if_pos c2] at h; exact absurd h (by decide)
    · rw [if_neg c2] at h
      exact ⟨fun q => c (Or.inl q), fun q => c (Or.inr (Or.inl q)), h⟩
theorem k0_cut (ok : nvOk n g) (h : kCut n x1 x2 x3 x4 = 0) : ¬ plB x3 ∧ ix x1 + ix x2 ≤ n (ix x3) := by
  have c : ¬ (plB x3 ∨ plB x4 ∨ x1 < 0 ∨ nI (n (ix x3)) < x1 ∨ x2 < 0 ∨ nI (n (ix x3)) - x1 < x2) := fun q => by unfold kCut at h; rw [if_pos q] at h; exact absurd h (by decide)
  have hn := ok.1 (ix x3)
  refine ⟨fun q => c (Or.inl q), ?_⟩
  have c1 : ¬ x1 < 0 := fun q => c (Or.inr (Or.inr (Or.inl q)))
  have c2 : ¬ nI (n (ix x3)) < x1 := fun q => c (Or.inr (Or.inr (Or.inr (Or.inl q))))
  have c3 : ¬ x2 < 0 := fun q => c (Or.inr (Or.inr (Or.inr (Or.inr (Or.inl q)))))
  have c4 : ¬ nI (n (ix x3)) - x1 < x2 := fun q => c (Or.inr (Or.inr (Or.inr (Or.inr (Or.inr q)))))
  have e0 : (nI (n (ix x3))).toInt = n (ix x3) := nI_toInt (by omega)
  have z0 : (0 : Int32).toInt = 0 := rfl
  rw [Int32.lt_iff_toInt_lt, z0] at c1 c3
  rw [Int32.lt_iff_toInt_lt, e0] at c2
  rw [Int32.lt_iff_toInt_lt, isub_toInt (by rw [e0]; omega) (by rw [e0]; omega), e0] at c4
  have e1 : (ix x1 : Int) = x1.toInt := by unfold ix; rw [Int32.toNatClampNeg]; omega
  have e2 : (ix x2 : Int) = x2.toInt := by unfold ix; rw [Int32.toNatClampNeg]; omega
  omega
end Rl
