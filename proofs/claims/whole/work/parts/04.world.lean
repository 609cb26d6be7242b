/-! ===== worlds as blocks: N cells at the addresses T k, with the contents E k ===== -/
section Bw
def bw (N : Nat) (T : Nat → Nat) (E : Nat → va_E) : va_W := (List.range N).map (fun k => (T k, E k))
theorem bw_get {N k : Nat} {T : Nat → Nat} {E : Nat → va_E} (h : k < N) : (bw N T E)[k]? = some (T k, E k) := by
  simp [bw, h]
theorem bw_out {N k : Nat} {T : Nat → Nat} {E : Nat → va_E} (h : ¬ k < N) : (bw N T E)[k]? = none := by
  apply List.getElem?_eq_none
  simp [bw]
  omega
theorem bw_of {N k : Nat} {T : Nat → Nat} {E : Nat → va_E} {q : Nat × va_E} (h : (bw N T E)[k]? = some q) : k < N ∧ q = (T k, E k) := by
  by_cases hk : k < N
  · rw [bw_get hk] at h
    exact ⟨hk, (Option.some.inj h).symm⟩
  · rw [bw_out hk] at h
    cases h
theorem bw_set {N k : Nat} {T : Nat → Nat} {E : Nat → va_E} {e : va_E} (h : k < N) : (bw N T E).set k (T k, e) = bw N T (va_up E k e) := by
  apply List.ext_getElem?
  intro j
  rw [List.getElem?_set]
  by_cases hj : k = j
  · subst hj
    have hl : k < (bw N T E).length := by
      simp [bw]
      exact h
    rw [if_pos rfl, if_pos hl, bw_get h, va_up_self]
  · rw [if_neg hj]
    by_cases hN : j < N
    · rw [bw_get hN, bw_get hN, va_up_ne _ _ (fun q => hj q.symm)]
    · rw [bw_out hN, bw_out hN]
theorem bw_congr {N : Nat} {T : Nat → Nat} {E E' : Nat → va_E} (h : ∀ k, k < N → E k = E' k) : bw N T E = bw N T E' := by
  apply List.ext_getElem?
  intro j
  by_cases hN : j < N
  · rw [bw_get hN, bw_get hN, h j hN]
  · rw [bw_out hN, bw_out hN]
variable {D : va_G} {cl : List vw_C} {A A0 : Nat → Prop} {wc wr wd : va_W} {H H1 : Heap}
theorem nw_P1 (h : va_P D cl (wc ++ wr) H) : va_P D cl wc H := fun k q hk => h k q (by rw [List.getElem?_append_left (List.getElem?_eq_some_iff.mp hk).1]; exact hk)
theorem nw_P2 (h : va_P D cl (wc ++ wr) H) : va_P D cl wr H := fun k q hk => h (wc.length + k) q (by rw [List.getElem?_append_right (Nat.le_add_right _ _), Nat.add_sub_cancel_left]; exact hk)
theorem nw_D1 (h : va_D A (wc ++ wr)) : va_D A wc :=
  ⟨fun i j p q hi hj e => h.1 i j p q (by rw [List.getElem?_append_left (List.getElem?_eq_some_iff.mp hi).1]; exact hi) (by rw [List.getElem?_append_left (List.getElem?_eq_some_iff.mp hj).1]; exact hj) e,
   fun k q hk => h.2 k q (by rw [List.getElem?_append_left (List.getElem?_eq_some_iff.mp hk).1]; exact hk)⟩
theorem nw_D2 (h : va_D A (wc ++ wr)) : va_D A wr := by
  have g : ∀ (k : Nat) (q : Nat × va_E), wr[k]? = some q → (wc ++ wr)[wc.length + k]? = some q := fun k q hk => by
    rw [List.getElem?_append_right (Nat.le_add_right _ _), Nat.add_sub_cancel_left]; exact hk
  exact ⟨fun i j p q hi hj e => Nat.add_left_cancel (h.1 _ _ p q (g i p hi) (g j q hj) e), fun k q hk => h.2 _ q (g k q hk)⟩
/-- a cell of the one half is none of the other -/
theorem nw_ne (h : va_D A (wc ++ wr)) {i j : Nat} {p q : Nat × va_E} (hi : wc[i]? = some p) (hj : wr[j]? = some q) : p.1 ≠ q.1 := by
  intro e
  have hil : i < wc.length := (List.getElem?_eq_some_iff.mp hi).1
  have h1 : (wc ++ wr)[i]? = some p := by rw [List.getElem?_append_left hil]; exact hi
  have h2 : (wc ++ wr)[wc.length + j]? = some q := by rw [List.getElem?_append_right (Nat.le_add_right _ _), Nat.add_sub_cancel_left]; exact hj
  have := h.1 i (wc.length + j) p q h1 h2 e
  omega
theorem nw_free {H0 : Heap} {locs : List Loc} (hD : va_D A0 (wc ++ wr)) (hS : va_S A0 H0 H locs) (hA : ∀ q, H0.size ≤ q → A0 q) : ∀ q, va_A wc H.size q → A0 q := by
  intro q h
  rcases h with ⟨k, e, h⟩ | h
  · exact (nw_D1 hD).2 k (q, e) h
  · exact hA q (Nat.le_trans hS.1 h)
/-- behind a call that had the first half -/
theorem nw_join (hP : va_P D cl (wc ++ wr) H) (hD : va_D A0 (wc ++ wr)) (hk : ∀ q : Nat, q < H.size → ¬ va_A wc H.size q → H1[q]? = H[q]?) (hF : ∀ q, va_A wc H.size q → A0 q) (hP1 : va_P D cl wd H1) (hD1 : va_D (va_A wc H.size) wd) : va_P D cl (wd ++ wr) H1 ∧ va_D A0 (wd ++ wr) := by
  have apart : ∀ (k : Nat) (q : Nat × va_E), wr[k]? = some q → q.1 < H.size ∧ ¬ va_A wc H.size q.1 := by
    intro k q hq
    have hl := (nw_P2 hP k q hq).lt
    refine ⟨hl, fun h => ?_⟩
    rcases h with ⟨k2, e, h⟩ | h
    · exact nw_ne hD h hq rfl
    · omega
  refine ⟨va_P.app hP1 (fun k q hq => (nw_P2 hP k q hq).kept (hk q.1 (apart k q hq).1 (apart k q hq).2)), va_D.app (hD1.weaken (fun k q _ h => hF q.1 h)) (nw_D2 hD) (fun i j x y hx hy hxy => ?_)⟩
  exact (apart j y hy).2 (by rw [← hxy]; exact hD1.2 i x hx)
theorem nw_Psw (h : va_P D cl (wc ++ wr) H) : va_P D cl (wr ++ wc) H := va_P.app (nw_P2 h) (nw_P1 h)
theorem nw_Dsw (h : va_D A (wc ++ wr)) : va_D A (wr ++ wc) := va_D.app (nw_D2 h) (nw_D1 h) (fun i j p q hi hj e => nw_ne h hj hi e.symm)
end Bw
