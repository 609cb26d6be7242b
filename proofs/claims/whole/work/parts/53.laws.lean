/-! ===== the law: one case of it, what it begins and ends with ===== -/
section Ls
theorem Rel.step {n n' : Nat → Nat} {g g' : Nat → Nat → Nat} {C L C' L' F F' : Nat → Nat} {to N N' K K' : Nat} (hRel : Rel n g C L) (ok : nvOk n g) (hU0 : K = 0 → nvU 16 n g to N F n' g') (hU1 : ¬ K = 0 → n' = n ∧ g' = g) (hV0 : K' = 0 → moU C L to N' F' C' L') (hV1 : ¬ K' = 0 → C' = C ∧ L' = L) (hK : K = K') (hNF : K = 0 → N = N' ∧ ∀ k, k < N → F k = F' k) : Rel n' g' C' L' := by
  subst hK
  by_cases h0 : K = 0
  · exact hRel.up ok (hU0 h0) (hV0 h0) (hNF h0).1 (hNF h0).2
  · obtain ⟨rfl, rfl⟩ := hU1 h0
    obtain ⟨rfl, rfl⟩ := hV1 h0
    exact hRel
theorem g_up {f f' : Nat → Nat} {N j v : Nat} (e : ∀ k, k < N → f k = f' k) : ∀ k, k < N → va_up f j v k = va_up f' j v k := by
  intro k hk
  by_cases c : k = j
  · subst c; rw [va_up_self, va_up_self]
  · rw [va_up_ne _ _ c, va_up_ne _ _ c, e k hk]
theorem k01 {K : Nat} (h : K ≠ 0 → K = 1 ∨ K = 2) (q : nI K = 0) : K = 0 := Classical.byContradiction fun w => by
  rcases h w with h | h
  · rw [h] at q; exact absurd q (by decide)
  · rw [h] at q; exact absurd q (by decide)
theorem lg_cmp_self (x : Int64) : lg_cmp x x = 0 := by
  unfold lg_cmp
  rw [if_neg (Int64.lt_irrefl), if_pos rfl]
theorem lg_cmp_of {x y : Int64} (h : x = y) : lg_cmp x y = 0 := by rw [h]; exact lg_cmp_self y
/-- all that a case keeps -/
def lwG (D : va_G) (cA cW cJ : ClassId) (T Tm : Nat → Nat) (bo : Nat) (s : State) (H : Heap) (locs : List Loc) : Prop :=
  ∃ (n : Nat → Nat) (g : Nat → Nat → Nat) (C L O : Nat → Nat) (c0 : Nat) (k : Int32) (f : Nat → Int64), nvOk n g ∧ moOk C L O ∧ Rel n g C L ∧ lwH D cA cW cJ T Tm bo n g C L O c0 k f H ∧ va_S (lwA s) s.heap H locs
abbrev lwL (b9 : Nat) (T Tm : Nat → Nat) (bo i9 : Nat) : List (Nat × Value) := [(0, .ref b9), (1, .ref (T 0)), (2, .ref (Tm 0)), (3, .ref bo), (4, .int (nI i9))]
variable {p : Program} {l : Launch} {e : Env} {R : Room} {s : State} {m : MethodId} {args : Array Value} {below : List Frame} {meth : Method} {c : Code} {H : Heap} {locs : List Loc} {cells slots : Nat} {Q : State → Prop} {cc : ByteArray} {pc : Nat} {ls : Array Slot} {rest : List Value}
/-- 'it is not 0', as a long -/
theorem lw_bl {v : Int32} (hx : p.tables.exec = Jvm.exec) (hb : c.code = cc) (d0 : decode cc pc = .ok (.ifCond .eq 7, 3)) (d1 : decode cc (pc + 3) = .ok (.lconst 1, 1)) (d2 : decode cc (pc + 4) = .ok (.goto 4, 3)) (d3 : decode cc (pc + 7) = .ok (.lconst 0, 1))
    (kk : W p l e R s m args below meth c H locs cells slots Q (F0 m (pc + 8) ls (.long (nI (zB1 v)).toInt64 :: rest))) : W p l e R s m args below meth c H locs cells slots Q (F0 m pc ls (.int v :: rest)) := by
  refine lv_if_eq (tgt := pc + 7) hx hb d0 (by omega) (fun c1 => ?_) (fun c1 => ?_)
  · refine lv_lconst (v := 0) hx hb d3 rfl ?_
    rw [show zB1 v = 0 from if_pos c1] at kk
    exact kk
  · refine lv_lconst (v := 1) hx hb d1 rfl ?_
    refine lv_goto (tgt := pc + 8) hx hb d2 (by omega) ?_
    rw [show zB1 v = 1 from if_neg c1] at kk
    exact kk
theorem zSame_01 (b N N' : Nat) (f h : Nat → Nat) : zSame b f h N N' = 0 ∨ zSame b f h N N' = 1 := by
  unfold zSame
  by_cases c : N = N' ∧ ∀ k, k < N → (if b = 1 then zMatch (f k) (h k) = 1 else f k = h k)
  · exact Or.inr (if_pos c)
  · exact Or.inl (if_neg c)
theorem zB1_same {b N N' : Nat} {f h : Nat → Nat} : zB1 (nI (zSame b f h N N')) = zSame b f h N N' := by
  rcases zSame_01 b N N' f h with q | q
  · rw [q]; rfl
  · rw [q]; rfl
end Ls
