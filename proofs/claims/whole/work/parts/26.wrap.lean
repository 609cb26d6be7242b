/-! ===== the law's wrappers: a call of the class, its exceptions caught and told as numbers ===== -/
section Wr
/-- what the wrappers ask beside nmX: which exception is caught where -/
def wrC (U : State) : Prop := va_Nc eIA eIO U ∧ va_Nc eIS eIO U ∧ va_Nc eAR eIO U ∧ va_Nc eAR eIA U
theorem wrC.to {u U : State} (hvm : u.vm.Alike U.vm) (h : wrC u) : wrC U := ⟨va_Nc.moved hvm h.1, va_Nc.moved hvm h.2.1, va_Nc.moved hvm h.2.2.1, va_Nc.moved hvm h.2.2.2⟩
def wrP (D : va_G) (cA cW : ClassId) (w : va_W) (U : State) : Prop := nmP D cA cW w U ∧ wrC U
variable {cA cW : ClassId} {T : Nat → Nat} {D : va_G}
theorem wrP.bl {w : va_W} : ∀ (a : Array Value) (U : State) (g : JFrame) (mk : MethodId), wrP D cA cW w U → wrP D cA cW w (U.calling g mk a) :=
  fun a U g mk q => ⟨nmP.bl a U g mk q.1, wrC.to (u := U) (U := U.calling g mk a) (Vm.Alike.refl U.vm) q.2⟩
theorem wr_kept {cl : List vw_C} {w : va_W} {E : String} {st t : State} {q : Addr} (hP : va_P D cl w st.heap) (h : ny_Thr E st q t) : va_P D cl w t.heap := by
  obtain ⟨ce, h1, h2, h3, h4, h5⟩ := h
  exact fun k x hx => (hP k x hx).kept (h5 x.1 (hP k x hx).lt)
theorem wr_F {A : Nat → Prop} {E : String} {st t : State} {q : Addr} (h : ny_Thr E st q t) : va_F A st t := by
  obtain ⟨ce, h1, h2, h3, h4, h5⟩ := h
  exact ⟨h4, fun z hz _ => h5 z hz⟩
variable {p : Program} {l : Launch} {e : Env} {R : Room} {s : State} {m : MethodId} {args : Array Value} {below : List Frame} {meth : Method} {c : Code} {Q : State → Prop}
variable {cc : ByteArray} {nL pc : Nat} {ls : Array Slot} {rest : List Value} {own : String} {i : Nat} {y : MethodName} {b : ByteArray} {mL n : Nat} {r : Option FieldType} {rm : Room} {As st0 : List Value} {A : Nat → Prop} {Pre : State → Prop} {ret : Option Value → State → State → Prop} {exc : String → Prop} {o : Nat} {C : String}
/-- the call: it returns, or an exception comes to this frame -/
theorem wr_call (S : CallFix p m c cc nL s args nzG own) (hM : ny_Met l y (Cond.code y b mL r :: nzG) rm (va_Pc (.ref o :: As) Pre) (nxQ ret exc) 0 0 1 6 A) (hw : nzV own i C y b mL r n) (hR : nzR rm R mL 1 6) (hc : 1 ≤ R.cells ∧ 6 ≤ R.slots)
    (hbl : ∀ (a : Array Value) (U : State) (g : JFrame) (mk : MethodId), Pre U → Pre (U.calling g mk a)) (hob : ∃ cellB : Cell, s.heap[o]? = some cellB ∧ cellB.vm.isStatics = false ∧ s.vm.findClass C = some cellB.cls) (hpre : ∀ U : State, U.heap = s.heap → s.WarmedH U.vm → Pre U)
    (hn : As.length = n) (hsz : ls.size = nL) (hst : st0 = As.reverse ++ .ref o :: rest) (hW : (rest.map fun v => v.category).sum ≤ 8) (hdg : decode cc pc = .ok (.invokevirtual i, 3))
    (kr : ∀ (v : Option Value) (st t : State) (L : List Loc), st.heap = s.heap → (∀ q ∈ L, A q.base) → ret v st t → W p l e R s m args below meth c t.heap L 0 0 Q (F0 m (pc + 3) ls (v.toList ++ rest)))
    (kx : ∀ (E : String) (q : Addr) (t : State) (L : List Loc), (∀ q ∈ L, A q.base) → exc E → ny_Thr E s q t → ny_W p l e R s m args below meth c t.heap L 1 6 Q (F0 m pc ls rest) q) : W p l e R s m args below meth c s.heap [] 0 0 Q (F0 m pc ls st0) := by
  refine ny_call (ny_runV S hM (hw.cb S.2.2.2.2 hR.1 hR.2.1 hR.2.2) ⟨fun a U g mk q => ⟨q.1, hbl a U g mk q.2⟩, hob, fun U hU hW => ⟨rfl, hpre U hU hW⟩⟩ rfl hn hsz hst (lv_room hW) hdg ⟨by omega, by omega⟩) ?_ ?_
  · intro v st t H1 L h0 hw0 ht hwt hL hq
    subst ht
    exact kr v st t _ h0 (fun q hq => hL q (by simpa using hq)) hq
  · intro q st t H1 L h0 hw0 ht hwt hL hq
    subst ht
    obtain ⟨E, h1, h2⟩ := hq
    exact kx E q t _ (fun q hq => hL q (by simpa using hq)) h1 (h2.up h0 hw0)
/-- a contract of a wrapper out of its walk -/
theorem wr_of {y : MethodName} {hh : List (Nat × Nat × Nat × Nat)} {Pc : Array Value → State → Prop} {Qc : Array Value → State → Outcome → State → Prop} {free : Addr → Prop} {mc ms : Nat} (hy : plainName y.cls = true) (ho : y.cls = own)
    (body : ∀ (p : Program) (e : Env) (s : State) (m : MethodId) (args : Array Value) (below : List Frame) (meth : Method) (c : Code), CallFix p m c b mL s args nzG own → meth.sig.returnType = r → meth.locks = false → c.exceptionTable.toList = tableOf hh → Pc args s →
      W p l e rm s m args below meth c s.heap [] 0 0 (MQ below Qc args s mc ms free) (entryFrame m args mL)) : Met l y (Cond.codeWith y b mL r hh :: nzG) rm Pc Qc mc ms free := by
  refine va_MetW (cc := b) (maxL := mL) (ret := r) (hh := hh) hy rfl ?_
  intro p e s m args below meth c s₁ B hml hP
  have hpre := atoms_spec (ws := Cond.codeWith y b mL r hh :: nzG) B.pre
  obtain ⟨m9, meth9, c9, h1, h2, h3, -, -, h6, -, -, -⟩ := Cond.codeWith_spec (hpre _ List.mem_cons_self)
  cases B.named.symm.trans h1
  cases B.method.symm.trans h2
  cases (Stand.of_body B).code.symm.trans h3
  exact body p e s m args below meth c ⟨B.exec, B.bytes, hml, by rw [← ho]; exact findClass_of_methodNamed B.named, fun w h => hpre w (List.mem_cons_of_mem _ h)⟩ B.returns B.notSynchronized (by rw [← h6, table_eq]) hP
end Wr
/-! ===== wrappers that hand an answer out by an array ===== -/
section Wo
/-- the out array's cell -/
abbrev woC (cJ : ClassId) (bo : Nat) (f : Nat → Int64) : va_W := [(bo, .inl (cJ, 1, .inr (.inl f)))]
abbrev woTy (cA cW cJ : ClassId) : List (ClassId × FieldType) := nvTy cA cW ++ [(cJ, .long)]
def woP (D : va_G) (cA cW cJ : ClassId) (w : va_W) (U : State) : Prop := va_P D vwCl w U.heap ∧ va_K D vwCl (woTy cA cW cJ) U ∧ va_D (fun _ => True) w ∧ nmX U ∧ wrC U
theorem woP.bl {D : va_G} {cA cW cJ : ClassId} {w : va_W} : ∀ (a : Array Value) (U : State) (g : JFrame) (mk : MethodId), woP D cA cW cJ w U → woP D cA cW cJ w (U.calling g mk a) :=
  fun a U g mk q => ⟨q.1, va_K.moved (u := U) (U := U.calling g mk a) (Vm.Alike.refl U.vm) q.2.1, q.2.2.1, nmX.bl a U g mk q.2.2.2.1, wrC.to (u := U) (U := U.calling g mk a) (Vm.Alike.refl U.vm) q.2.2.2.2⟩
theorem wo_store {D : va_G} {cA cW cJ : ClassId} {bo : Nat} {w : va_W} {p : Program} {l : Launch} {e : Env} {R : Room} {s : State} {m : MethodId} {args : Array Value} {below : List Frame} {meth : Method} {c : Code} {cells slots pc : Nat} {Q : State → Prop} {cc : ByteArray} {ls : Array Slot} {rest : List Value} {f : Nat → Int64} {x : Int64} {H : Heap} (hx : p.tables.exec = Jvm.exec) (hb : c.code = cc) (hK2 : va_K D vwCl (woTy cA cW cJ) s) (hP2 : va_P D vwCl (w ++ woC cJ bo f) s.heap) (hD2 : va_D (fun _ => True) (w ++ woC cJ bo f)) (hH : H = s.heap) (hdg : decode cc pc = .ok (.lastore, 1))
    (kk : ∀ (H1 : Heap) (locs1 : List Loc), va_P D vwCl (w ++ woC cJ bo (vp_updL f 0 x)) H1 → va_S (fun q => q = bo) s.heap H1 locs1 → W p l e R s m args below meth c H1 locs1 cells slots Q (F0 m (pc + 1) ls rest)) : W p l e R s m args below meth c H [] cells slots Q (F0 m pc ls (.long x :: .int 0 :: .ref bo :: rest)) := by
  subst hH
  refine va_last (A := fun q => q = bo) (H0 := s.heap) (ws := woC cJ bo f) hx hb hK2 (nw_P2 hP2) (va_D1 rfl) va_S.rf 0 2 rfl rfl (vp_in_nI (n := 0) (N := 1) (by decide) (by decide)) hdg (fun H1 locs1 h1 _ h3 => ?_)
  refine kk H1 locs1 (va_P.app (fun k q hq => ?_) h1) h3
  have h9 := nw_P1 hP2 k q hq
  exact h9.kept (h3.2.1 q.1 h9.lt (nw_ne hD2 (j := 0) hq rfl))
theorem wo_K {D : va_G} {cA cW cJ : ClassId} {s : State} (h : va_K D vwCl (woTy cA cW cJ) s) : va_K D vwCl (nvTy cA cW) s := h.sub [0, 1] rfl
end Wo
section Wk
theorem zSame_y {b1 N N' : Nat} {f h : Nat → Nat} (q : ¬ nI (zSame b1 f h N N') = 0) : zSame b1 f h N N' = 1 := by
  unfold zSame at q ⊢
  by_cases hc : N = N' ∧ ∀ k, k < N → (if b1 = 1 then zMatch (f k) (h k) = 1 else f k = h k)
  · exact if_pos hc
  · rw [if_neg hc] at q
    exact absurd rfl q
theorem in1 {p : Prop} [Decidable p] (h : (if p then 1 else 0 : Nat) ≠ 0) : (if p then 1 else 0 : Nat) = 1 := by
  by_cases hp : p
  · exact if_pos hp
  · exact absurd (if_neg hp) h
theorem in12 {p q : Prop} [Decidable p] [Decidable q] (h : (if p then 1 else if q then 2 else 0 : Nat) ≠ 0) : (if p then 1 else if q then 2 else 0 : Nat) = 1 ∨ (if p then 1 else if q then 2 else 0 : Nat) = 2 := by
  by_cases hp : p
  · exact Or.inl (if_pos hp)
  · by_cases hq : q
    · exact Or.inr (by rw [if_neg hp, if_pos hq])
    · exact absurd (by rw [if_neg hp, if_neg hq]) h
theorem in102 {p q : Prop} [Decidable p] [Decidable q] (h : (if p then 1 else if q then 0 else 2 : Nat) ≠ 0) : (if p then 1 else if q then 0 else 2 : Nat) = 1 ∨ (if p then 1 else if q then 0 else 2 : Nat) = 2 := by
  by_cases hp : p
  · exact Or.inl (if_pos hp)
  · by_cases hq : q
    · exact absurd (by rw [if_neg hp, if_pos hq]) h
    · exact Or.inr (by rw [if_neg hp, if_neg hq])
theorem kFill_in {x1 x2 x3 : Int32} (h : kFill x1 x2 x3 ≠ 0) : kFill x1 x2 x3 = 1 ∨ kFill x1 x2 x3 = 2 := in12 (p := plB x1) (q := lenB x2 ∨ valB x3) h
theorem kPut_in {n : Nat → Nat} {x1 x2 x3 : Int32} (h : kPut n x1 x2 x3 ≠ 0) : kPut n x1 x2 x3 = 1 ∨ kPut n x1 x2 x3 = 2 := in12 (p := elB n x1 x2) (q := valB x3) h
theorem kNumber_in {x1 x2 : Int32} (h : kNumber x1 x2 ≠ 0) : kNumber x1 x2 = 1 ∨ kNumber x1 x2 = 2 := in12 (p := plB x1) (q := lenB x2) h
theorem kChange_in {x1 x2 x3 : Int32} (h : kChange x1 x2 x3 ≠ 0) : kChange x1 x2 x3 = 1 ∨ kChange x1 x2 x3 = 2 := in12 (p := plB x2 ∨ plB x3) (q := x1 < 0 ∨ 6 < x1) h
theorem kShift_in {x1 x2 x3 x4 x5 : Int32} (h : kShift x1 x2 x3 x4 x5 ≠ 0) : kShift x1 x2 x3 x4 x5 = 1 ∨ kShift x1 x2 x3 x4 x5 = 2 := in12 (p := plB x4 ∨ plB x5) (q := shB x1 x2 x3) h
theorem kBring_in {x2 x3 x4 : Int32} (h : kBring x2 x3 x4 ≠ 0) : kBring x2 x3 x4 = 1 ∨ kBring x2 x3 x4 = 2 := in12 (p := plB x3 ∨ plB x4) (q := lenB x2) h
theorem kAll_in {x1 x2 : Int32} (h : kAll x1 x2 ≠ 0) : kAll x1 x2 = 1 ∨ kAll x1 x2 = 2 := in12 (p := plB x2) (q := x1 < 0 ∨ 3 < x1) h
theorem kNumberOf_in {n : Nat → Nat} {g : Nat → Nat → Nat} {x1 : Int32} (h : kNumberOf n g x1 ≠ 0) : kNumberOf n g x1 = 1 ∨ kNumberOf n g x1 = 2 := in102 (p := plB x1) (q := zAll (g (ix x1)) (n (ix x1)) = 1) h
theorem kCut_in {n : Nat → Nat} {x1 x2 x3 x4 : Int32} (h : kCut n x1 x2 x3 x4 ≠ 0) : kCut n x1 x2 x3 x4 = 1 := in1 (p := plB x3 ∨ plB x4 ∨ x1 < 0 ∨ nI (n (ix x3)) < x1 ∨ x2 < 0 ∨ nI (n (ix x3)) - x1 < x2) h
theorem kGet_in {n : Nat → Nat} {x1 x2 : Int32} (h : kGet n x1 x2 ≠ 0) : kGet n x1 x2 = 1 := in1 (p := elB n x1 x2) h
theorem kPl_in {x1 : Int32} (h : kPl x1 ≠ 0) : kPl x1 = 1 := in1 (p := plB x1) h
theorem kPl2_in {x1 x2 : Int32} (h : kPl2 x1 x2 ≠ 0) : kPl2 x1 x2 = 1 := in1 (p := plB x1 ∨ plB x2) h
theorem kEdge_in {x1 x2 : Int32} (h : kEdge x1 x2 ≠ 0) : kEdge x1 x2 = 1 := in1 (p := valB x1 ∨ valB x2) h
theorem kOp_in {o b1 N N' : Nat} {f h : Nat → Nat} (q : kOp o b1 f N h N' ≠ 0) : kOp o b1 f N h N' = 2 ∨ kOp o b1 f N h N' = 3 := by
  unfold kOp kCalc at q ⊢
  by_cases h1 : o ≤ 6
  · rw [if_pos h1] at q ⊢
    by_cases h2 : N = N'
    · exact absurd (if_pos h2) q
    · exact Or.inl (if_neg h2)
  · rw [if_neg h1] at q ⊢
    by_cases h2 : o = 13
    · rw [if_pos h2] at q ⊢
      by_cases h3 : N + N' ≤ 64
      · exact absurd (if_pos h3) q
      · exact Or.inl (if_neg h3)
    · rw [if_neg h2] at q ⊢
      by_cases h3 : 64 < zLen o N N'
      · exact Or.inl (if_pos h3)
      · rw [if_neg h3] at q ⊢
        by_cases h4 : zCnt f N = 1 ∧ zCnt h N' = 1 ∧ 10 ≤ o ∧ zLong b1 h N' = 0
        · exact Or.inr (if_pos h4)
        · exact absurd (if_neg h4) q
theorem kOperate_in {n : Nat → Nat} {g : Nat → Nat → Nat} {b1 : Nat} {x1 x3 x4 x5 : Int32} (h : kOperate n g b1 x1 x3 x4 x5 ≠ 0) : kOperate n g b1 x1 x3 x4 x5 = 1 ∨ kOperate n g b1 x1 x3 x4 x5 = 2 ∨ kOperate n g b1 x1 x3 x4 x5 = 3 := by
  unfold kOperate at h ⊢
  by_cases h1 : plB x3 ∨ plB x4 ∨ plB x5
  · exact Or.inl (if_pos h1)
  · rw [if_neg h1] at h ⊢
    by_cases h2 : x1 < 0 ∨ 13 < x1
    · exact Or.inr (Or.inl (if_pos h2))
    · rw [if_neg h2] at h ⊢
      exact Or.inr (kOp_in h)
end Wk
