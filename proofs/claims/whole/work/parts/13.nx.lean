/-! ===== methods of the class that may throw: what they ask, how they end, calls of them ===== -/
section Nx
/-- returned: ret; thrown: an object of a class that exc names, all else as it was -/
def nxQ (ret : Option Value → State → State → Prop) (exc : String → Prop) : Array Value → State → Outcome → State → Prop := fun _ st o t => match o with
  | .returned v => ret v st t
  | .threw q => ∃ E : String, exc E ∧ ny_Thr E st q t
theorem ny_Thr.up {E : String} {s st t : State} {q : Addr} (hh : st.heap = s.heap) (hW : s.WarmedH st.vm) (h : ny_Thr E st q t) : ny_Thr E s q t := by
  obtain ⟨ce, h1, h2, h3, h4, h5⟩ := h
  rw [hh] at h4 h5
  exact ⟨ce, h1, h2, by rw [hW.alike.findClass] at h3; exact h3, h4, h5⟩
variable {p : Program} {l : Launch} {e : Env} {R : Room} {s : State} {m : MethodId} {args : Array Value} {below : List Frame} {meth : Method} {c : Code}
variable {own C : String} {i : Nat} {y : MethodName} {b cc : ByteArray} {mL nL n pc : Nat} {r : Option FieldType} {rm : Room} {As rest st0 : List Value} {ls : Array Slot} {free : Addr → Prop} {Pre : State → Prop}
variable {ret : Option Value → State → State → Prop} {exc : String → Prop} {rt : Option Value → State → State → Prop} {ex : String → Prop}
/-- what came out of a callee goes on to my caller -/
theorem nx_out {q : Addr} {st t : State} {H1 : Heap} (hno : ∀ x ∈ c.exceptionTable.toList, ∀ pc, covers x pc = false) (hlocks : meth.locks = false) (h0 : st.heap = s.heap) (hw : s.WarmedH st.vm) (ht : t.heap = H1) (hq : ∃ E : String, exc E ∧ ny_Thr E st q t) (hE : ∀ E, exc E → ex E) :
    ny_W p l e R s m args below meth c H1 [] 1 6 (ny_MQ below (nxQ rt ex) args s 0 0 1 6 free) (F0 m pc ls rest) q := by
  obtain ⟨E, h1, h2⟩ := hq
  refine ny_out (fun x hx => hno x hx _) hlocks (fun t9 ht9 hW9 => ⟨E, hE E h1, ?_⟩) (fun z hz => nomatch hz) (Nat.le_refl _) (Nat.le_refl _)
  obtain ⟨ce, g1, g2, g3, g4, g5⟩ := h2.up h0 hw
  have e9 : t9.heap = t.heap := by rw [ht9, ht]
  exact ⟨ce, by rw [e9]; exact g1, g2, g3, by rw [e9]; exact g4, fun z hz => by rw [e9]; exact g5 z hz⟩
/-- a static method that only looks, and may throw -/
theorem nx_sv {post : Prop} (S : CallFix p m c cc nL s args nzG own) (hM : ny_Met l y (Cond.code y b mL r :: nzG) rm (va_Pc As Pre) (nxQ (fun v st t => v = none ∧ t.heap = st.heap ∧ post) exc) 0 0 1 6 (fun _ => False)) (hw : nzS own i y b mL r n) (hR : nzR rm R mL 1 6) (hc : 1 ≤ R.cells ∧ 6 ≤ R.slots)
    (hbl : ∀ (a : Array Value) (U : State) (g : JFrame) (mk : MethodId), Pre U → Pre (U.calling g mk a)) (hpre : ∀ U : State, U.heap = s.heap → s.WarmedH U.vm → Pre U)
    (hn : As.length = n) (hsz : ls.size = nL) (hst : st0 = As.reverse ++ rest) (hW : (rest.map fun v => v.category).sum ≤ 8) (hdg : decode cc pc = .ok (.invokestatic i, 3))
    (hno : ∀ x ∈ c.exceptionTable.toList, ∀ pc, covers x pc = false) (hlocks : meth.locks = false) (hE : ∀ E, exc E → ex E)
    (kk : post → W p l e R s m args below meth c s.heap [] 0 0 (ny_MQ below (nxQ rt ex) args s 0 0 1 6 free) (F0 m (pc + 3) ls rest)) : W p l e R s m args below meth c s.heap [] 0 0 (ny_MQ below (nxQ rt ex) args s 0 0 1 6 free) (F0 m pc ls st0) := by
  refine ny_call (ny_runS S hM (hw.cb S.2.2.2.2 hR.1 hR.2.1 hR.2.2) ⟨fun a U g mk q => ⟨q.1, hbl a U g mk q.2⟩, fun U hU hW => ⟨rfl, hpre U hU hW⟩⟩ rfl hn hsz hst (lv_room hW) hdg ⟨by omega, by omega⟩) ?_ ?_
  · intro v st₀ t H1 L h0 hw0 ht hwt hL hq
    obtain ⟨rfl, hh, hp⟩ := hq
    have hL0 : L = [] := by
      cases L with
      | nil => rfl
      | cons a L => exact (hL a List.mem_cons_self).elim
    subst hL0
    have e9 : H1 = s.heap := by rw [← ht, hh, h0]
    subst e9
    exact kk hp
  · intro q st₀ t H1 L h0 hw0 ht hwt hL hq
    have hL0 : L = [] := by
      cases L with
      | nil => rfl
      | cons a L => exact (hL a List.mem_cons_self).elim
    subst hL0
    exact nx_out hno hlocks h0 hw0 ht hq hE
/-- .. a virtual one -/
theorem nx_vv {post : Prop} {o : Nat} (S : CallFix p m c cc nL s args nzG own) (hM : ny_Met l y (Cond.code y b mL r :: nzG) rm (va_Pc (.ref o :: As) Pre) (nxQ (fun v st t => v = none ∧ t.heap = st.heap ∧ post) exc) 0 0 1 6 (fun _ => False)) (hw : nzV own i C y b mL r n) (hR : nzR rm R mL 1 6) (hc : 1 ≤ R.cells ∧ 6 ≤ R.slots)
    (hbl : ∀ (a : Array Value) (U : State) (g : JFrame) (mk : MethodId), Pre U → Pre (U.calling g mk a)) (hob : ∃ cellB : Cell, s.heap[o]? = some cellB ∧ cellB.vm.isStatics = false ∧ s.vm.findClass C = some cellB.cls) (hpre : ∀ U : State, U.heap = s.heap → s.WarmedH U.vm → Pre U)
    (hn : As.length = n) (hsz : ls.size = nL) (hst : st0 = As.reverse ++ .ref o :: rest) (hW : (rest.map fun v => v.category).sum ≤ 8) (hdg : decode cc pc = .ok (.invokevirtual i, 3))
    (hno : ∀ x ∈ c.exceptionTable.toList, ∀ pc, covers x pc = false) (hlocks : meth.locks = false) (hE : ∀ E, exc E → ex E)
    (kk : post → W p l e R s m args below meth c s.heap [] 0 0 (ny_MQ below (nxQ rt ex) args s 0 0 1 6 free) (F0 m (pc + 3) ls rest)) : W p l e R s m args below meth c s.heap [] 0 0 (ny_MQ below (nxQ rt ex) args s 0 0 1 6 free) (F0 m pc ls st0) := by
  refine ny_call (ny_runV S hM (hw.cb S.2.2.2.2 hR.1 hR.2.1 hR.2.2) ⟨fun a U g mk q => ⟨q.1, hbl a U g mk q.2⟩, hob, fun U hU hW => ⟨rfl, hpre U hU hW⟩⟩ rfl hn hsz hst (lv_room hW) hdg ⟨by omega, by omega⟩) ?_ ?_
  · intro v st₀ t H1 L h0 hw0 ht hwt hL hq
    obtain ⟨rfl, hh, hp⟩ := hq
    have hL0 : L = [] := by
      cases L with
      | nil => rfl
      | cons a L => exact (hL a List.mem_cons_self).elim
    subst hL0
    have e9 : H1 = s.heap := by rw [← ht, hh, h0]
    subst e9
    exact kk hp
  · intro q st₀ t H1 L h0 hw0 ht hwt hL hq
    have hL0 : L = [] := by
      cases L with
      | nil => rfl
      | cons a L => exact (hL a List.mem_cons_self).elim
    subst hL0
    exact nx_out hno hlocks h0 hw0 ht hq hE
end Nx
