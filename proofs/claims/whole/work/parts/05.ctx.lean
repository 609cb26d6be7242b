/-! ===== one list of words for all methods: the good ones of the tables; calls by it ===== -/
section Nz
def nzG : List Cond := lw_tbl.filter goodWord
theorem nzG_good : ∀ w ∈ nzG, goodWord w = true := fun w h => (List.mem_filter.mp h).2
theorem nzG_tbl : ∀ w ∈ nzG, w ∈ lw_tbl := fun w h => (List.mem_filter.mp h).1
theorem nz_pay {args : Array Value} {s : State} (h : ∀ w ∈ nzG, w.before args s = true) {w0 : Cond} (h0 : w0 ∈ nzG) : ∀ w ∈ w0 :: nzG, ∀ (a' : Array Value) (U : State), s.WarmedH U.vm → w.before a' U = true := fun w hw a' U hW => by
  rcases List.mem_cons.mp hw with e | e
  · rw [e]; exact word_at hW (good_of_word (nzG_good w0 h0)) (h w0 h0)
  · exact word_at hW (good_of_word (nzG_good w e)) (h w e)
/-- a static call, by its words -/
def nzS (own : String) (i : Nat) (y : MethodName) (b : ByteArray) (mL : Nat) (r : Option FieldType) (n : Nat) : Prop :=
  Cond.methodLink own i y ∈ nzG ∧ Cond.static y ∈ nzG ∧ Cond.initialized y.cls ∈ nzG ∧ Cond.code y b mL r ∈ nzG ∧ (y.cls ≠ "java/lang/invoke/MethodHandle" ∧ y.cls ≠ "java/lang/invoke/VarHandle") ∧ (parseMethodDescriptor y.desc).map (fun d => d.parameters.length) = some n
/-- a virtual call, by its words -/
def nzV (own : String) (i : Nat) (C : String) (y : MethodName) (b : ByteArray) (mL : Nat) (r : Option FieldType) (n : Nat) : Prop :=
  Cond.methodLink own i y ∈ nzG ∧ Cond.instanceMethod y ∈ nzG ∧ Cond.selects C y y ∈ nzG ∧ Cond.initialized y.cls ∈ nzG ∧ Cond.code y b mL r ∈ nzG ∧ (y.cls ≠ "java/lang/invoke/MethodHandle" ∧ y.cls ≠ "java/lang/invoke/VarHandle") ∧ (parseMethodDescriptor y.desc).map (fun d => d.parameters.length) = some n
variable {p : Program} {l : Launch} {e : Env} {R : Room} {s : State} {m : MethodId} {args : Array Value} {below : List Frame} {meth : Method} {c : Code} {H : Heap} {locs : List Loc} {cells slots : Nat} {Q : State → Prop}
variable {own C : String} {i : Nat} {y : MethodName} {b cc : ByteArray} {mL nL n mc ms pc : Nat} {r : Option FieldType} {rm : Room} {As rest st0 : List Value} {ls : Array Slot}
theorem nzS.cb (h : nzS own i y b mL r n) (hts : ∀ w ∈ nzG, w.before args s = true) (hrc : rm.cells = mc) (hrs : rm.slots = ms) (hR : rm.frames + 1 ≤ R.frames ∧ 8 + (mL + 11) + rm.locals ≤ R.locals) : CallB R s args own i y b mL r (Cond.code y b mL r :: nzG) rm mc ms n ∧ (Cond.static y).before args s = true := by
  obtain ⟨h1, h2, h3, h4, h5, h6⟩ := h
  refine ⟨⟨hrc, hrs, hR.1, hR.2, nz_pay hts h4, List.mem_cons_self, hts _ h4, hts _ h3, h5, fun sig hs => ?_, hts _ h1⟩, hts _ h2⟩
  rw [hs] at h6
  exact (Option.some.inj h6).symm
theorem nzV.cb (h : nzV own i C y b mL r n) (hts : ∀ w ∈ nzG, w.before args s = true) (hrc : rm.cells = mc) (hrs : rm.slots = ms) (hR : rm.frames + 1 ≤ R.frames ∧ 8 + (mL + 11) + rm.locals ≤ R.locals) : CallW R s args own C i y b mL r (Cond.code y b mL r :: nzG) rm mc ms n := by
  obtain ⟨h1, h2, h3, h4, h5, h6, h7⟩ := h
  refine ⟨⟨hrc, hrs, hR.1, hR.2, nz_pay hts h5, List.mem_cons_self, hts _ h5, hts _ h4, h6, fun sig hs => ?_, hts _ h1⟩, hts _ h2, hts _ h3⟩
  rw [hs] at h7
  exact (Option.some.inj h7).symm
/-- the callee's room fits mine -/
def nzR (rm R : Room) (mL k n : Nat) : Prop := rm.cells = k ∧ rm.slots = n ∧ rm.frames + 1 ≤ R.frames ∧ 8 + (mL + 11) + rm.locals ≤ R.locals
variable {Pre : State → Prop}
/-- a call of a static method that reads alone: an int comes back -/
theorem nz_si {post : Int32 → Prop} (S : CallFix p m c cc nL s args nzG own) (hM : Met l y (Cond.code y b mL r :: nzG) rm (va_Pc As Pre) (vp_Si post) 0 0 (fun _ => False)) (hw : nzS own i y b mL r n) (hR : nzR rm R mL 0 0) (hc : cells ≤ R.cells ∧ slots ≤ R.slots)
    (hbl : ∀ (a : Array Value) (U : State) (g : JFrame) (mk : MethodId), Pre U → Pre (U.calling g mk a)) (hpre : ∀ U : State, U.heap = H → s.WarmedH U.vm → Pre U)
    (hn : As.length = n) (hsz : ls.size = nL) (hst : st0 = As.reverse ++ rest) (hW : (rest.map fun v => v.category).sum ≤ 8) (hdg : decode cc pc = .ok (.invokestatic i, 3))
    (kk : ∀ r9 : Int32, post r9 → W p l e R s m args below meth c H locs cells slots Q (F0 m (pc + 3) ls (.int r9 :: rest))) : W p l e R s m args below meth c H locs cells slots Q (F0 m pc ls st0) :=
  vp_callSi (W.runS S hM (hw.cb S.2.2.2.2 hR.1 hR.2.1 hR.2.2) ⟨fun a U g mk q => ⟨q.1, hbl a U g mk q.2⟩, fun U hU hW => ⟨rfl, hpre U hU hW⟩⟩ rfl hn hsz hst (lv_room hW) hdg hc) kk
theorem nz_sl {post : Int64 → Prop} (S : CallFix p m c cc nL s args nzG own) (hM : Met l y (Cond.code y b mL r :: nzG) rm (va_Pc As Pre) (vp_Sl post) 0 0 (fun _ => False)) (hw : nzS own i y b mL r n) (hR : nzR rm R mL 0 0) (hc : cells ≤ R.cells ∧ slots ≤ R.slots)
    (hbl : ∀ (a : Array Value) (U : State) (g : JFrame) (mk : MethodId), Pre U → Pre (U.calling g mk a)) (hpre : ∀ U : State, U.heap = H → s.WarmedH U.vm → Pre U)
    (hn : As.length = n) (hsz : ls.size = nL) (hst : st0 = As.reverse ++ rest) (hW : (rest.map fun v => v.category).sum ≤ 8) (hdg : decode cc pc = .ok (.invokestatic i, 3))
    (kk : ∀ r9 : Int64, post r9 → W p l e R s m args below meth c H locs cells slots Q (F0 m (pc + 3) ls (.long r9 :: rest))) : W p l e R s m args below meth c H locs cells slots Q (F0 m pc ls st0) :=
  vp_callSl (W.runS S hM (hw.cb S.2.2.2.2 hR.1 hR.2.1 hR.2.2) ⟨fun a U g mk q => ⟨q.1, hbl a U g mk q.2⟩, fun U hU hW => ⟨rfl, hpre U hU hW⟩⟩ rfl hn hsz hst (lv_room hW) hdg hc) kk
/-- .. of a virtual one, on the object o -/
theorem nz_vi {post : Int32 → Prop} {o : Nat} (S : CallFix p m c cc nL s args nzG own) (hM : Met l y (Cond.code y b mL r :: nzG) rm (va_Pc (.ref o :: As) Pre) (vp_Si post) 0 0 (fun _ => False)) (hw : nzV own i C y b mL r n) (hR : nzR rm R mL 0 0) (hc : cells ≤ R.cells ∧ slots ≤ R.slots)
    (hbl : ∀ (a : Array Value) (U : State) (g : JFrame) (mk : MethodId), Pre U → Pre (U.calling g mk a)) (hob : ∃ cellB : Cell, H[o]? = some cellB ∧ cellB.vm.isStatics = false ∧ s.vm.findClass C = some cellB.cls) (hpre : ∀ U : State, U.heap = H → s.WarmedH U.vm → Pre U)
    (hn : As.length = n) (hsz : ls.size = nL) (hst : st0 = As.reverse ++ .ref o :: rest) (hW : (rest.map fun v => v.category).sum ≤ 8) (hdg : decode cc pc = .ok (.invokevirtual i, 3))
    (kk : ∀ r9 : Int32, post r9 → W p l e R s m args below meth c H locs cells slots Q (F0 m (pc + 3) ls (.int r9 :: rest))) : W p l e R s m args below meth c H locs cells slots Q (F0 m pc ls st0) :=
  vp_callSi (W.runV S hM (hw.cb S.2.2.2.2 hR.1 hR.2.1 hR.2.2) ⟨fun a U g mk q => ⟨q.1, hbl a U g mk q.2⟩, hob, fun U hU hW => ⟨rfl, hpre U hU hW⟩⟩ rfl hn hsz hst (lv_room hW) hdg hc) kk
theorem nz_vl {post : Int64 → Prop} {o : Nat} (S : CallFix p m c cc nL s args nzG own) (hM : Met l y (Cond.code y b mL r :: nzG) rm (va_Pc (.ref o :: As) Pre) (vp_Sl post) 0 0 (fun _ => False)) (hw : nzV own i C y b mL r n) (hR : nzR rm R mL 0 0) (hc : cells ≤ R.cells ∧ slots ≤ R.slots)
    (hbl : ∀ (a : Array Value) (U : State) (g : JFrame) (mk : MethodId), Pre U → Pre (U.calling g mk a)) (hob : ∃ cellB : Cell, H[o]? = some cellB ∧ cellB.vm.isStatics = false ∧ s.vm.findClass C = some cellB.cls) (hpre : ∀ U : State, U.heap = H → s.WarmedH U.vm → Pre U)
    (hn : As.length = n) (hsz : ls.size = nL) (hst : st0 = As.reverse ++ .ref o :: rest) (hW : (rest.map fun v => v.category).sum ≤ 8) (hdg : decode cc pc = .ok (.invokevirtual i, 3))
    (kk : ∀ r9 : Int64, post r9 → W p l e R s m args below meth c H locs cells slots Q (F0 m (pc + 3) ls (.long r9 :: rest))) : W p l e R s m args below meth c H locs cells slots Q (F0 m pc ls st0) :=
  vp_callSl (W.runV S hM (hw.cb S.2.2.2.2 hR.1 hR.2.1 hR.2.2) ⟨fun a U g mk q => ⟨q.1, hbl a U g mk q.2⟩, hob, fun U hU hW => ⟨rfl, hpre U hU hW⟩⟩ rfl hn hsz hst (lv_room hW) hdg hc) kk
theorem nz_eqi {x y : Int32} (h : x = y) (k : W p l e R s m args below meth c H locs cells slots Q (F0 m pc ls (.int y :: rest))) : W p l e R s m args below meth c H locs cells slots Q (F0 m pc ls (.int x :: rest)) := h ▸ k
theorem nz_eql {x y : Int64} (h : x = y) (k : W p l e R s m args below meth c H locs cells slots Q (F0 m pc ls (.long y :: rest))) : W p l e R s m args below meth c H locs cells slots Q (F0 m pc ls (.long x :: rest)) := h ▸ k
/-- a contract out of the walk of its body -/
theorem nz_of {Pc : Array Value → State → Prop} {Qc : Array Value → State → Outcome → State → Prop} {free : Addr → Prop} (hy : plainName y.cls = true) (ho : y.cls = own)
    (body : ∀ (p : Program) (e : Env) (s : State) (m : MethodId) (args : Array Value) (below : List Frame) (meth : Method) (c : Code), CallFix p m c b mL s args nzG own → meth.sig.returnType = r → meth.locks = false → meth.name = y.name → Pc args s →
      W p l e rm s m args below meth c s.heap [] 0 0 (MQ below Qc args s mc ms free) (entryFrame m args mL)) : Met l y (Cond.code y b mL r :: nzG) rm Pc Qc mc ms free := by
  refine Met.ofW (cc := b) (maxL := mL) (ret := r) hy rfl ?_
  intro p e s m args below meth c s₁ B hml hP
  exact body p e s m args below meth c ⟨B.exec, B.bytes, hml, by rw [← ho]; exact findClass_of_methodNamed B.named, fun w h => atoms_spec B.pre w (List.mem_cons_of_mem _ h)⟩ B.returns B.notSynchronized (name_of_methodNamed B.named B.method).1 hP
/-- .. of one that may throw -/
theorem nz_ofT {Pc : Array Value → State → Prop} {Qc : Array Value → State → Outcome → State → Prop} {free : Addr → Prop} {k0 n0 : Nat} (hy : plainName y.cls = true) (ho : y.cls = own)
    (body : ∀ (p : Program) (e : Env) (s : State) (m : MethodId) (args : Array Value) (below : List Frame) (meth : Method) (c : Code), CallFix p m c b mL s args nzG own → meth.sig.returnType = r → meth.locks = false → (∀ x ∈ c.exceptionTable.toList, ∀ pc, covers x pc = false) → Pc args s →
      W p l e rm s m args below meth c s.heap [] 0 0 (ny_MQ below Qc args s k0 n0 mc ms free) (entryFrame m args mL)) : ny_Met l y (Cond.code y b mL r :: nzG) rm Pc Qc k0 n0 mc ms free := by
  refine ny_ofW (cc := b) (maxL := mL) (ret := r) hy rfl ?_
  intro p e s m args below meth c s₁ B hml hno hP
  exact body p e s m args below meth c ⟨B.exec, B.bytes, hml, by rw [← ho]; exact findClass_of_methodNamed B.named, fun w h => atoms_spec B.pre w (List.mem_cons_of_mem _ h)⟩ B.returns B.notSynchronized hno hP
theorem nz_entry {vs : List Value} {lv : List (Nat × Value)} (h : (lg_sl vs).length ≤ n) (he : lv_args 0 vs = lv) (k : ∀ ls : Array Slot, lv_has ls n lv → W p l e R s m args below meth c H locs cells slots Q (F0 m 0 ls [])) : W p l e R s m args below meth c H locs cells slots Q (entryFrame m vs.toArray n) := by
  rw [lg_entry_eq]
  exact k _ (he ▸ lv_entry vs h)
end Nz
