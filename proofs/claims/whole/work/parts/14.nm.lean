/-! ===== the methods of NineValues: what they ask of the state, the rows of its own instructions ===== -/
section Nm
/-- the words of a nest mate's fields -/
abbrev nmS : Cond := .fieldLinkNest RN fN_size RW "size" "I" nmHost
abbrev nmE : Cond := .fieldLinkNest RN fN_elements RW "elements" "[I" nmHost
def nmEx : List String := ["java/lang/IndexOutOfBoundsException", "java/lang/IllegalArgumentException", "java/lang/IllegalStateException", "java/lang/ArithmeticException"]
/-- beside the world: what links, throws and texts ask -/
def nmDc : List MethodName := [Bundle.initS "java/lang/RuntimeException", Bundle.initS "java/lang/Exception", Bundle.initS Bundle.tN]
def nmX (U : State) : Prop := va_Nw nmS U ∧ va_Nw nmE U ∧ (∀ E ∈ nmEx, va_Nw (.castable E E) U) ∧ (∀ q ∈ nmStr, ∃ sa, vk_R RN q.1 q.2 sa U) ∧ ny_J U ∧ ∀ y ∈ nmDc, va_Nw (.declares y) U
theorem nmX.to {u U : State} (hW : u.WarmedH U.vm) (hh : ∀ q, q < u.heap.size → U.heap[q]? = u.heap[q]?) (h : nmX u) : nmX U :=
  ⟨va_Nw.warmF hW h.1, va_Nw.warmF hW h.2.1, fun E hE => va_Nw.warmC hW (h.2.2.1 E hE), fun q hq => Exists.elim (h.2.2.2.1 q hq) fun sa g => ⟨sa, g.warm hW⟩, h.2.2.2.2.1.to hW.alike hh, fun y hy => va_Nw.warmD hW (h.2.2.2.2.2 y hy)⟩
theorem nmX.bl : ∀ (a : Array Value) (U : State) (g : JFrame) (mk : MethodId), nmX U → nmX (U.calling g mk a) := fun a U g mk h =>
  ⟨va_Nw.same rfl rfl h.1, va_Nw.same rfl rfl h.2.1, fun E hE => va_Nw.same rfl rfl (h.2.2.1 E hE), fun q hq => Exists.elim (h.2.2.2.1 q hq) fun sa g => ⟨sa, vk_R.same rfl g⟩, ny_J.to (u := U) (U := U.calling g mk a) (Vm.Alike.refl U.vm) (fun _ _ => rfl) h.2.2.2.2.1, fun y hy => va_Nw.same rfl rfl (h.2.2.2.2.2 y hy)⟩
theorem nmX.at {s : State} {H : Heap} (h : nmX s) (hH : H = s.heap) : ∀ U : State, U.heap = H → s.WarmedH U.vm → nmX U := fun U hU hW => h.to hW (fun q _ => by rw [hU, hH])
def nmP (D : va_G) (cA cW : ClassId) (w : va_W) (U : State) : Prop := va_P D vwCl w U.heap ∧ va_K D vwCl (nvTy cA cW) U ∧ nmX U
variable {cA cW : ClassId} {T : Nat → Nat} {n : Nat → Nat} {g : Nat → Nat → Nat} {i : Nat}
theorem nmP.bl {D : va_G} {w : va_W} : ∀ (a : Array Value) (U : State) (g : JFrame) (mk : MethodId), nmP D cA cW w U → nmP D cA cW w (U.calling g mk a) :=
  fun a U g mk q => ⟨q.1, va_K.moved (u := U) (U := U.calling g mk a) (Vm.Alike.refl U.vm) q.2.1, nmX.bl a U g mk q.2.2⟩
theorem nmP.to {D : va_G} {w : va_W} {s : State} (hP : va_P D vwCl w s.heap) (hK : va_K D vwCl (nvTy cA cW) s) (hX : nmX s) : ∀ U : State, U.heap = s.heap → s.WarmedH U.vm → nmP D cA cW w U :=
  fun U hU hW => ⟨by rw [hU]; exact hP, va_K.moved hW.alike hK, hX.at rfl U hU hW⟩
variable {D : va_G} {p : Program} {l : Launch} {e : Env} {R : Room} {s : State} {m : MethodId} {args : Array Value} {below : List Frame} {meth : Method} {c : Code} {H : Heap} {locs : List Loc} {cells slots : Nat} {Q : State → Prop}
variable {cc : ByteArray} {nL pc : Nat} {ls : Array Slot} {rest : List Value}
/-- this.places, this.answer -/
theorem nm_getP (S : CallFix p m c cc nL s args nzG RN) (hK : va_K D vwCl (nvTy cA cW) s) (hP : va_P D vwCl (nvW cA cW T n g) H) (hdg : decode cc pc = .ok (.getfield fN_places, 3))
    (kk : W p l e R s m args below meth c H locs cells slots Q (F0 m (pc + 3) ls (.ref (T 1) :: rest))) : W p l e R s m args below meth c H locs cells slots Q (F0 m pc ls (.ref (T 0) :: rest)) :=
  va_get (D := D) (ci := ciN) (v := .ref (T 1)) (C := RN) (T := FN) (N := 2) S.1 S.2.1 S.2.2.2.2 in_N S.2.2.2.1 hK hP 0 nv_0 rfl 0 (by decide) (S.2.2.2.2 _ fl_N_places) (fun _ h9 => h9) rfl hdg kk
theorem nm_getA (S : CallFix p m c cc nL s args nzG RN) (hK : va_K D vwCl (nvTy cA cW) s) (hP : va_P D vwCl (nvW cA cW T n g) H) (hdg : decode cc pc = .ok (.getfield fN_answer, 3))
    (kk : W p l e R s m args below meth c H locs cells slots Q (F0 m (pc + 3) ls (.ref (T (2 + 16)) :: rest))) : W p l e R s m args below meth c H locs cells slots Q (F0 m pc ls (.ref (T 0) :: rest)) :=
  va_get (D := D) (ci := ciN) (v := .ref (T 18)) (C := RN) (T := FN) (N := 2) S.1 S.2.1 S.2.2.2.2 in_N S.2.2.2.1 hK hP 0 nv_0 rfl 1 (by decide) (S.2.2.2.2 _ fl_N_answer) (fun _ h9 => h9) rfl hdg kk
/-- places[j] -/
theorem nm_ald {j : Nat} (hx : p.tables.exec = Jvm.exec) (hb : c.code = cc) (hK : va_K D vwCl (nvTy cA cW) s) (hP : va_P D vwCl (nvW cA cW T n g) H) (hj : j < 16) (hdg : decode cc pc = .ok (.aaload, 1))
    (kk : W p l e R s m args below meth c H locs cells slots Q (F0 m (pc + 1) ls (.ref (T (2 + j)) :: rest))) : W p l e R s m args below meth c H locs cells slots Q (F0 m pc ls (.int (nI j) :: .ref (T 1) :: rest)) := by
  refine va_aldq hx hb hK hP 1 1 nv_1 rfl (vp_in_nI hj (by omega)) hdg ?_
  rw [nI_clamp (by omega)]
  exact kk
/-- a word's size and elements, from outside -/
theorem nm_getS (S : CallFix p m c cc nL s args nzG RN) (hX : nmX s) (hK : va_K D vwCl (nvTy cA cW) s) (hP : va_P D vwCl (nvW cA cW T n g) H) (hi : i < 17) (hdg : decode cc pc = .ok (.getfield fN_size, 3))
    (kk : W p l e R s m args below meth c H locs cells slots Q (F0 m (pc + 3) ls (.int (nI (n i)) :: rest))) : W p l e R s m args below meth c H locs cells slots Q (F0 m pc ls (.ref (T (2 + i)) :: rest)) :=
  va_getN (D := D) (ci := ciW) (v := .int (nI (n i))) (own := RN) (ref := RW) (C := RW) (T := FW) (N := 2) (host := nmHost) S.1 S.2.1 S.2.2.2.2 in_W S.2.2.2.1 hK hP (2 + i) (nv_w hi) rfl 0 (by decide) (va_Nw.use rfl hX.1) (fun _ h9 => h9) rfl hdg kk
theorem nm_getE (S : CallFix p m c cc nL s args nzG RN) (hX : nmX s) (hK : va_K D vwCl (nvTy cA cW) s) (hP : va_P D vwCl (nvW cA cW T n g) H) (hi : i < 17) (hdg : decode cc pc = .ok (.getfield fN_elements, 3))
    (kk : W p l e R s m args below meth c H locs cells slots Q (F0 m (pc + 3) ls (.ref (T (19 + i)) :: rest))) : W p l e R s m args below meth c H locs cells slots Q (F0 m pc ls (.ref (T (2 + i)) :: rest)) :=
  va_getN (D := D) (ci := ciW) (v := .ref (T (19 + i))) (own := RN) (ref := RW) (C := RW) (T := FW) (N := 2) (host := nmHost) S.1 S.2.1 S.2.2.2.2 in_W S.2.2.2.1 hK hP (2 + i) (nv_w hi) rfl 1 (by decide) (va_Nw.use rfl hX.2.1) (fun _ h9 => h9) rfl hdg kk
theorem nm_putS {N : Nat} (S : CallFix p m c cc nL s args nzG RN) (hX : nmX s) (hT : nvT T) (hK : va_K D vwCl (nvTy cA cW) s) (hP : va_P D vwCl (nvW cA cW T n g) H) (hS : va_S (nvA T) s.heap H locs) (hi : i < 17) (hdg : decode cc pc = .ok (.putfield fN_size, 3))
    (kk : ∀ (H1 : Heap) (locs1 : List Loc), va_P D vwCl (nvW cA cW T (va_up n i N) g) H1 → va_S (nvA T) s.heap H1 locs1 → W p l e R s m args below meth c H1 locs1 cells slots Q (F0 m (pc + 3) ls rest)) : W p l e R s m args below meth c H locs cells slots Q (F0 m pc ls (.int (nI N) :: .ref (T (2 + i)) :: rest)) :=
  va_putN (D := D) (ci := ciW) (v := .int (nI N)) (ty := .int) (own := RN) (ref := RW) (C := RW) (T := FW) (N := 2) (host := nmHost) S.1 S.2.1 S.2.2.2.2 in_W tyW tyW_ok nmW S.2.2.2.1 hK hP (nvD hT) hS (2 + i) (nv_w hi) rfl 0 (by decide) (va_Nw.use rfl hX.1) (fun _ h9 => h9) rfl (by decide +kernel) rfl rfl (Nat.le_of_ble_eq_true rfl) hdg
    (fun H1 locs1 h1 _ h3 => kk H1 locs1 (nv_setw hi N ▸ h1) h3)
/-- throw new E("text") -/
theorem nm_throw {E tx : String} {ik is ic : Nat} {free : Addr → Prop} {Qc : Array Value → State → Outcome → State → Prop} (S : CallFix p m c cc nL s args nzG RN) (hfl : l.flags = pinnedFlags ++ [noTraceFlag]) (hX : nmX s) (hE : E ∈ nmEx) (hfit : Bundle.fit E = true) (hk : Cond.classLink RN ik E ∈ nzG) (hini : Cond.initialized E ∈ nzG) (hs : (is, tx) ∈ nmStr)
    (hat : ∀ w ∈ Bundle.ownAtoms RN ic E ["java/lang/RuntimeException", "java/lang/Exception"], w ∈ nmSp E ∨ w ∈ nzG)
    (hl : ls.size = nL) (hR : 5 < R.frames ∧ 8 + 82 ≤ R.locals ∧ 1 ≤ R.cells ∧ 6 ≤ R.slots) (hW : (rest.map fun v => v.category).sum ≤ 8) (hlocks : meth.locks = false) (hno : ∀ x ∈ c.exceptionTable.toList, ∀ pc, covers x pc = false)
    (d0 : decode cc pc = .ok (.new ik, 3)) (d3 : decode cc (pc + 3) = .ok (.dup, 1)) (d4 : decode cc (pc + 4) = .ok (.ldc is, 2)) (d6 : decode cc (pc + 6) = .ok (.invokespecial ic, 3)) (d9 : decode cc (pc + 9) = .ok (.athrow, 1))
    (hx : ∀ (t : State) (q : Addr), s.WarmedH t.vm → ny_Thr E s q t → Qc args s (.threw q) t) :
    W p l e R s m args below meth c s.heap [] 0 0 (ny_MQ below Qc args s 0 0 1 6 free) (F0 m pc ls rest) := by
  obtain ⟨sa, hstr⟩ := hX.2.2.2.1 _ hs
  refine ny_throw (names := ["java/lang/RuntimeException", "java/lang/Exception"]) S.1 S.2.1 hfl S.2.2.2.1 hfit (by decide) (S.2.2.2.2 _ hk) (S.2.2.2.2 _ hini) hstr ?_ (hl.trans S.2.2.1.symm) d0 d3 d4 d6 d9 hno ?_ ?_ hR.2.2.1 hR.2.2.2 hlocks hx
  · refine ny_own hX.2.2.2.2.1 (fun w hw => ?_)
    rcases hat w hw with h | h
    · have h9 : w = .isRef (.static Bundle.tN "UNASSIGNED_STACK" Bundle.steD) ∨ w = .isRef (.static Bundle.tN "SUPPRESSED_SENTINEL" Bundle.listD) ∨ w = .laysStatic Bundle.tN "UNASSIGNED_STACK" Bundle.steD ∨ w = .laysStatic Bundle.tN "SUPPRESSED_SENTINEL" Bundle.listD ∨ w = .castable E E ∨ w = .declares (Bundle.initS "java/lang/RuntimeException") ∨ w = .declares (Bundle.initS "java/lang/Exception") ∨ w = .declares (Bundle.initS Bundle.tN) := by simpa [nmSp] using h
      rcases h9 with h | h | h | h | h | h | h | h
      · exact Or.inl h
      · exact Or.inr (Or.inl h)
      · exact Or.inr (Or.inr (Or.inl h))
      · exact Or.inr (Or.inr (Or.inr (Or.inl h)))
      · exact Or.inr (Or.inr (Or.inr (Or.inr (by rw [h]; exact va_Nw.use rfl (hX.2.2.1 E hE)))))
      · exact Or.inr (Or.inr (Or.inr (Or.inr (by rw [h]; exact va_Nw.use rfl (hX.2.2.2.2.2 _ (List.mem_cons_self))))))
      · exact Or.inr (Or.inr (Or.inr (Or.inr (by rw [h]; exact va_Nw.use rfl (hX.2.2.2.2.2 _ (List.mem_cons_of_mem _ List.mem_cons_self))))))
      · exact Or.inr (Or.inr (Or.inr (Or.inr (by rw [h]; exact va_Nw.use rfl (hX.2.2.2.2.2 _ (List.mem_cons_of_mem _ (List.mem_cons_of_mem _ List.mem_cons_self)))))))
    · exact Or.inr (Or.inr (Or.inr (Or.inr (S.2.2.2.2 w h))))
  · exact hR.1
  · have h9 : (["java/lang/RuntimeException", "java/lang/Exception"] : List String).length = 2 := rfl
    rw [h9]
    omega
end Nm
/-! ===== calls of methods that may throw or write in the class's world ===== -/
section Nxm
variable {p : Program} {l : Launch} {e : Env} {R : Room} {s : State} {m : MethodId} {args : Array Value} {below : List Frame} {meth : Method} {c : Code}
variable {own C : String} {i : Nat} {y : MethodName} {b cc : ByteArray} {mL nL n pc : Nat} {r : Option FieldType} {rm : Room} {As rest st0 : List Value} {ls : Array Slot} {Pre : State → Prop}
variable {exc : String → Prop} {rt : Option Value → State → State → Prop} {ex : String → Prop} {A : Nat → Prop}
theorem nx_outL {q : Addr} {st t : State} {H1 : Heap} {L : List Loc} (hno : ∀ x ∈ c.exceptionTable.toList, ∀ pc, covers x pc = false) (hlocks : meth.locks = false) (h0 : st.heap = s.heap) (hw : s.WarmedH st.vm) (ht : t.heap = H1) (hL : ∀ z ∈ L, A z.base) (hq : ∃ E : String, exc E ∧ ny_Thr E st q t) (hE : ∀ E, exc E → ex E) :
    ny_W p l e R s m args below meth c H1 L 1 6 (ny_MQ below (nxQ rt ex) args s 0 0 1 6 A) (F0 m pc ls rest) q := by
  obtain ⟨E, h1, h2⟩ := hq
  refine ny_out (fun x hx => hno x hx _) hlocks (fun t9 ht9 hW9 => ⟨E, hE E h1, ?_⟩) hL (Nat.le_refl _) (Nat.le_refl _)
  obtain ⟨ce, g1, g2, g3, g4, g5⟩ := h2.up h0 hw
  have e9 : t9.heap = t.heap := by rw [ht9, ht]
  exact ⟨ce, by rw [e9]; exact g1, g2, g3, by rw [e9]; exact g4, fun z hz => by rw [e9]; exact g5 z hz⟩
/-- a void method that may throw, or else writes within A -/
theorem nx_mv {B : Heap → Prop} {K : Prop} {o : Nat} (S : CallFix p m c cc nL s args nzG own) (hM : ny_Met l y (Cond.code y b mL r :: nzG) rm (va_Pc (.ref o :: As) Pre) (nxQ (fun v st t => v = none ∧ K ∧ B t.heap ∧ va_F A st t) exc) 0 0 1 6 A) (hw : nzV own i C y b mL r n) (hR : nzR rm R mL 1 6) (hc : 1 ≤ R.cells ∧ 6 ≤ R.slots)
    (hbl : ∀ (a : Array Value) (U : State) (g : JFrame) (mk : MethodId), Pre U → Pre (U.calling g mk a)) (hob : ∃ cellB : Cell, s.heap[o]? = some cellB ∧ cellB.vm.isStatics = false ∧ s.vm.findClass C = some cellB.cls) (hpre : ∀ U : State, U.heap = s.heap → s.WarmedH U.vm → Pre U)
    (hn : As.length = n) (hsz : ls.size = nL) (hst : st0 = As.reverse ++ .ref o :: rest) (hW : (rest.map fun v => v.category).sum ≤ 8) (hdg : decode cc pc = .ok (.invokevirtual i, 3))
    (hno : ∀ x ∈ c.exceptionTable.toList, ∀ pc, covers x pc = false) (hlocks : meth.locks = false) (hE : ∀ E, exc E → ex E)
    (kk : ∀ (H1 : Heap) (locs1 : List Loc), K → B H1 → va_S A s.heap H1 locs1 → W p l e R s m args below meth c H1 locs1 0 0 (ny_MQ below (nxQ rt ex) args s 0 0 1 6 A) (F0 m (pc + 3) ls rest)) : W p l e R s m args below meth c s.heap [] 0 0 (ny_MQ below (nxQ rt ex) args s 0 0 1 6 A) (F0 m pc ls st0) := by
  refine ny_call (ny_runV S hM (hw.cb S.2.2.2.2 hR.1 hR.2.1 hR.2.2) ⟨fun a U g mk q => ⟨q.1, hbl a U g mk q.2⟩, hob, fun U hU hW => ⟨rfl, hpre U hU hW⟩⟩ rfl hn hsz hst (lv_room hW) hdg ⟨by omega, by omega⟩) ?_ ?_
  · intro v st₀ t H1 L h0 hw0 ht hwt hL hq
    obtain ⟨rfl, hk, hB, hF⟩ := hq
    rw [ht] at hB
    refine kk H1 ([] ++ L) hk hB ⟨?_, fun q h1 h2 => ?_, fun z hz => hL z (by simpa using hz)⟩
    · rw [← ht, ← h0]; exact hF.1
    · rw [← ht, ← h0]; exact hF.2 q (by rw [h0]; exact h1) h2
  · intro q st₀ t H1 L h0 hw0 ht hwt hL hq
    exact nx_outL hno hlocks h0 hw0 ht (fun z hz => hL z (by simpa using hz)) hq hE
end Nxm
section Nmb
variable {cA cW : ClassId} {T : Nat → Nat} {D : va_G} {p : Program} {l : Launch} {e : Env} {R : Room} {s : State} {m : MethodId} {args : Array Value} {below : List Frame} {meth : Method} {c : Code} {cells slots : Nat} {Q : State → Prop}
variable {cc : ByteArray} {nL pc : Nat} {ls : Array Slot} {rest : List Value} {own C : String} {i9 : Nat} {y : MethodName} {b : ByteArray} {mL n9 : Nat} {r : Option FieldType} {rm : Room} {As st0 : List Value}
/-- a method that doesn't throw and writes in the class's world, called before anything was written -/
theorem nm_callB {B : Heap → Prop} {w : va_W} {o : Nat} (S : CallFix p m c cc nL s args nzG own) (hM : Met l y (Cond.code y b mL r :: nzG) rm (va_Pc (.ref o :: As) (nmP D cA cW w)) (va_Qv (fun _ : Unit => True) (fun _ t => B t.heap) (nvA T)) 0 0 (nvA T)) (hw : nzV own i9 C y b mL r n9) (hR : nzR rm R mL 0 0) (hc : cells ≤ R.cells ∧ slots ≤ R.slots)
    (hob : ∃ cellB : Cell, s.heap[o]? = some cellB ∧ cellB.vm.isStatics = false ∧ s.vm.findClass C = some cellB.cls) (hP : va_P D vwCl w s.heap) (hK : va_K D vwCl (nvTy cA cW) s) (hX : nmX s)
    (hn : As.length = n9) (hsz : ls.size = nL) (hst : st0 = As.reverse ++ .ref o :: rest) (hW : (rest.map fun v => v.category).sum ≤ 8) (hdg : decode cc pc = .ok (.invokevirtual i9, 3))
    (kk : ∀ (H1 : Heap) (locs1 : List Loc), B H1 → va_S (nvA T) s.heap H1 locs1 → W p l e R s m args below meth c H1 locs1 cells slots Q (F0 m (pc + 3) ls rest)) : W p l e R s m args below meth c s.heap [] cells slots Q (F0 m pc ls st0) := by
  refine va_callv (A0 := nvA T) (H0 := s.heap) (va_runV S hM (hw.cb S.2.2.2.2 hR.1 hR.2.1 hR.2.2) ⟨fun a U g mk q => ⟨q.1, nmP.bl a U g mk q.2⟩, hob, fun U hU hW => ⟨rfl, nmP.to hP hK hX U hU hW⟩⟩ rfl hn hsz hst (lv_room hW) hdg hc) va_S.rf (fun q _ h => h) (fun q h => h) ?_
  intro u t H1 locs1 ht hvm hw9 hB hz hk hS1
  rw [ht] at hB
  exact kk H1 locs1 hB hS1
end Nmb
