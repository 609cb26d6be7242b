/-! ===== the reference's numbers and operate ===== -/
section Mn
/-- where the reference's reckoning ends: K = 0: out holds N elements F -/
def moN (D : va_G) (cA : ClassId) (T C L : Nat → Nat) (K N : Nat) (F : Nat → Nat) (t : State) : Prop :=
  ∃ (O' : Nat → Nat) (c' : Nat), (K = 0 → c' = N ∧ ∀ k, k < N → O' k = F k) ∧ (∀ j, O' j < 9) ∧ va_P D vwCl (moW cA T (nI K) C L O' c') t.heap
theorem lz64 (z : Int64) : lg_cmp z 0 = 0 ↔ z = 0 := by
  obtain ⟨k, hk, rfl⟩ := wb_of z
  rw [lcmp_z hk]
  exact ⟨fun h => by rw [h]; rfl, fun h => Classical.byContradiction fun q => lN_n0 hk q h⟩
/-- the length that operate reckons with -/
def zNl (o p q : Nat) : Nat := if o < 7 then p else if o = 13 then p + q else zLen o p q
theorem zNl_le (o : Nat) {p q : Nat} (hp : p ≤ 64) (hq : q ≤ 64) : zNl o p q ≤ 128 := by
  unfold zNl
  split
  · omega
  · split
    · omega
    · exact zLen_le o hp hq
theorem zArith_lt {o b1 p q : Nat} (ho : 10 ≤ o) (hp : p < 2 ^ 64) (hq : 0 < q) (hq2 : q < 2 ^ 64) : zArith o b1 p q < 2 ^ 64 := by
  rw [zArith, if_neg (by omega)]
  exact zDiv_lt hp hq hq2
variable {D : va_G} {cA : ClassId} {T : Nat → Nat} {p : Program} {l : Launch} {e : Env} {R : Room} {s : State} {m : MethodId} {args : Array Value} {below : List Frame} {meth : Method} {c : Code} {H : Heap} {locs : List Loc} {cells slots : Nat} {Q : State → Prop} {cc : ByteArray} {nL pc : Nat} {ls : Array Slot} {rest : List Value}
/-- .. a void method of which B tells the end -/
theorem mo_callB {B : Heap → Prop} {w : va_W} {o : Nat} {own C9 : String} {i9 : Nat} {y : MethodName} {b : ByteArray} {mL n9 : Nat} {r : Option FieldType} {rm : Room} {As st0 : List Value} (S : CallFix p m c cc nL s args nzG own) (hM : Met l y (Cond.code y b mL r :: nzG) rm (va_Pc (.ref o :: As) (moP D cA w)) (va_Qv (fun _ : Unit => True) (fun _ t => B t.heap) (moA T)) 0 0 (moA T)) (hw : nzV own i9 C9 y b mL r n9) (hR : nzR rm R mL 0 0) (hc : cells ≤ R.cells ∧ slots ≤ R.slots)
    (hob : ∃ cellB : Cell, H[o]? = some cellB ∧ cellB.vm.isStatics = false ∧ s.vm.findClass C9 = some cellB.cls) (hP : va_P D vwCl w H) (hK : va_K D vwCl (moTy cA) s) (hS : va_S (moA T) s.heap H locs)
    (hn : As.length = n9) (hsz : ls.size = nL) (hst : st0 = As.reverse ++ .ref o :: rest) (hW : (rest.map fun v => v.category).sum ≤ 8) (hdg : decode cc pc = .ok (.invokevirtual i9, 3))
    (kk : ∀ (H1 : Heap) (locs1 : List Loc), B H1 → va_S (moA T) s.heap H1 locs1 → W p l e R s m args below meth c H1 locs1 cells slots Q (F0 m (pc + 3) ls rest)) : W p l e R s m args below meth c H locs cells slots Q (F0 m pc ls st0) := by
  refine va_callv (va_runV S hM (hw.cb S.2.2.2.2 hR.1 hR.2.1 hR.2.2) ⟨fun a U g mk q => ⟨q.1, moP.bl a U g mk q.2⟩, hob, fun U hU hW => ⟨rfl, moP.to hP hK U hU hW⟩⟩ rfl hn hsz hst (lv_room hW) hdg hc) hS (fun q _ h => h) (fun q h => h) ?_
  intro u t H1 locs1 ht hvm hw9 hB hz hk hS1
  rw [ht] at hB
  exact kk H1 locs1 hB hS1
end Mn
section Mn2
theorem kC_le (o b1 : Nat) (f : Nat → Nat) (N : Nat) (h : Nat → Nat) (N' : Nat) : kCalc o b1 f N h N' ≤ 3 := by
  unfold kCalc
  split
  · omega
  · split <;> omega
theorem kC_0 {o b1 : Nat} {f : Nat → Nat} {N : Nat} {h : Nat → Nat} {N' : Nat} (q : nI (kCalc o b1 f N h N') = 0) : kCalc o b1 f N h N' = 0 := (nI_eq (b := 0) (by have := kC_le o b1 f N h N'; omega) (by decide)).mp q
theorem fOp_13 {o b1 N N' : Nat} {f h : Nat → Nat} (h13 : o = 13) : fOp o b1 f N h N' = fun k => if k < N' then h k else f (k - N') := by
  unfold fOp
  rw [if_neg (by omega), if_pos h13]
theorem nCalc_le {o N N' : Nat} {f h : Nat → Nat} (hz : zLen o N N' ≤ 64) : nCalc o f N h N' ≤ 64 := by
  unfold nCalc
  split
  · exact hz
  · split
    · omega
    · exact hz
end Mn2
