/-! ===== the law: what it stands on, the rows of its calls ===== -/
section Lr
abbrev lwA (s : State) : Nat → Prop := fun q => s.heap.size ≤ q
/-- the three worlds of the law, apart from each other and from what was there before -/
def lwX (D : va_G) (cA cW cJ : ClassId) (T Tm : Nat → Nat) (bo : Nat) (s : State) : Prop :=
  (nvT T) ∧ (moT Tm) ∧ (∀ k, k < 36 → s.heap.size ≤ T k) ∧ (∀ q, moA Tm q → s.heap.size ≤ q) ∧ (s.heap.size ≤ bo) ∧ (∀ q, nvA T q → ¬ moA Tm q) ∧ (¬ nvA T bo) ∧ (¬ moA Tm bo) ∧ (va_K D vwCl (woTy cA cW cJ) s) ∧ (nmX s) ∧ (wrC s)
theorem lwX.hT {D : va_G} {cA cW cJ : ClassId} {T Tm : Nat → Nat} {bo : Nat} {s : State} (X : lwX D cA cW cJ T Tm bo s) : nvT T := X.1
theorem lwX.hM {D : va_G} {cA cW cJ : ClassId} {T Tm : Nat → Nat} {bo : Nat} {s : State} (X : lwX D cA cW cJ T Tm bo s) : moT Tm := X.2.1
theorem lwX.tT {D : va_G} {cA cW cJ : ClassId} {T Tm : Nat → Nat} {bo : Nat} {s : State} (X : lwX D cA cW cJ T Tm bo s) : ∀ k, k < 36 → s.heap.size ≤ T k := X.2.2.1
theorem lwX.tM {D : va_G} {cA cW cJ : ClassId} {T Tm : Nat → Nat} {bo : Nat} {s : State} (X : lwX D cA cW cJ T Tm bo s) : ∀ q, moA Tm q → s.heap.size ≤ q := X.2.2.2.1
theorem lwX.tB {D : va_G} {cA cW cJ : ClassId} {T Tm : Nat → Nat} {bo : Nat} {s : State} (X : lwX D cA cW cJ T Tm bo s) : s.heap.size ≤ bo := X.2.2.2.2.1
theorem lwX.dTM {D : va_G} {cA cW cJ : ClassId} {T Tm : Nat → Nat} {bo : Nat} {s : State} (X : lwX D cA cW cJ T Tm bo s) : ∀ q, nvA T q → ¬ moA Tm q := X.2.2.2.2.2.1
theorem lwX.dTB {D : va_G} {cA cW cJ : ClassId} {T Tm : Nat → Nat} {bo : Nat} {s : State} (X : lwX D cA cW cJ T Tm bo s) : ¬ nvA T bo := X.2.2.2.2.2.2.1
theorem lwX.dMB {D : va_G} {cA cW cJ : ClassId} {T Tm : Nat → Nat} {bo : Nat} {s : State} (X : lwX D cA cW cJ T Tm bo s) : ¬ moA Tm bo := X.2.2.2.2.2.2.2.1
theorem lwX.hK {D : va_G} {cA cW cJ : ClassId} {T Tm : Nat → Nat} {bo : Nat} {s : State} (X : lwX D cA cW cJ T Tm bo s) : va_K D vwCl (woTy cA cW cJ) s := X.2.2.2.2.2.2.2.2.1
theorem lwX.hX {D : va_G} {cA cW cJ : ClassId} {T Tm : Nat → Nat} {bo : Nat} {s : State} (X : lwX D cA cW cJ T Tm bo s) : nmX s := X.2.2.2.2.2.2.2.2.2.1
theorem lwX.hC {D : va_G} {cA cW cJ : ClassId} {T Tm : Nat → Nat} {bo : Nat} {s : State} (X : lwX D cA cW cJ T Tm bo s) : wrC s := X.2.2.2.2.2.2.2.2.2.2
def lwH (D : va_G) (cA cW cJ : ClassId) (T Tm : Nat → Nat) (bo : Nat) (n : Nat → Nat) (g : Nat → Nat → Nat) (C L O : Nat → Nat) (c0 : Nat) (k : Int32) (f : Nat → Int64) (H : Heap) : Prop :=
  va_P D vwCl (nvW cA cW T n g) H ∧ va_P D vwCl (woC cJ bo f) H ∧ va_P D vwCl (moW cA Tm k C L O c0) H
variable {D : va_G} {cA cW cJ : ClassId} {T Tm : Nat → Nat} {bo : Nat} {s : State} {n : Nat → Nat} {g : Nat → Nat → Nat} {C L O : Nat → Nat} {c0 : Nat} {k : Int32} {f : Nat → Int64} {H H1 : Heap}
theorem lwX.K1 (X : lwX D cA cW cJ T Tm bo s) : va_K D vwCl (nvTy cA cW) s := wo_K X.hK
theorem lwX.K2 (X : lwX D cA cW cJ T Tm bo s) : va_K D vwCl (moTy cA) s := X.hK.sub [0] rfl
theorem lwX.aT (X : lwX D cA cW cJ T Tm bo s) : ∀ q, nvA T q → lwA s q := fun q h => by
  obtain ⟨j, h1, rfl⟩ := h
  exact X.tT j h1
/-- a world that no written cell belongs to stays -/
theorem lw_keep {w : va_W} {A B : Nat → Prop} (hP : va_P D vwCl w H) (hD : va_D A w) (hAB : ∀ q, A q → ¬ B q) (hk : ∀ q : Nat, q < H.size → ¬ B q → H1[q]? = H[q]?) : va_P D vwCl w H1 :=
  hP.kept (fun j x hx => hk x.1 (hP j x hx).lt (hAB _ (hD.2 j x hx)))
theorem lwX.hc (X : lwX D cA cW cJ T Tm bo s) (hS : ∀ q : Nat, q < s.heap.size → H[q]? = s.heap[q]?) (U : State) (hU : U.heap = H) (hW : s.WarmedH U.vm) : nmX U ∧ wrC U :=
  ⟨X.hX.to hW (fun q hq => by rw [hU]; exact hS q hq), X.hC.to hW.alike⟩
variable {p : Program} {l : Launch} {e : Env} {R : Room} {m : MethodId} {args : Array Value} {below : List Frame} {meth : Method} {c : Code} {locs : List Loc} {cells slots : Nat} {Q : State → Prop}
variable {cc : ByteArray} {nL pc : Nat} {ls : Array Slot} {rest As st0 : List Value} {i n9 mL K to N : Nat} {y : MethodName} {b : ByteArray} {hh : List (Nat × Nat × Nat × Nat)} {rm : Room} {F : Nat → Nat}
theorem lw_old (hS : va_S (lwA s) s.heap H locs) : ∀ q : Nat, q < s.heap.size → H[q]? = s.heap[q]? := fun q hq => hS.2.1 q hq (fun h => by
  have : s.heap.size ≤ q := h
  omega)
/-- what a static call of a method that catches asks -/
theorem nzW.len {r : Option FieldType} (h : nzW RL i y b mL r hh n9) : ∀ sig, parseMethodDescriptor y.desc = some sig → n9 = sig.parameters.length := fun sig hs => by
  have h6 := h.2.2.2.2.2
  rw [hs] at h6
  exact (Option.some.inj h6).symm
/-- a wrapper that changes a place -/
theorem lw_w (X : lwX D cA cW cJ T Tm bo s) (S : CallFix p m c cc nL s args nzG RL)
    (hM : Met l y (Cond.codeWith y b mL (some .int) hh :: nzG) rm (va_Pc (.ref (T 0) :: As) (wrP D cA cW (nvW cA cW T n g))) (va_Qi (fun r (_ : Unit) => r = nI K) (fun _ t => (K = 0 ∧ (fun H9 : Heap => ∃ n9 g9, nvU 16 n g to N F n9 g9 ∧ va_P D vwCl (nvW cA cW T n9 g9) H9) t.heap) ∨ (¬ K = 0 ∧ va_P D vwCl (nvW cA cW T n g) t.heap)) (nvA T)) 1 6 (nvA T))
    (hw : nzW RL i y b mL (some .int) hh n9) (hR : nzR rm R mL 1 6) (hc : cells + 1 ≤ R.cells ∧ slots + 6 ≤ R.slots) (ok : nvOk n g) (hH : lwH D cA cW cJ T Tm bo n g C L O c0 k f H) (hS : va_S (lwA s) s.heap H locs)
    (hn : (.ref (T 0) :: As).length = n9) (hsz : ls.size = nL) (hst : st0 = (.ref (T 0) :: As).reverse ++ rest) (hW : (rest.map fun v => v.category).sum ≤ 8) (hdg : decode cc pc = .ok (.invokestatic i, 3))
    (kk : ∀ (n' : Nat → Nat) (g' : Nat → Nat → Nat) (H1 : Heap) (locs1 : List Loc), (K = 0 → nvU 16 n g to N F n' g') → (¬ K = 0 → n' = n ∧ g' = g) → nvOk n' g' → lwH D cA cW cJ T Tm bo n' g' C L O c0 k f H1 → va_S (lwA s) s.heap H1 locs1 → W p l e R s m args below meth c H1 locs1 (cells + 1) (slots + 6) Q (F0 m (pc + 3) ls (.int (nI K) :: rest))) : W p l e R s m args below meth c H locs cells slots Q (F0 m pc ls st0) := by
  have hPn := hH.1
  have hPo := hH.2.1
  have hPm := hH.2.2
  refine va_calli (ny_runSW (As := .ref (T 0) :: As) (rest := rest) S hM hR.1 hR.2.1 hR.2.2.1 hR.2.2.2 (nz_pay S.2.2.2.2 hw.2.2.2.1) (S.2.2.2.2 _ hw.2.2.2.1) (S.2.2.2.2 _ hw.2.2.1) hw.2.2.2.2.1 hw.len (S.2.2.2.2 _ hw.1) (S.2.2.2.2 _ hw.2.1)
    ⟨fun a U g mk q => ⟨q.1, wrP.bl a U g mk q.2⟩, fun U hU hW => ⟨rfl, ⟨by rw [hU]; exact hPn, va_K.moved hW.alike X.K1, (X.hc (lw_old hS) U hU hW).1⟩, (X.hc (lw_old hS) U hU hW).2⟩⟩ rfl hn hsz hst (lv_room hW) hdg hc) hS (fun q _ h => X.aT q h) X.aT ?_
  intro r u t H1 locs1 ht hvm hr hB hz hk hS1
  subst hr
  have h2 : va_P D vwCl (woC cJ bo f) H1 := lw_keep (A := fun q => q = bo) hPo (va_D1 rfl) (fun q h1 h2 => X.dTB (h1 ▸ h2)) hk
  have h3 : va_P D vwCl (moW cA Tm k C L O c0) H1 := lw_keep hPm (moD X.hM) (fun q h1 h2 => X.dTM q h2 h1) hk
  rcases hB with ⟨h0, n', g', hU, hP⟩ | ⟨h0, hP⟩
  · rw [ht] at hP
    exact kk n' g' H1 locs1 (fun _ => hU) (fun q => absurd h0 q) hU.2.2.2 ⟨hP, h2, h3⟩ hS1
  · rw [ht] at hP
    exact kk n g H1 locs1 (fun q => absurd q h0) (fun _ => ⟨rfl, rfl⟩) ok ⟨hP, h2, h3⟩ hS1
/-- a wrapper that hands out -/
theorem lw_o {V : Int64} (X : lwX D cA cW cJ T Tm bo s) (S : CallFix p m c cc nL s args nzG RL)
    (hM : Met l y (Cond.codeWith y b mL (some .int) hh :: nzG) rm (va_Pc (.ref (T 0) :: As) (woP D cA cW cJ (nvW cA cW T n g ++ woC cJ bo f))) (va_Qi (fun r (_ : Unit) => r = nI K) (fun _ t => ∃ f9 : Nat → Int64, (K = 0 → f9 0 = V) ∧ va_P D vwCl (nvW cA cW T n g ++ woC cJ bo f9) t.heap) (fun q => q = bo)) 1 6 (fun q => q = bo))
    (hw : nzW RL i y b mL (some .int) hh n9) (hR : nzR rm R mL 1 6) (hc : cells + 1 ≤ R.cells ∧ slots + 6 ≤ R.slots) (hH : lwH D cA cW cJ T Tm bo n g C L O c0 k f H) (hS : va_S (lwA s) s.heap H locs)
    (hn : (.ref (T 0) :: As).length = n9) (hsz : ls.size = nL) (hst : st0 = (.ref (T 0) :: As).reverse ++ rest) (hW : (rest.map fun v => v.category).sum ≤ 8) (hdg : decode cc pc = .ok (.invokestatic i, 3))
    (kk : ∀ (f' : Nat → Int64) (H1 : Heap) (locs1 : List Loc), (K = 0 → f' 0 = V) → lwH D cA cW cJ T Tm bo n g C L O c0 k f' H1 → va_S (lwA s) s.heap H1 locs1 → W p l e R s m args below meth c H1 locs1 (cells + 1) (slots + 6) Q (F0 m (pc + 3) ls (.int (nI K) :: rest))) : W p l e R s m args below meth c H locs cells slots Q (F0 m pc ls st0) := by
  have hPn := hH.1
  have hPo := hH.2.1
  have hPm := hH.2.2
  have hD : va_D (fun _ => True) (nvW cA cW T n g ++ woC cJ bo f) := va_D.app ((nvD X.hT).weaken (fun _ _ _ _ => trivial)) (va_D1 trivial) (fun i j x y hx hy hxy => by
    have h1 := (nvD (cA := cA) (cW := cW) (n := n) (g := g) X.hT).2 i x hx
    have h2 : y.1 = bo := (va_D1 (A := fun q => q = bo) (e := .inl (cJ, 1, .inr (.inl f))) rfl).2 j y hy
    rw [hxy, h2] at h1
    exact X.dTB h1)
  refine va_calli (ny_runSW (As := .ref (T 0) :: As) (rest := rest) S hM hR.1 hR.2.1 hR.2.2.1 hR.2.2.2 (nz_pay S.2.2.2.2 hw.2.2.2.1) (S.2.2.2.2 _ hw.2.2.2.1) (S.2.2.2.2 _ hw.2.2.1) hw.2.2.2.2.1 hw.len (S.2.2.2.2 _ hw.1) (S.2.2.2.2 _ hw.2.1)
    ⟨fun a U g mk q => ⟨q.1, woP.bl a U g mk q.2⟩, fun U hU hW => ⟨rfl, by rw [hU]; exact va_P.app hPn hPo, va_K.moved hW.alike X.hK, hD, X.hc (lw_old hS) U hU hW⟩⟩ rfl hn hsz hst (lv_room hW) hdg hc) hS (fun q _ h => by rw [h]; exact X.tB) (fun q h => by rw [h]; exact X.tB) ?_
  intro r u t H1 locs1 ht hvm hr hB hz hk hS1
  subst hr
  obtain ⟨f', h0, hP⟩ := hB
  rw [ht] at hP
  exact kk f' H1 locs1 h0 ⟨nw_P1 hP, nw_P2 hP, lw_keep (B := fun q => q = bo) hPm (moD X.hM) (fun q h1 (h2 : q = bo) => X.dMB (h2 ▸ h1)) hk⟩ hS1
/-- the reference's method that changes a place -/
theorem lw_m (X : lwX D cA cW cJ T Tm bo s) (S : CallFix p m c cc nL s args nzG RL)
    (hM : Met l y (Cond.code y b mL none :: nzG) rm (va_Pc (.ref (Tm 0) :: As) (moP D cA (moW cA Tm k C L O c0))) (va_Qv (fun _ : Unit => True) (fun _ t => moV D cA Tm C L K to N F t) (moA Tm)) 0 0 (moA Tm))
    (hw : nzV RL i RM y b mL none n9) (hR : nzR rm R mL 0 0) (hc : cells ≤ R.cells ∧ slots ≤ R.slots) (hH : lwH D cA cW cJ T Tm bo n g C L O c0 k f H) (hS : va_S (lwA s) s.heap H locs)
    (hn : As.length = n9) (hsz : ls.size = nL) (hst : st0 = As.reverse ++ .ref (Tm 0) :: rest) (hW : (rest.map fun v => v.category).sum ≤ 8) (hdg : decode cc pc = .ok (.invokevirtual i, 3))
    (kk : ∀ (C' L' O' : Nat → Nat) (c' : Nat) (H1 : Heap) (locs1 : List Loc), (K = 0 → moU C L to N F C' L') → (¬ K = 0 → C' = C ∧ L' = L) → moOk C' L' O' → lwH D cA cW cJ T Tm bo n g C' L' O' c' (nI K) f H1 → va_S (lwA s) s.heap H1 locs1 → W p l e R s m args below meth c H1 locs1 cells slots Q (F0 m (pc + 3) ls rest)) : W p l e R s m args below meth c H locs cells slots Q (F0 m pc ls st0) := by
  have hPn := hH.1
  have hPo := hH.2.1
  have hPm := hH.2.2
  refine va_callv (va_runV S hM (hw.cb S.2.2.2.2 hR.1 hR.2.1 hR.2.2) ⟨fun a U g mk q => ⟨q.1, moP.bl a U g mk q.2⟩, mo_ob X.K2 hPm, fun U hU hW => ⟨rfl, moP.to hPm X.K2 U hU hW⟩⟩ rfl hn hsz hst (lv_room hW) hdg hc) hS (fun q _ h => X.tM q h) X.tM ?_
  intro u t H1 locs1 ht hvm hw9 hB hz hk hS1
  obtain ⟨C', L', O', c', h1, h2, h3, h4⟩ := hB
  rw [ht] at h4
  exact kk C' L' O' c' H1 locs1 h1 h2 h3 ⟨lw_keep hPn (nvD X.hT) (fun q h1 h2 => X.dTM q h1 h2) hk, lw_keep (A := fun q => q = bo) hPo (va_D1 rfl) (fun q h1 h2 => X.dMB (h1 ▸ h2)) hk, h4⟩ hS1
/-- the reference's method that answers an int -/
theorem lw_ri {V : Int32} {rt : Option FieldType} (X : lwX D cA cW cJ T Tm bo s) (S : CallFix p m c cc nL s args nzG RL)
    (hM : Met l y (Cond.code y b mL rt :: nzG) rm (va_Pc (.ref (Tm 0) :: As) (moP D cA (moW cA Tm k C L O c0))) (va_Qi (fun r (_ : Unit) => K = 0 → r = V) (fun _ t => moB D cA Tm C L O c0 K t) (moA Tm)) 0 0 (moA Tm))
    (hw : nzV RL i RM y b mL rt n9) (hR : nzR rm R mL 0 0) (hc : cells ≤ R.cells ∧ slots ≤ R.slots) (hH : lwH D cA cW cJ T Tm bo n g C L O c0 k f H) (hS : va_S (lwA s) s.heap H locs)
    (hn : As.length = n9) (hsz : ls.size = nL) (hst : st0 = As.reverse ++ .ref (Tm 0) :: rest) (hW : (rest.map fun v => v.category).sum ≤ 8) (hdg : decode cc pc = .ok (.invokevirtual i, 3))
    (kk : ∀ (r : Int32) (H1 : Heap) (locs1 : List Loc), (K = 0 → r = V) → lwH D cA cW cJ T Tm bo n g C L O c0 (nI K) f H1 → va_S (lwA s) s.heap H1 locs1 → W p l e R s m args below meth c H1 locs1 cells slots Q (F0 m (pc + 3) ls (.int r :: rest))) : W p l e R s m args below meth c H locs cells slots Q (F0 m pc ls st0) := by
  have hPn := hH.1
  have hPo := hH.2.1
  have hPm := hH.2.2
  refine va_calli (va_runV S hM (hw.cb S.2.2.2.2 hR.1 hR.2.1 hR.2.2) ⟨fun a U g mk q => ⟨q.1, moP.bl a U g mk q.2⟩, mo_ob X.K2 hPm, fun U hU hW => ⟨rfl, moP.to hPm X.K2 U hU hW⟩⟩ rfl hn hsz hst (lv_room hW) hdg hc) hS (fun q _ h => X.tM q h) X.tM ?_
  intro r u t H1 locs1 ht hvm hr hB hz hk hS1
  have h4 : va_P D vwCl (moW cA Tm (nI K) C L O c0) t.heap := hB
  rw [ht] at h4
  exact kk r H1 locs1 hr ⟨lw_keep hPn (nvD X.hT) (fun q h1 h2 => X.dTM q h1 h2) hk, lw_keep (A := fun q => q = bo) hPo (va_D1 rfl) (fun q h1 h2 => X.dMB (h1 ▸ h2)) hk, h4⟩ hS1
theorem lw_rl {V : Int64} {rt : Option FieldType} (X : lwX D cA cW cJ T Tm bo s) (S : CallFix p m c cc nL s args nzG RL)
    (hM : Met l y (Cond.code y b mL rt :: nzG) rm (va_Pc (.ref (Tm 0) :: As) (moP D cA (moW cA Tm k C L O c0))) (va_Ql (fun r (_ : Unit) => K = 0 → r = V) (fun _ t => moB D cA Tm C L O c0 K t) (moA Tm)) 0 0 (moA Tm))
    (hw : nzV RL i RM y b mL rt n9) (hR : nzR rm R mL 0 0) (hc : cells ≤ R.cells ∧ slots ≤ R.slots) (hH : lwH D cA cW cJ T Tm bo n g C L O c0 k f H) (hS : va_S (lwA s) s.heap H locs)
    (hn : As.length = n9) (hsz : ls.size = nL) (hst : st0 = As.reverse ++ .ref (Tm 0) :: rest) (hW : (rest.map fun v => v.category).sum ≤ 8) (hdg : decode cc pc = .ok (.invokevirtual i, 3))
    (kk : ∀ (r : Int64) (H1 : Heap) (locs1 : List Loc), (K = 0 → r = V) → lwH D cA cW cJ T Tm bo n g C L O c0 (nI K) f H1 → va_S (lwA s) s.heap H1 locs1 → W p l e R s m args below meth c H1 locs1 cells slots Q (F0 m (pc + 3) ls (.long r :: rest))) : W p l e R s m args below meth c H locs cells slots Q (F0 m pc ls st0) := by
  have hPn := hH.1
  have hPo := hH.2.1
  have hPm := hH.2.2
  refine va_calll (va_runV S hM (hw.cb S.2.2.2.2 hR.1 hR.2.1 hR.2.2) ⟨fun a U g mk q => ⟨q.1, moP.bl a U g mk q.2⟩, mo_ob X.K2 hPm, fun U hU hW => ⟨rfl, moP.to hPm X.K2 U hU hW⟩⟩ rfl hn hsz hst (lv_room hW) hdg hc) hS (fun q _ h => X.tM q h) X.tM ?_
  intro r u t H1 locs1 ht hvm hr hB hz hk hS1
  have h4 : va_P D vwCl (moW cA Tm (nI K) C L O c0) t.heap := hB
  rw [ht] at h4
  exact kk r H1 locs1 hr ⟨lw_keep hPn (nvD X.hT) (fun q h1 h2 => X.dTM q h1 h2) hk, lw_keep (A := fun q => q = bo) hPo (va_D1 rfl) (fun q h1 h2 => X.dMB (h1 ▸ h2)) hk, h4⟩ hS1
/-- the reference's code -/
theorem lw_t (X : lwX D cA cW cJ T Tm bo s) (S : CallFix p m c cc nL s args nzG RL) (hR : 1 ≤ R.frames ∧ 20 ≤ R.locals) (hc : cells ≤ R.cells ∧ slots ≤ R.slots) (hH : lwH D cA cW cJ T Tm bo n g C L O c0 k f H)
    (hsz : ls.size = nL) (hW : (rest.map fun v => v.category).sum ≤ 8) (hdg : decode cc pc = .ok (.invokevirtual 83, 3))
    (kk : W p l e R s m args below meth c H locs cells slots Q (F0 m (pc + 3) ls (.int k :: rest))) : W p l e R s m args below meth c H locs cells slots Q (F0 m pc ls (.ref (Tm 0) :: rest)) := by
  refine nz_vi (As := []) (rest := rest) S (c_Mo_thrown l D cA Tm X.hM k C L O c0) kL_83 ⟨rfl, rfl, hR.1, hR.2⟩ hc moP.bl (mo_ob X.K2 hH.2.2) (moP.to hH.2.2 X.K2) rfl hsz rfl hW hdg (fun r hr => ?_)
  rw [hr]
  exact kk
/-- an int of the script -/
theorem lw_sc {b9 i9 j9 LL : Nat} {xs : Nat → Int32} (hx : p.tables.exec = Jvm.exec) (hb : c.code = cc) (hXs : va_X b9 LL xs s s.heap) (hbl : b9 < s.heap.size) (hLL : LL ≤ 3072) (hS : va_S (lwA s) s.heap H locs) (hij : i9 + j9 < LL) (h0 : ls[0]? = some (.val (.ref b9))) (h4 : ls[4]? = some (.val (.int (nI i9))))
    (d0 : decode cc pc = .ok (.aload_n 0, 1)) (d1 : decode cc (pc + 1) = .ok (.iload 4, 2)) (d2 : decode cc (pc + 3) = .ok (.iconst j9, 1)) (d3 : decode cc (pc + 4) = .ok (.iadd, 1)) (d4 : decode cc (pc + 5) = .ok (.iaload, 1))
    (kk : W p l e R s m args below meth c H locs cells slots Q (F0 m (pc + 6) ls (.int (xs (i9 + j9)) :: rest))) : W p l e R s m args below meth c H locs cells slots Q (F0 m pc ls rest) := by
  refine lv_aload_n hx hb d0 rfl h0 ?_
  refine lv_iload hx hb d1 h4 ?_
  refine lv_iconst (v := nI j9) hx hb d2 rfl ?_
  refine lv_iadd hx hb d3 ?_
  refine nz_eqi (nI_add i9 j9) ?_
  refine va_sld hx hb hXs hbl (fun h => by have h1 : s.heap.size ≤ b9 := h; omega) hS (vp_in_nI hij (by omega)) d4 ?_
  rw [nI_clamp (by omega)]
  exact kk
/-- 'it is not 0' -/
def zB1 (v : Int32) : Nat := if v = 0 then 0 else 1
theorem zB1_lt (v : Int32) : zB1 v < 2 := by
  unfold zB1
  split <;> omega
theorem lw_b {v : Int32} (hx : p.tables.exec = Jvm.exec) (hb : c.code = cc) (d0 : decode cc pc = .ok (.ifCond .eq 7, 3)) (d1 : decode cc (pc + 3) = .ok (.iconst 1, 1)) (d2 : decode cc (pc + 4) = .ok (.goto 4, 3)) (d3 : decode cc (pc + 7) = .ok (.iconst 0, 1))
    (kk : W p l e R s m args below meth c H locs cells slots Q (F0 m (pc + 8) ls (.int (nI (zB1 v)) :: rest))) : W p l e R s m args below meth c H locs cells slots Q (F0 m pc ls (.int v :: rest)) := by
  refine lv_if_eq (tgt := pc + 7) hx hb d0 (by omega) (fun c1 => ?_) (fun c1 => ?_)
  · refine lv_iconst (v := 0) hx hb d3 rfl ?_
    rw [show zB1 v = 0 from if_pos c1] at kk
    exact kk
  · refine lv_iconst (v := 1) hx hb d1 rfl ?_
    refine lv_goto (tgt := pc + 8) hx hb d2 (by omega) ?_
    rw [show zB1 v = 1 from if_neg c1] at kk
    exact kk
end Lr
