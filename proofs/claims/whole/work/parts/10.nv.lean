/-! ===== the class's world: the object, its array of places, sixteen words and the answer (17 words), their arrays ===== -/
section Nv
/-- cell k: 0 the object, 1 the array of places, 2 + i word i, 19 + i its elements; word 16 is the answer -/
def nvE (cA cW : ClassId) (T : Nat → Nat) (n : Nat → Nat) (g : Nat → Nat → Nat) (k : Nat) : va_E :=
  if k = 0 then .inr (ciN, [.ref (T 1), .ref (T 18)]) else if k = 1 then .inl (cW, 16, .inr (.inr (.inr (.inr (fun j => some (T (2 + j)))))))
  else if k < 19 then .inr (ciW, [.int (nI (n (k - 2))), .ref (T (k + 17))]) else .inl (cA, 64, .inl (fun j => nI (g (k - 19) j)))
abbrev nvW (cA cW : ClassId) (T : Nat → Nat) (n : Nat → Nat) (g : Nat → Nat → Nat) : va_W := bw 36 T (nvE cA cW T n g)
/-- the addresses are apart -/
def nvT (T : Nat → Nat) : Prop := ∀ i j, i < 36 → j < 36 → T i = T j → i = j
def nvA (T : Nat → Nat) : Nat → Prop := fun q => ∃ k, k < 36 ∧ q = T k
abbrev nvTy (cA cW : ClassId) : List (ClassId × FieldType) := [(cA, .int), (cW, .object "NineValues$Word")]
variable {cA cW : ClassId} {T : Nat → Nat} {n : Nat → Nat} {g : Nat → Nat → Nat} {i : Nat}
theorem nvD (h : nvT T) : va_D (nvA T) (nvW cA cW T n g) := by
  refine ⟨fun i j p q hi hj e => ?_, fun k q hk => ?_⟩
  · obtain ⟨h1, rfl⟩ := bw_of hi
    obtain ⟨h2, rfl⟩ := bw_of hj
    exact h i j h1 h2 e
  · obtain ⟨h1, rfl⟩ := bw_of hk
    exact ⟨k, h1, rfl⟩
theorem nv_0 : (nvW cA cW T n g)[0]? = some (T 0, .inr (ciN, [.ref (T 1), .ref (T 18)])) := bw_get (by omega)
theorem nv_1 : (nvW cA cW T n g)[1]? = some (T 1, .inl (cW, 16, .inr (.inr (.inr (.inr (fun j => some (T (2 + j)))))))) := bw_get (by omega)
theorem nvE_w (hi : i < 17) : nvE cA cW T n g (2 + i) = .inr (ciW, [.int (nI (n i)), .ref (T (19 + i))]) := by
  unfold nvE
  rw [if_neg (by omega), if_neg (by omega), if_pos (by omega), show 2 + i - 2 = i by omega, show 2 + i + 17 = 19 + i by omega]
theorem nvE_a (hi : i < 17) : nvE cA cW T n g (19 + i) = .inl (cA, 64, .inl (fun j => nI (g i j))) := by
  unfold nvE
  rw [if_neg (by omega), if_neg (by omega), if_neg (by omega), show 19 + i - 19 = i by omega]
theorem nv_w (hi : i < 17) : (nvW cA cW T n g)[2 + i]? = some (T (2 + i), .inr (ciW, [.int (nI (n i)), .ref (T (19 + i))])) := by
  rw [bw_get (by omega), nvE_w hi]
theorem nv_a (hi : i < 17) : (nvW cA cW T n g)[19 + i]? = some (T (19 + i), .inl (cA, 64, .inl (fun j => nI (g i j)))) := by
  rw [bw_get (by omega), nvE_a hi]
theorem nv_setw (hi : i < 17) (N : Nat) : (nvW cA cW T n g).set (2 + i) (T (2 + i), .inr (ciW, [.int (nI N), .ref (T (19 + i))])) = nvW cA cW T (va_up n i N) g := by
  rw [bw_set (by omega)]
  refine bw_congr fun k hk => ?_
  by_cases e : k = 2 + i
  · subst e
    rw [va_up_self, nvE_w hi, va_up_self]
  · rw [va_up_ne _ _ e]
    unfold nvE
    by_cases k0 : k = 0
    · rw [if_pos k0, if_pos k0]
    · by_cases k1 : k = 1
      · rw [if_neg k0, if_neg k0, if_pos k1, if_pos k1]
      · by_cases k2 : k < 19
        · rw [if_neg k0, if_neg k0, if_neg k1, if_neg k1, if_pos k2, if_pos k2, va_up_ne _ _ (show k - 2 ≠ i by omega)]
        · rw [if_neg k0, if_neg k0, if_neg k1, if_neg k1, if_neg k2, if_neg k2]
theorem nv_seta (hi : i < 17) (f : Nat → Nat) : (nvW cA cW T n g).set (19 + i) (T (19 + i), .inl (cA, 64, .inl (fun j => nI (f j)))) = nvW cA cW T n (va_up g i f) := by
  rw [bw_set (by omega)]
  refine bw_congr fun k hk => ?_
  by_cases e : k = 19 + i
  · subst e
    rw [va_up_self, nvE_a hi, va_up_self]
  · rw [va_up_ne _ _ e]
    unfold nvE
    by_cases k0 : k = 0
    · rw [if_pos k0, if_pos k0]
    · by_cases k1 : k = 1
      · rw [if_neg k0, if_neg k0, if_pos k1, if_pos k1]
      · by_cases k2 : k < 19
        · rw [if_neg k0, if_neg k0, if_neg k1, if_neg k1, if_pos k2, if_pos k2]
        · rw [if_neg k0, if_neg k0, if_neg k1, if_neg k1, if_neg k2, if_neg k2, va_up_ne _ _ (show k - 19 ≠ i by omega)]
theorem nv_upd (f : Nat → Nat) (k v : Nat) : upd (fun j => nI (f j)) k (nI v) = fun j => nI (va_up f k v j) := by
  funext j
  unfold upd va_up
  by_cases h : j = k
  · rw [if_pos h, if_pos h]
  · rw [if_neg h, if_neg h]
/-- what a method of Word asks of the state -/
def nvP (D : va_G) (cA cW : ClassId) (w : va_W) (U : State) : Prop := va_P D vwCl w U.heap ∧ va_K D vwCl (nvTy cA cW) U
theorem nvP.bl {D : va_G} {w : va_W} : ∀ (a : Array Value) (U : State) (g : JFrame) (mk : MethodId), nvP D cA cW w U → nvP D cA cW w (U.calling g mk a) :=
  fun a U g mk q => ⟨q.1, va_K.moved (u := U) (U := U.calling g mk a) (Vm.Alike.refl U.vm) q.2⟩
theorem nvP.to {D : va_G} {w : va_W} {s : State} {H : Heap} (hP : va_P D vwCl w H) (hK : va_K D vwCl (nvTy cA cW) s) : ∀ U : State, U.heap = H → s.WarmedH U.vm → nvP D cA cW w U :=
  fun U hU hW => ⟨by rw [hU]; exact hP, va_K.moved hW.alike hK⟩
variable {D : va_G} {p : Program} {l : Launch} {e : Env} {R : Room} {s : State} {m : MethodId} {args : Array Value} {below : List Frame} {meth : Method} {c : Code} {H : Heap} {locs : List Loc} {cells slots : Nat} {Q : State → Prop}
variable {cc : ByteArray} {nL pc : Nat} {ls : Array Slot} {rest : List Value}
theorem nv_ob (hK : va_K D vwCl (nvTy cA cW) s) (hP : va_P D vwCl (nvW cA cW T n g) H) (hi : i < 17) : ∃ cellB : Cell, H[T (2 + i)]? = some cellB ∧ cellB.vm.isStatics = false ∧ s.vm.findClass RW = some cellB.cls := va_recv hK hP (ci := ciW) (q0 := 2 + i) rfl (nv_w hi)
theorem nv_ob0 (hK : va_K D vwCl (nvTy cA cW) s) (hP : va_P D vwCl (nvW cA cW T n g) H) : ∃ cellB : Cell, H[T 0]? = some cellB ∧ cellB.vm.isStatics = false ∧ s.vm.findClass RN = some cellB.cls := va_recv hK hP (ci := ciN) (q0 := 0) rfl nv_0
/-- this.size, this.elements in Word -/
theorem nv_getS (S : CallFix p m c cc nL s args nzG RW) (hK : va_K D vwCl (nvTy cA cW) s) (hP : va_P D vwCl (nvW cA cW T n g) H) (hi : i < 17) (hdg : decode cc pc = .ok (.getfield fW_size, 3))
    (kk : W p l e R s m args below meth c H locs cells slots Q (F0 m (pc + 3) ls (.int (nI (n i)) :: rest))) : W p l e R s m args below meth c H locs cells slots Q (F0 m pc ls (.ref (T (2 + i)) :: rest)) :=
  va_get (D := D) (ci := ciW) (v := .int (nI (n i))) (C := RW) (T := FW) (N := 2) S.1 S.2.1 S.2.2.2.2 in_W S.2.2.2.1 hK hP (2 + i) (nv_w hi) rfl 0 (by decide) (S.2.2.2.2 _ fl_W_size) (fun _ h9 => h9) rfl hdg kk
theorem nv_getE (S : CallFix p m c cc nL s args nzG RW) (hK : va_K D vwCl (nvTy cA cW) s) (hP : va_P D vwCl (nvW cA cW T n g) H) (hi : i < 17) (hdg : decode cc pc = .ok (.getfield fW_elements, 3))
    (kk : W p l e R s m args below meth c H locs cells slots Q (F0 m (pc + 3) ls (.ref (T (19 + i)) :: rest))) : W p l e R s m args below meth c H locs cells slots Q (F0 m pc ls (.ref (T (2 + i)) :: rest)) :=
  va_get (D := D) (ci := ciW) (v := .ref (T (19 + i))) (C := RW) (T := FW) (N := 2) S.1 S.2.1 S.2.2.2.2 in_W S.2.2.2.1 hK hP (2 + i) (nv_w hi) rfl 1 (by decide) (S.2.2.2.2 _ fl_W_elements) (fun _ h9 => h9) rfl hdg kk
theorem nv_putS {N : Nat} (S : CallFix p m c cc nL s args nzG RW) (hT : nvT T) (hK : va_K D vwCl (nvTy cA cW) s) (hP : va_P D vwCl (nvW cA cW T n g) H) (hS : va_S (nvA T) s.heap H locs) (hi : i < 17) (hdg : decode cc pc = .ok (.putfield fW_size, 3))
    (kk : ∀ (H1 : Heap) (locs1 : List Loc), va_P D vwCl (nvW cA cW T (va_up n i N) g) H1 → va_S (nvA T) s.heap H1 locs1 → W p l e R s m args below meth c H1 locs1 cells slots Q (F0 m (pc + 3) ls rest)) : W p l e R s m args below meth c H locs cells slots Q (F0 m pc ls (.int (nI N) :: .ref (T (2 + i)) :: rest)) :=
  va_put (D := D) (ci := ciW) (v := .int (nI N)) (ty := .int) (C := RW) (T := FW) (N := 2) S.1 S.2.1 S.2.2.2.2 in_W tyW tyW_ok nmW S.2.2.2.1 hK hP (nvD hT) hS (2 + i) (nv_w hi) rfl 0 (by decide) (S.2.2.2.2 _ fl_W_size) (fun _ h9 => h9) rfl (by decide +kernel) rfl rfl (Nat.le_of_ble_eq_true rfl) hdg
    (fun H1 locs1 h1 _ h3 => kk H1 locs1 (nv_setw hi N ▸ h1) h3)
/-- an element is read, an element is written -/
theorem nv_ald {k : Nat} (hx : p.tables.exec = Jvm.exec) (hb : c.code = cc) (hK : va_K D vwCl (nvTy cA cW) s) (hP : va_P D vwCl (nvW cA cW T n g) H) (hi : i < 17) (hk : k < 64) (hdg : decode cc pc = .ok (.iaload, 1))
    (kk : W p l e R s m args below meth c H locs cells slots Q (F0 m (pc + 1) ls (.int (nI (g i k)) :: rest))) : W p l e R s m args below meth c H locs cells slots Q (F0 m pc ls (.int (nI k) :: .ref (T (19 + i)) :: rest)) := by
  refine va_iald hx hb hK hP (19 + i) 0 (nv_a hi) rfl (vp_in_nI hk (by omega)) hdg ?_
  rw [nI_clamp (by omega)]
  exact kk
theorem nv_ast {k v : Nat} (hx : p.tables.exec = Jvm.exec) (hb : c.code = cc) (hT : nvT T) (hK : va_K D vwCl (nvTy cA cW) s) (hP : va_P D vwCl (nvW cA cW T n g) H) (hS : va_S (nvA T) s.heap H locs) (hi : i < 17) (hk : k < 64) (hdg : decode cc pc = .ok (.iastore, 1))
    (kk : ∀ (H1 : Heap) (locs1 : List Loc), va_P D vwCl (nvW cA cW T n (va_up g i (va_up (g i) k v))) H1 → va_S (nvA T) s.heap H1 locs1 → W p l e R s m args below meth c H1 locs1 cells slots Q (F0 m (pc + 1) ls rest)) : W p l e R s m args below meth c H locs cells slots Q (F0 m pc ls (.int (nI v) :: .int (nI k) :: .ref (T (19 + i)) :: rest)) := by
  refine va_iast hx hb hK hP (nvD hT) hS (19 + i) 0 (nv_a hi) rfl (vp_in_nI hk (by omega)) hdg ?_
  intro H1 locs1 h1 _ h3
  rw [nI_clamp (by omega), nv_upd, nv_seta hi] at h1
  exact kk H1 locs1 h1 h3
variable {own C : String} {i9 : Nat} {y : MethodName} {b : ByteArray} {mL n9 : Nat} {r : Option FieldType} {rm : Room} {As st0 : List Value}
/-- a call of a void method that writes in this world -/
theorem nv_call {w w' : va_W} {o : Nat} (S : CallFix p m c cc nL s args nzG own) (hM : Met l y (Cond.code y b mL r :: nzG) rm (va_Pc (.ref o :: As) (nvP D cA cW w)) (va_Qv (fun _ : Unit => True) (fun _ t => va_P D vwCl w' t.heap) (nvA T)) 0 0 (nvA T)) (hw : nzV own i9 C y b mL r n9) (hR : nzR rm R mL 0 0) (hc : cells ≤ R.cells ∧ slots ≤ R.slots)
    (hob : ∃ cellB : Cell, H[o]? = some cellB ∧ cellB.vm.isStatics = false ∧ s.vm.findClass C = some cellB.cls) (hP : va_P D vwCl w H) (hK : va_K D vwCl (nvTy cA cW) s) (hS : va_S (nvA T) s.heap H locs)
    (hn : As.length = n9) (hsz : ls.size = nL) (hst : st0 = As.reverse ++ .ref o :: rest) (hW : (rest.map fun v => v.category).sum ≤ 8) (hdg : decode cc pc = .ok (.invokevirtual i9, 3))
    (kk : ∀ (H1 : Heap) (locs1 : List Loc), va_P D vwCl w' H1 → va_S (nvA T) s.heap H1 locs1 → W p l e R s m args below meth c H1 locs1 cells slots Q (F0 m (pc + 3) ls rest)) : W p l e R s m args below meth c H locs cells slots Q (F0 m pc ls st0) := by
  refine va_callv (va_runV S hM (hw.cb S.2.2.2.2 hR.1 hR.2.1 hR.2.2) ⟨fun a U g mk q => ⟨q.1, nvP.bl a U g mk q.2⟩, hob, fun U hU hW => ⟨rfl, nvP.to hP hK U hU hW⟩⟩ rfl hn hsz hst (lv_room hW) hdg hc) hS (fun q _ h => h) (fun q h => h) ?_
  intro u t H1 locs1 ht hvm hw9 hB hz hk hS1
  rw [ht] at hB
  exact kk H1 locs1 hB hS1
theorem lay0 (f : Nat → Nat) : (fun x => f (0 + (x - 0))) = f := by
  funext x
  rw [Nat.sub_zero, Nat.zero_add]
end Nv
