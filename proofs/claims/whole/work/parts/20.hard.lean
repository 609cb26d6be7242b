/-! ===== Math.floorMod ===== -/
section Fm
theorem dJ_0 : decode bJ_floorMod 0 = .ok (.iload_n 0, 1) := by decide +kernel
theorem dJ_1 : decode bJ_floorMod 1 = .ok (.iload_n 1, 1) := by decide +kernel
theorem dJ_2 : decode bJ_floorMod 2 = .ok (.irem, 1) := by decide +kernel
theorem dJ_3 : decode bJ_floorMod 3 = .ok (.istore_n 2, 1) := by decide +kernel
theorem dJ_4 : decode bJ_floorMod 4 = .ok (.iload_n 0, 1) := by decide +kernel
theorem dJ_5 : decode bJ_floorMod 5 = .ok (.iload_n 1, 1) := by decide +kernel
theorem dJ_6 : decode bJ_floorMod 6 = .ok (.ixor, 1) := by decide +kernel
theorem dJ_7 : decode bJ_floorMod 7 = .ok (.ifCond .ge 11, 3) := by decide +kernel
theorem dJ_10 : decode bJ_floorMod 10 = .ok (.iload_n 2, 1) := by decide +kernel
theorem dJ_11 : decode bJ_floorMod 11 = .ok (.ifCond .eq 7, 3) := by decide +kernel
theorem dJ_14 : decode bJ_floorMod 14 = .ok (.iload_n 2, 1) := by decide +kernel
theorem dJ_15 : decode bJ_floorMod 15 = .ok (.iload_n 1, 1) := by decide +kernel
theorem dJ_16 : decode bJ_floorMod 16 = .ok (.iadd, 1) := by decide +kernel
theorem dJ_17 : decode bJ_floorMod 17 = .ok (.ireturn, 1) := by decide +kernel
theorem dJ_18 : decode bJ_floorMod 18 = .ok (.iload_n 2, 1) := by decide +kernel
theorem dJ_19 : decode bJ_floorMod 19 = .ok (.ireturn, 1) := by decide +kernel
theorem dJL_0 : decode bJ_floorModL 0 = .ok (.lload_n 0, 1) := by decide +kernel
theorem dJL_1 : decode bJ_floorModL 1 = .ok (.lload_n 2, 1) := by decide +kernel
theorem dJL_2 : decode bJ_floorModL 2 = .ok (.lrem, 1) := by decide +kernel
theorem dJL_3 : decode bJ_floorModL 3 = .ok (.lstore 4, 2) := by decide +kernel
theorem dJL_5 : decode bJ_floorModL 5 = .ok (.lload_n 0, 1) := by decide +kernel
theorem dJL_6 : decode bJ_floorModL 6 = .ok (.lload_n 2, 1) := by decide +kernel
theorem dJL_7 : decode bJ_floorModL 7 = .ok (.lxor, 1) := by decide +kernel
theorem dJL_8 : decode bJ_floorModL 8 = .ok (.lconst 0, 1) := by decide +kernel
theorem dJL_9 : decode bJ_floorModL 9 = .ok (.lcmp, 1) := by decide +kernel
theorem dJL_10 : decode bJ_floorModL 10 = .ok (.ifCond .ge 15, 3) := by decide +kernel
theorem dJL_13 : decode bJ_floorModL 13 = .ok (.lload 4, 2) := by decide +kernel
theorem dJL_15 : decode bJ_floorModL 15 = .ok (.lconst 0, 1) := by decide +kernel
theorem dJL_16 : decode bJ_floorModL 16 = .ok (.lcmp, 1) := by decide +kernel
theorem dJL_17 : decode bJ_floorModL 17 = .ok (.ifCond .eq 8, 3) := by decide +kernel
theorem dJL_20 : decode bJ_floorModL 20 = .ok (.lload 4, 2) := by decide +kernel
theorem dJL_22 : decode bJ_floorModL 22 = .ok (.lload_n 2, 1) := by decide +kernel
theorem dJL_23 : decode bJ_floorModL 23 = .ok (.ladd, 1) := by decide +kernel
theorem dJL_24 : decode bJ_floorModL 24 = .ok (.lreturn, 1) := by decide +kernel
theorem dJL_25 : decode bJ_floorModL 25 = .ok (.lload 4, 2) := by decide +kernel
theorem dJL_27 : decode bJ_floorModL 27 = .ok (.lreturn, 1) := by decide +kernel
theorem nz_ofF {l : Launch} {y : MethodName} {b : ByteArray} {mL mc ms : Nat} {r : Option FieldType} {rm : Room} {own : String} {Pc : Array Value → State → Prop} {Qc : Array Value → State → Outcome → State → Prop} {free : Addr → Prop} (hy : plainFor y = true) (ho : y.cls = own)
    (body : ∀ (p : Program) (e : Env) (s : State) (m : MethodId) (args : Array Value) (below : List Frame) (meth : Method) (c : Code), CallFix p m c b mL s args nzG own → meth.sig.returnType = r → meth.locks = false → meth.name = y.name → Pc args s →
      W p l e rm s m args below meth c s.heap [] 0 0 (MQ below Qc args s mc ms free) (entryFrame m args mL)) : Met l y (Cond.code y b mL r :: nzG) rm Pc Qc mc ms free := by
  refine va_MetF (cc := b) (maxL := mL) (ret := r) hy rfl ?_
  intro p e s m args below meth c s₁ B hml hP
  exact body p e s m args below meth c ⟨B.exec, B.bytes, hml, by rw [← ho]; exact findClass_of_methodNamed B.named, fun w h => atoms_spec B.pre w (List.mem_cons_of_mem _ h)⟩ B.returns B.notSynchronized (name_of_methodNamed B.named B.method).1 hP
theorem sg32 (z : Int32) : 0 ≤ z ↔ z.toBitVec.msb = false := by
  rw [Int32.le_iff_toInt_le, ← Int32.toInt_toBitVec z, BitVec.msb_eq_toInt]
  have h0 : (0 : Int32).toInt = 0 := rfl
  rw [h0]
  simp
theorem xr32 {r y : Int32} (hy : 0 ≤ y) : (0 ≤ r ^^^ y) ↔ 0 ≤ r := by
  rw [sg32, sg32, Int32.toBitVec_xor, BitVec.msb_xor, (sg32 y).mp hy]
  simp
theorem tm_em (a : Int) (N : Nat) : (a.tmod N) % (N : Int) = a % (N : Int) := by
  rw [Int.tmod_def]
  exact Int.sub_mul_emod_self_left a N (a.tdiv N)
theorem tm_pos {a : Int} {N : Nat} (h0 : 0 < N) (h : 0 ≤ a.tmod N) : a.tmod N = a % (N : Int) := by
  have h1 := (tmod_bounds (a := a) (M := N) (by omega)).2
  rw [← tm_em a N, Int.emod_eq_of_lt h h1]
theorem tm_neg {a : Int} {N : Nat} (h0 : 0 < N) (h : ¬ 0 ≤ a.tmod N) : a.tmod N + N = a % (N : Int) := by
  have h1 := (tmod_bounds (a := a) (M := N) (by omega)).1
  rw [← tm_em a N, ← Int.add_emod_right (a.tmod N) N, Int.emod_eq_of_lt (by omega) (by omega)]
theorem i32_of {r : Int32} {k : Nat} (hk : k < 2 ^ 31) (h : r.toInt = (k : Int)) : r = nI k := Int32.toInt_inj.mp (h.trans (nI_toInt hk).symm)
set_option maxHeartbeats 4000000 in
set_option maxRecDepth 100000 in
theorem cM_floorMod (l : Launch) (x : Int32) (N : Nat) (h0 : 0 < N) (hN : N ≤ 64) : Met l yJ_floorMod (Cond.code yJ_floorMod bJ_floorMod 3 (some .int) :: nzG) ({ frames := 0, cells := 0, slots := 0, locals := 0 }) (va_Pc [.int x, .int (nI N)] (fun _ => True)) (vp_Si (fun r => r = nI ((x.toInt % (N : Int)).toNat))) 0 0 (fun _ => False) := by
  refine nz_ofF (own := "java/lang/Math") (by decide +kernel) rfl ?_
  intro p e s m args below meth c S hr hlocks _ hv9
  obtain ⟨rfl, -⟩ := hv9
  have hx := S.1
  have hb := S.2.1
  have hNi : (nI N).toInt = (N : Int) := nI_toInt (by omega)
  have hr1 : (x - x / nI N * nI N).toInt = x.toInt.tmod N := by rw [rem_toInt, hNi]
  have hbd := tmod_bounds (a := x.toInt) (M := N) (by omega)
  have hem := Int.emod_nonneg x.toInt (show (N : Int) ≠ 0 by omega)
  have hel := Int.emod_lt_of_pos x.toInt (show (0 : Int) < N by omega)
  have hz : (0 : Int32).toInt = 0 := rfl
  refine nz_entry (vs := [.int x, .int (nI N)]) (n := 3) (lv := [(0, .int x), (1, .int (nI N))]) (Nat.le_of_ble_eq_true rfl) rfl (fun ls hl => ?_)
  refine lv_iload_n hx hb dJ_0 rfl (lv_at hl 0 rfl) ?_
  refine lv_iload_n hx hb dJ_1 rfl (lv_at hl 1 rfl) ?_
  refine lv_irem hx hb dJ_2 (nI_ne0 h0 (by omega)) ?_
  generalize x - x / nI N * nI N = r at hr1 ⊢
  refine lv_istore_n (lv' := [(2, .int r), (0, .int x), (1, .int (nI N))]) hx hb dJ_3 rfl hl (by decide) rfl (fun ls hl => ?_)
  refine lv_iload_n hx hb dJ_4 rfl (lv_at hl 1 rfl) ?_
  refine lv_iload_n hx hb dJ_5 rfl (lv_at hl 2 rfl) ?_
  refine lv_ixor hx hb dJ_6 ?_
  refine lv_if_ge (tgt := 18) hx hb dJ_7 (by decide) (fun c1 => ?_) (fun c1 => ?_)
  · have hp : 0 ≤ x := (xr32 (nI_pos' (by omega))).mp c1
    rw [Int32.le_iff_toInt_le, hz] at hp
    refine lv_iload_n hx hb dJ_18 rfl (lv_at hl 0 rfl) ?_
    refine W.iret (v := r) hx hb hr (fun t ht hW => ⟨_, rfl, ?_, ht⟩) (fun q h => nomatch h) dJ_19
    exact i32_of (by omega) (by rw [hr1, tm_pos h0 (Int.tmod_nonneg _ hp)]; omega)
  · refine lv_iload_n hx hb dJ_10 rfl (lv_at hl 0 rfl) ?_
    refine lv_if_eq (tgt := 18) hx hb dJ_11 (by decide) (fun c2 => ?_) (fun c2 => ?_)
    · refine lv_iload_n hx hb dJ_18 rfl (lv_at hl 0 rfl) ?_
      refine W.iret (v := r) hx hb hr (fun t ht hW => ⟨_, rfl, ?_, ht⟩) (fun q h => nomatch h) dJ_19
      have h4 : x.toInt.tmod N = 0 := by rw [← hr1, c2]; rfl
      exact i32_of (by omega) (by rw [hr1, tm_pos h0 (by omega)]; omega)
    · have hn : ¬ 0 ≤ x := fun q => c1 ((xr32 (nI_pos' (by omega))).mpr q)
      rw [Int32.le_iff_toInt_le, hz] at hn
      have h5 : ¬ x.toInt.tmod N = 0 := fun q => c2 (Int32.toInt_inj.mp (by rw [hr1, q]; rfl))
      have h6 : x.toInt.tmod N ≤ 0 := by
        have h7 := Int.tmod_nonneg (a := -x.toInt) N (by omega)
        rw [Int.neg_tmod] at h7
        omega
      refine lv_iload_n hx hb dJ_14 rfl (lv_at hl 0 rfl) ?_
      refine lv_iload_n hx hb dJ_15 rfl (lv_at hl 2 rfl) ?_
      refine lv_iadd hx hb dJ_16 ?_
      refine W.iret (v := r + nI N) hx hb hr (fun t ht hW => ⟨_, rfl, ?_, ht⟩) (fun q h => nomatch h) dJ_17
      refine i32_of (by omega) ?_
      have h3 := tm_neg (a := x.toInt) h0 (by omega)
      rw [Int32.toInt_add, hr1, hNi, h3, Int.bmod_eq_of_le (by omega) (by omega)]
      omega
set_option maxHeartbeats 4000000 in
set_option maxRecDepth 100000 in
theorem cM_floorModL (l : Launch) (P Q : Int64) (hq : ¬ Q = 0) : Met l yJ_floorModL (Cond.code yJ_floorModL bJ_floorModL 6 (some .long) :: nzG) ({ frames := 0, cells := 0, slots := 0, locals := 0 }) (va_Pc [.long P, .long Q] (fun _ => True)) (vp_Sl (fun r => r = sFm P Q)) 0 0 (fun _ => False) := by
  refine nz_ofF (own := "java/lang/Math") (by decide +kernel) rfl ?_
  intro p e s m args below meth c S hr hlocks _ hv9
  obtain ⟨rfl, -⟩ := hv9
  have hx := S.1
  have hb := S.2.1
  have hlt : ∀ z : Int64, (0 ≤ lg_cmp z 0) ↔ ¬ z < 0 := fun z => (lg_cmp_ge z 0).trans Int64.not_lt.symm
  have heq : ∀ z : Int64, lg_cmp z 0 = 0 ↔ z = 0 := fun z => by
    obtain ⟨k, hk, rfl⟩ := wb_of z
    rw [lcmp_z hk]
    exact ⟨fun h => by rw [h]; rfl, fun h => Classical.byContradiction fun q => lN_n0 hk q h⟩
  refine nz_entry (vs := [.long P, .long Q]) (n := 6) (lv := [(0, .long P), (2, .long Q)]) (Nat.le_of_ble_eq_true rfl) rfl (fun ls hl => ?_)
  refine lv_lload_n hx hb dJL_0 rfl (lv_at hl 0 rfl) ?_
  refine lv_lload_n hx hb dJL_1 rfl (lv_at hl 1 rfl) ?_
  refine lv_lrem hx hb dJL_2 hq ?_
  refine lv_lstore (lv' := [(4, .long (P - P / Q * Q)), (0, .long P), (2, .long Q)]) hx hb dJL_3 hl (by decide) rfl (fun ls hl => ?_)
  refine lv_lload_n hx hb dJL_5 rfl (lv_at hl 1 rfl) ?_
  refine lv_lload_n hx hb dJL_6 rfl (lv_at hl 2 rfl) ?_
  refine lv_lxor hx hb dJL_7 ?_
  refine lv_lconst (v := 0) hx hb dJL_8 (by decide) ?_
  refine W.lcmp hx hb dJL_9 ?_
  refine lv_if_ge (tgt := 25) hx hb dJL_10 (by decide) (fun c1 => ?_) (fun c1 => ?_)
  · refine lv_lload hx hb dJL_25 (lv_at hl 0 rfl) ?_
    refine W.lret (v := P - P / Q * Q) hx hb hr (fun t ht hW => ⟨_, rfl, ?_, ht⟩) (fun q h => nomatch h) dJL_27
    unfold sFm
    rw [if_neg (fun q => (hlt _).mp c1 q.1)]
  · refine lv_lload hx hb dJL_13 (lv_at hl 0 rfl) ?_
    refine lv_lconst (v := 0) hx hb dJL_15 (by decide) ?_
    refine W.lcmp hx hb dJL_16 ?_
    refine lv_if_eq (tgt := 25) hx hb dJL_17 (by decide) (fun c2 => ?_) (fun c2 => ?_)
    · refine lv_lload hx hb dJL_25 (lv_at hl 0 rfl) ?_
      refine W.lret (v := P - P / Q * Q) hx hb hr (fun t ht hW => ⟨_, rfl, ?_, ht⟩) (fun q h => nomatch h) dJL_27
      unfold sFm
      rw [if_neg (fun q => q.2 ((heq _).mp c2))]
    · refine lv_lload hx hb dJL_20 (lv_at hl 0 rfl) ?_
      refine lv_lload_n hx hb dJL_22 rfl (lv_at hl 2 rfl) ?_
      refine lv_ladd hx hb dJL_23 ?_
      refine W.lret (v := P - P / Q * Q + Q) hx hb hr (fun t ht hW => ⟨_, rfl, ?_, ht⟩) (fun q h => nomatch h) dJL_24
      unfold sFm
      rw [if_pos ⟨Int64.not_le.mp (fun q => c1 ((lg_cmp_ge _ _).mpr q)), fun q => c2 ((heq _).mpr q)⟩]
end Fm
set_option maxHeartbeats 4000000 in
set_option maxRecDepth 100000 in
theorem lpN_join {p : Program} {e : Env} {s : State} {m : MethodId} {args : Array Value} {below : List Frame} {meth : Method} {c : Code} {Q : State → Prop} (l : Launch) (D : va_G) (cA cW : ClassId) (T : Nat → Nat) (hT : nvT T) (n1 : Nat → Nat) (g : Nat → Nat → Nat) (hg : ∀ j k, g j k < 9) (o : Nat) (ho : o < 7) (a : Nat) (ha : a < 16) (d : Nat) (hd : d < 16) (hna : n1 a ≤ 64) (S : CallFix p m c bN_joinElements 5 s args nzG RN) (hX : nmX s) (hK : va_K D vwCl (nvTy cA cW) s) (kk : ∀ (H : Heap) (locs : List Loc) (ls : Array Slot), va_P D vwCl (nvW cA cW T n1 (va_up g 16 (pov (fun k => zJoin o (g a k) (g d k)) (g 16) 0 (n1 a)))) H → va_S (nvA T) s.heap H locs → W p l e ({ frames := 6, cells := 1, slots := 6, locals := 90 }) s m args below meth c H locs 0 0 Q (F0 m 78 ls [])) : ∀ (fuel k : Nat), k ≤ n1 a → n1 a < k + fuel → ∀ (H : Heap) (locs : List Loc), va_P D vwCl (nvW cA cW T n1 (va_up g 16 (pov (fun k => zJoin o (g a k) (g d k)) (g 16) 0 k))) H → va_S (nvA T) s.heap H locs → ∀ (ls : Array Slot), lv_has ls 5 [(0, .ref (T 0)), (1, .int (nI o)), (2, .ref (T (2 + a))), (3, .ref (T (2 + d))), (4, .int (nI k))] → W p l e ({ frames := 6, cells := 1, slots := 6, locals := 90 }) s m args below meth c H locs 0 0 Q (F0 m 35 ls []) := by
  have hx := S.1
  have hb := S.2.1
  intro fuel
  induction fuel with
  | zero =>
    intro k hk hfu
    exact absurd hfu (by omega)
  | succ fuel ih =>
    intro k hk hfu H locs hP hS ls hl
    refine lv_iload hx hb dN_joinElements_35 (lv_at hl 4 rfl) ?_
    refine lv_aload_n hx hb dN_joinElements_37 rfl (lv_at hl 2 rfl) ?_
    refine nm_getS S hX hK hP (Nat.lt_succ_of_lt ha) dN_joinElements_38 ?_
    refine lv_icmp_ge (tgt := 78) hx hb dN_joinElements_41 (by decide) (fun c1 => ?_) (fun c1 => ?_)
    · have mc1 : (n1 a) ≤ k := (nI_leI (a := (n1 a)) (b := k) (by omega) (by omega)).mp c1
      have ek9 : k = n1 a := by omega
      rw [ek9] at hP
      exact kk H locs ls hP hS
    · have mc1 : k < (n1 a) := Nat.lt_of_not_le (fun h => c1 ((nI_leI (a := (n1 a)) (b := k) (by omega) (by omega)).mpr h))
      refine lv_aload_n hx hb dN_joinElements_44 rfl (lv_at hl 0 rfl) ?_
      refine nm_getA S hK hP dN_joinElements_45 ?_
      refine nm_getE S hX hK hP (by decide) dN_joinElements_48 ?_
      refine lv_iload hx hb dN_joinElements_51 (lv_at hl 4 rfl) ?_
      refine lv_iload_n hx hb dN_joinElements_53 rfl (lv_at hl 1 rfl) ?_
      refine lv_aload_n hx hb dN_joinElements_54 rfl (lv_at hl 2 rfl) ?_
      refine nm_getE S hX hK hP (Nat.lt_succ_of_lt ha) dN_joinElements_55 ?_
      refine lv_iload hx hb dN_joinElements_58 (lv_at hl 4 rfl) ?_
      refine nv_ald (k := k) hx hb hK hP (Nat.lt_succ_of_lt ha) (by omega) dN_joinElements_60 ?_
      refine nz_eqi (y := nI (g a k)) (by rw [va_up_ne _ _ (by omega)]) ?_
      refine lv_aload_n hx hb dN_joinElements_61 rfl (lv_at hl 3 rfl) ?_
      refine nm_getE S hX hK hP (Nat.lt_succ_of_lt hd) dN_joinElements_62 ?_
      refine lv_iload hx hb dN_joinElements_65 (lv_at hl 4 rfl) ?_
      refine nv_ald (k := k) hx hb hK hP (Nat.lt_succ_of_lt hd) (by omega) dN_joinElements_67 ?_
      refine nz_eqi (y := nI (g d k)) (by rw [va_up_ne _ _ (by omega)]) ?_
      refine nz_si (As := [.int (nI o), .int (nI (g a k)), .int (nI (g d k))]) (rest := [.int (nI k), .ref (T (19 + 16))]) S (c_Wire_join l o ho (g a k) (hg a k) (g d k) (hg d k)) kN_156 ⟨rfl, rfl, Nat.le_of_ble_eq_true rfl, Nat.le_of_ble_eq_true rfl⟩ ⟨Nat.zero_le _, Nat.zero_le _⟩ (fun _ _ _ _ h => h) (fun _ _ _ => trivial) rfl hl.1 rfl (Nat.le_of_ble_eq_true rfl) dN_joinElements_68 (fun r2 er2 => ?_)
      subst er2
      refine nv_ast (k := k) (v := (fun k => zJoin o (g a k) (g d k)) k) hx hb hT hK hP hS (by decide) (by omega) dN_joinElements_71 (fun H locs hP hS => ?_)
      rw [nv_step g 16 (fun k => zJoin o (g a k) (g d k)) (g 16) k] at hP
      refine lv_iinc (v := nI (k + 1)) (lv' := [(4, .int (nI (k + 1))), (0, .ref (T 0)), (1, .int (nI o)), (2, .ref (T (2 + a))), (3, .ref (T (2 + d)))]) hx hb dN_joinElements_72 hl (k := 4) rfl (nI_1 k) (by decide) rfl (fun ls hl => ?_)
      refine lv_goto (tgt := 35) hx hb dN_joinElements_75 (by decide) ?_
      exact ih (k + 1) (by omega) (by omega) _ _ hP hS ls (lv_sub hl [1, 2, 3, 4, 0] rfl)
set_option maxHeartbeats 4000000 in
set_option maxRecDepth 100000 in
theorem cN_joinElements (l : Launch) (hfl : l.flags = pinnedFlags ++ [noTraceFlag]) (D : va_G) (cA cW : ClassId) (T : Nat → Nat) (hT : nvT T) (n : Nat → Nat) (g : Nat → Nat → Nat) (ok : nvOk n g) (o : Nat) (ho : o < 7) (a : Nat) (ha : a < 16) (d : Nat) (hd : d < 16) : ny_Met l yN_joinElements (Cond.code yN_joinElements bN_joinElements 5 none :: nzG) ({ frames := 6, cells := 1, slots := 6, locals := 90 }) (va_Pc [.ref (T 0), .int (nI o), .ref (T (2 + a)), .ref (T (2 + d))] (nmP D cA cW (nvW cA cW T n g))) (nxQ (fun v st t => v = none ∧ n a = n d ∧ (fun H9 : Heap => ∃ n9 g9, nvU 17 n g 16 (n a) (fun k => zJoin o (g a k) (g d k)) n9 g9 ∧ va_P D vwCl (nvW cA cW T n9 g9) H9) t.heap ∧ va_F (nvA T) st t) (fun E => ¬ n a = n d ∧ E = eIA)) 0 0 1 6 (nvA T) := by
  refine nz_ofT (own := RN) (by decide) rfl ?_
  intro p e s m args below meth c S hr hlocks hno hv9
  obtain ⟨rfl, hP, hK, hX⟩ := hv9
  have hob0 := nv_ob0 hK hP
  have hS : va_S (nvA T) s.heap s.heap [] := va_S.rf
  have hx := S.1
  have hb := S.2.1
  refine nz_entry (vs := [.ref (T 0), .int (nI o), .ref (T (2 + a)), .ref (T (2 + d))]) (n := 5) (lv := [(0, .ref (T 0)), (1, .int (nI o)), (2, .ref (T (2 + a))), (3, .ref (T (2 + d)))]) (Nat.le_of_ble_eq_true rfl) rfl (fun ls hl => ?_)
  have hna0 := ok.1 a
  have hnd0 := ok.1 d
  refine lv_aload_n hx hb dN_joinElements_0 rfl (lv_at hl 2 rfl) ?_
  refine nm_getS S hX hK hP (Nat.lt_succ_of_lt ha) dN_joinElements_1 ?_
  refine lv_aload_n hx hb dN_joinElements_4 rfl (lv_at hl 3 rfl) ?_
  refine nm_getS S hX hK hP (Nat.lt_succ_of_lt hd) dN_joinElements_5 ?_
  refine lv_icmp_eq (tgt := 21) hx hb dN_joinElements_8 (by decide) (fun c1 => ?_) (fun c1 => ?_)
  · have mc1 : (n a) = (n d) := (nI_eq (a := (n a)) (b := (n d)) (by omega) (by omega)).mp c1
    refine lv_aload_n hx hb dN_joinElements_21 rfl (lv_at hl 0 rfl) ?_
    refine nm_getA S hK hP dN_joinElements_22 ?_
    refine lv_aload_n hx hb dN_joinElements_25 rfl (lv_at hl 2 rfl) ?_
    refine nm_getS S hX hK hP (Nat.lt_succ_of_lt ha) dN_joinElements_26 ?_
    refine nm_putS (N := n a) S hX hT hK hP hS (by decide) dN_joinElements_29 (fun H locs hP hS => ?_)
    generalize hn1 : va_up n 16 (n a) = n1 at hP
    have e16 : n1 16 = n a := by rw [← hn1, va_up_self]
    have ea1 : n1 a = n a := by rw [← hn1, va_up_ne _ _ (by omega)]
    have hna := ok.1 a
    refine lv_iconst (v := 0) hx hb dN_joinElements_32 (by decide) ?_
    refine lv_istore (lv' := [(4, .int 0), (0, .ref (T 0)), (1, .int (nI o)), (2, .ref (T (2 + a))), (3, .ref (T (2 + d)))]) hx hb dN_joinElements_33 hl (by decide) rfl (fun ls hl => ?_)
    rw [show g = va_up g 16 (pov (fun k => zJoin o (g a k) (g d k)) (g 16) 0 0) by rw [pov_0, va_up_eta]] at hP
    refine lpN_join l D cA cW T hT n1 g ok.2 o ho a ha d hd (by omega) S hX hK (fun H locs ls hP hS => ?_) (n1 a + 1) 0 (by omega) (by omega) _ _ hP hS ls (lv_sub hl [1, 2, 3, 4, 0] rfl)
    refine ny_ret ?_
    refine W.vret hx hb hr (fun t ht hW => ⟨rfl, mc1, ⟨n1, _, ?_, by rw [ht]; exact hP⟩, hS.F ht⟩) hS.2.2 dN_joinElements_78
    rw [← hn1, va_up_ne _ _ (by omega)]
    exact nvU_lay ok hna (fun k _ => zJoin_lt7 o ho _ (ok.2 a k) _ (ok.2 d k))
  · have mc1 : ¬ (n a) = (n d) := fun h => c1 ((nI_eq (a := (n a)) (b := (n d)) (by omega) (by omega)).mpr h)
    exact nm_throw (E := eIA) (tx := "the words have not the same length") (ik := 64) (is := 154) (ic := 68) S hfl hX (by decide) (by decide +kernel) kcl_64 kin_eIA (by decide) kat_eIA hl.1 ⟨(Nat.le_of_ble_eq_true rfl), (Nat.le_of_ble_eq_true rfl), (Nat.le_of_ble_eq_true rfl), (Nat.le_of_ble_eq_true rfl)⟩ (Nat.le_of_ble_eq_true rfl) hlocks hno dN_joinElements_11 dN_joinElements_14 dN_joinElements_15 dN_joinElements_17 dN_joinElements_20 (fun t q hW h => ⟨eIA, ⟨mc1, rfl⟩, h⟩)
set_option maxHeartbeats 4000000 in
set_option maxRecDepth 100000 in
theorem lpN_change {p : Program} {e : Env} {s : State} {m : MethodId} {args : Array Value} {below : List Frame} {meth : Method} {c : Code} {Q : State → Prop} (l : Launch) (D : va_G) (cA cW : ClassId) (T : Nat → Nat) (hT : nvT T) (n1 : Nat → Nat) (g : Nat → Nat → Nat) (hg : ∀ j k, g j k < 9) (o : Nat) (ho5 : o < 5) (a : Nat) (ha : a < 16) (hna : n1 a ≤ 64) (S : CallFix p m c bN_changeElements 5 s args nzG RN) (hX : nmX s) (hK : va_K D vwCl (nvTy cA cW) s) (kk : ∀ (H : Heap) (locs : List Loc) (ls : Array Slot), va_P D vwCl (nvW cA cW T n1 (va_up g 16 (pov (fun k => if o = 4 then zNot (g a k) else zStrip o (g a k)) (g 16) 0 (n1 a)))) H → va_S (nvA T) s.heap H locs → W p l e ({ frames := 3, cells := 0, slots := 0, locals := 61 }) s m args below meth c H locs 0 0 Q (F0 m 63 ls [])) : ∀ (fuel k : Nat), k ≤ n1 a → n1 a < k + fuel → ∀ (H : Heap) (locs : List Loc), va_P D vwCl (nvW cA cW T n1 (va_up g 16 (pov (fun k => if o = 4 then zNot (g a k) else zStrip o (g a k)) (g 16) 0 k))) H → va_S (nvA T) s.heap H locs → ∀ (ls : Array Slot), lv_has ls 5 [(0, .ref (T 0)), (1, .int (nI o)), (2, .ref (T (2 + a))), (3, .int (nI k))] → W p l e ({ frames := 3, cells := 0, slots := 0, locals := 61 }) s m args below meth c H locs 0 0 Q (F0 m 13 ls []) := by
  have hx := S.1
  have hb := S.2.1
  intro fuel
  induction fuel with
  | zero =>
    intro k hk hfu
    exact absurd hfu (by omega)
  | succ fuel ih =>
    intro k hk hfu H locs hP hS ls hl
    refine lv_iload_n hx hb dN_changeElements_13 rfl (lv_at hl 3 rfl) ?_
    refine lv_aload_n hx hb dN_changeElements_14 rfl (lv_at hl 2 rfl) ?_
    refine nm_getS S hX hK hP (Nat.lt_succ_of_lt ha) dN_changeElements_15 ?_
    refine lv_icmp_ge (tgt := 63) hx hb dN_changeElements_18 (by decide) (fun c1 => ?_) (fun c1 => ?_)
    · have mc1 : (n1 a) ≤ k := (nI_leI (a := (n1 a)) (b := k) (by omega) (by omega)).mp c1
      have ek9 : k = n1 a := by omega
      rw [ek9] at hP
      exact kk H locs ls hP hS
    · have mc1 : k < (n1 a) := Nat.lt_of_not_le (fun h => c1 ((nI_leI (a := (n1 a)) (b := k) (by omega) (by omega)).mpr h))
      refine lv_aload_n hx hb dN_changeElements_21 rfl (lv_at hl 2 rfl) ?_
      refine nm_getE S hX hK hP (Nat.lt_succ_of_lt ha) dN_changeElements_22 ?_
      refine lv_iload_n hx hb dN_changeElements_25 rfl (lv_at hl 3 rfl) ?_
      refine nv_ald (k := k) hx hb hK hP (Nat.lt_succ_of_lt ha) (by omega) dN_changeElements_26 ?_
      refine nz_eqi (y := nI (g a k)) (by rw [va_up_ne _ _ (by omega)]) ?_
      refine lv_istore (lv' := [(4, .int (nI (g a k))), (0, .ref (T 0)), (1, .int (nI o)), (2, .ref (T (2 + a))), (3, .int (nI k))]) hx hb dN_changeElements_27 hl (by decide) rfl (fun ls hl => ?_)
      refine lv_aload_n hx hb dN_changeElements_29 rfl (lv_at hl 1 rfl) ?_
      refine nm_getA S hK hP dN_changeElements_30 ?_
      refine nm_getE S hX hK hP (by decide) dN_changeElements_33 ?_
      refine lv_iload_n hx hb dN_changeElements_36 rfl (lv_at hl 4 rfl) ?_
      refine lv_iload_n hx hb dN_changeElements_37 rfl (lv_at hl 2 rfl) ?_
      refine lv_iconst (v := 4) hx hb dN_changeElements_38 (by decide) ?_
      refine lv_icmp_ne (tgt := 50) hx hb dN_changeElements_39 (by decide) (fun c2 => ?_) (fun c2 => ?_)
      · have mc2 : ¬ o = 4 := fun h => c2 ((nI_eq (a := o) (b := 4) (by omega) (by omega)).mpr h)
        refine lv_iload_n hx hb dN_changeElements_50 rfl (lv_at hl 2 rfl) ?_
        refine lv_iload hx hb dN_changeElements_51 (lv_at hl 0 rfl) ?_
        refine nz_si (As := [.int (nI o), .int (nI (g a k))]) (rest := [.int (nI k), .ref (T (19 + 16))]) S (c_Wire_strip l o (show o < 4 by omega) (g a k) (hg a k)) kN_194 ⟨rfl, rfl, Nat.le_of_ble_eq_true rfl, Nat.le_of_ble_eq_true rfl⟩ ⟨Nat.zero_le _, Nat.zero_le _⟩ (fun _ _ _ _ h => h) (fun _ _ _ => trivial) rfl hl.1 rfl (Nat.le_of_ble_eq_true rfl) dN_changeElements_53 (fun r3 er3 => ?_)
        subst er3
        refine nz_eqi (y := nI ((fun k => if o = 4 then zNot (g a k) else zStrip o (g a k)) k)) (by show _ = nI (if o = 4 then zNot (g a k) else zStrip o (g a k)); rw [if_neg mc2]) ?_
        refine nv_ast (k := k) (v := (fun k => if o = 4 then zNot (g a k) else zStrip o (g a k)) k) hx hb hT hK hP hS (by decide) (by omega) dN_changeElements_56 (fun H locs hP hS => ?_)
        rw [nv_step g 16 (fun k => if o = 4 then zNot (g a k) else zStrip o (g a k)) (g 16) k] at hP
        refine lv_iinc (v := nI (k + 1)) (lv' := [(3, .int (nI (k + 1))), (4, .int (nI (g a k))), (0, .ref (T 0)), (1, .int (nI o)), (2, .ref (T (2 + a)))]) hx hb dN_changeElements_57 hl (k := 4) rfl (nI_1 k) (by decide) rfl (fun ls hl => ?_)
        refine lv_goto (tgt := 13) hx hb dN_changeElements_60 (by decide) ?_
        exact ih (k + 1) (by omega) (by omega) _ _ hP hS ls (lv_sub hl [2, 3, 4, 0] rfl)
      · have mc2 : o = 4 := (nI_eq (a := o) (b := 4) (by omega) (by omega)).mp c2
        refine lv_iload hx hb dN_changeElements_42 (lv_at hl 0 rfl) ?_
        refine nz_si (As := [.int (nI (g a k))]) (rest := [.int (nI k), .ref (T (19 + 16))]) S (c_Wire_not l (g a k) (hg a k)) kN_190 ⟨rfl, rfl, Nat.le_of_ble_eq_true rfl, Nat.le_of_ble_eq_true rfl⟩ ⟨Nat.zero_le _, Nat.zero_le _⟩ (fun _ _ _ _ h => h) (fun _ _ _ => trivial) rfl hl.1 rfl (Nat.le_of_ble_eq_true rfl) dN_changeElements_44 (fun r4 er4 => ?_)
        subst er4
        refine nz_eqi (y := nI ((fun k => if o = 4 then zNot (g a k) else zStrip o (g a k)) k)) (by show _ = nI (if o = 4 then zNot (g a k) else zStrip o (g a k)); rw [if_pos mc2]) ?_
        refine lv_goto (tgt := 56) hx hb dN_changeElements_47 (by decide) ?_
        refine nv_ast (k := k) (v := (fun k => if o = 4 then zNot (g a k) else zStrip o (g a k)) k) hx hb hT hK hP hS (by decide) (by omega) dN_changeElements_56 (fun H locs hP hS => ?_)
        rw [nv_step g 16 (fun k => if o = 4 then zNot (g a k) else zStrip o (g a k)) (g 16) k] at hP
        refine lv_iinc (v := nI (k + 1)) (lv' := [(3, .int (nI (k + 1))), (4, .int (nI (g a k))), (0, .ref (T 0)), (1, .int (nI o)), (2, .ref (T (2 + a)))]) hx hb dN_changeElements_57 hl (k := 4) rfl (nI_1 k) (by decide) rfl (fun ls hl => ?_)
        refine lv_goto (tgt := 13) hx hb dN_changeElements_60 (by decide) ?_
        exact ih (k + 1) (by omega) (by omega) _ _ hP hS ls (lv_sub hl [2, 3, 4, 0] rfl)
set_option maxHeartbeats 4000000 in
set_option maxRecDepth 100000 in
theorem cN_changeElements (l : Launch) (D : va_G) (cA cW : ClassId) (T : Nat → Nat) (hT : nvT T) (n : Nat → Nat) (g : Nat → Nat → Nat) (ok : nvOk n g) (o : Nat) (ho5 : o < 5) (a : Nat) (ha : a < 16) : Met l yN_changeElements (Cond.code yN_changeElements bN_changeElements 5 none :: nzG) ({ frames := 3, cells := 0, slots := 0, locals := 61 }) (va_Pc [.ref (T 0), .int (nI o), .ref (T (2 + a))] (nmP D cA cW (nvW cA cW T n g))) (va_Qv (fun _ : Unit => True) (fun _ t => (fun H9 : Heap => ∃ n9 g9, nvU 17 n g 16 (n a) (fChange o (g a) (n a)) n9 g9 ∧ va_P D vwCl (nvW cA cW T n9 g9) H9) t.heap) (nvA T)) 0 0 (nvA T) := by
  refine nz_of (own := RN) (by decide) rfl ?_
  intro p e s m args below meth c S hr hlocks _ hv9
  obtain ⟨rfl, hP, hK, hX⟩ := hv9
  have hob0 := nv_ob0 hK hP
  have hS : va_S (nvA T) s.heap s.heap [] := va_S.rf
  have hx := S.1
  have hb := S.2.1
  refine nz_entry (vs := [.ref (T 0), .int (nI o), .ref (T (2 + a))]) (n := 5) (lv := [(0, .ref (T 0)), (1, .int (nI o)), (2, .ref (T (2 + a)))]) (Nat.le_of_ble_eq_true rfl) rfl (fun ls hl => ?_)
  refine lv_aload_n hx hb dN_changeElements_0 rfl (lv_at hl 0 rfl) ?_
  refine nm_getA S hK hP dN_changeElements_1 ?_
  refine lv_aload_n hx hb dN_changeElements_4 rfl (lv_at hl 2 rfl) ?_
  refine nm_getS S hX hK hP (Nat.lt_succ_of_lt ha) dN_changeElements_5 ?_
  refine nm_putS (N := n a) S hX hT hK hP hS (by decide) dN_changeElements_8 (fun H locs hP hS => ?_)
  generalize hn1 : va_up n 16 (n a) = n1 at hP
  have e16 : n1 16 = n a := by rw [← hn1, va_up_self]
  have ea1 : n1 a = n a := by rw [← hn1, va_up_ne _ _ (by omega)]
  have hna := ok.1 a
  refine lv_iconst (v := 0) hx hb dN_changeElements_11 (by decide) ?_
  refine lv_istore_n (lv' := [(3, .int 0), (0, .ref (T 0)), (1, .int (nI o)), (2, .ref (T (2 + a)))]) hx hb dN_changeElements_12 rfl hl (by decide) rfl (fun ls hl => ?_)
  rw [show g = va_up g 16 (pov (fun k => if o = 4 then zNot (g a k) else zStrip o (g a k)) (g 16) 0 0) by rw [pov_0, va_up_eta]] at hP
  refine lpN_change l D cA cW T hT n1 g ok.2 o ho5 a ha (by omega) S hX hK (fun H locs ls hP hS => ?_) (n1 a + 1) 0 (by omega) (by omega) _ _ hP hS ls (lv_sub hl [1, 2, 3, 0] rfl)
  refine W.vret hx hb hr (fun t ht hW => ⟨⟨(), rfl, trivial, n1, _, ?_, by rw [ht]; exact hP⟩, hS.F ht⟩) hS.2.2 dN_changeElements_63
  rw [← hn1, va_up_ne _ _ (by omega)]
  refine nvU_eq (nvU_lay ok hna (fun k _ => ?_)) rfl (fun k _ => ?_)
  · show (if o = 4 then zNot (g a k) else zStrip o (g a k)) < 9
    split
    · exact zNot_lt _ (ok.2 a k)
    · exact zStrip_lt o (by omega) _ (ok.2 a k)
  · show (if o = 4 then zNot (g a k) else zStrip o (g a k)) = fChange o (g a) (n a) k
    unfold fChange
    by_cases h4 : o = 4
    · rw [if_pos h4, if_pos h4]
    · rw [if_neg h4, if_neg h4, if_pos (by omega)]
set_option maxHeartbeats 4000000 in
set_option maxRecDepth 100000 in
theorem cN_changeNumber (l : Launch) (D : va_G) (cA cW : ClassId) (T : Nat → Nat) (hT : nvT T) (n : Nat → Nat) (g : Nat → Nat → Nat) (ok : nvOk n g) (o : Nat) (ho5 : o = 5 ∨ o = 6) (a : Nat) (ha : a < 16) : Met l yN_changeNumber (Cond.code yN_changeNumber bN_changeNumber 5 none :: nzG) ({ frames := 3, cells := 0, slots := 0, locals := 61 }) (va_Pc [.ref (T 0), .int (nI o), .ref (T (2 + a))] (nmP D cA cW (nvW cA cW T n g))) (va_Qv (fun _ : Unit => True) (fun _ t => (fun H9 : Heap => ∃ n9 g9, nvU 17 n g 16 (n a) (fChange o (g a) (n a)) n9 g9 ∧ va_P D vwCl (nvW cA cW T n9 g9) H9) t.heap) (nvA T)) 0 0 (nvA T) := by
  refine nz_of (own := RN) (by decide) rfl ?_
  intro p e s m args below meth c S hr hlocks _ hv9
  obtain ⟨rfl, hP, hK, hX⟩ := hv9
  have hob0 := nv_ob0 hK hP
  have hS : va_S (nvA T) s.heap s.heap [] := va_S.rf
  have hx := S.1
  have hb := S.2.1
  refine nz_entry (vs := [.ref (T 0), .int (nI o), .ref (T (2 + a))]) (n := 5) (lv := [(0, .ref (T 0)), (1, .int (nI o)), (2, .ref (T (2 + a)))]) (Nat.le_of_ble_eq_true rfl) rfl (fun ls hl => ?_)
  have hna := ok.1 a
  have hP64 := zLong_lt 1 (g a) (ok.1 a)
  refine lv_aload_n hx hb dN_changeNumber_0 rfl (lv_at hl 2 rfl) ?_
  refine nz_vi (As := []) (rest := []) S (c_Word_isClear l D cA cW T hT n g a (Nat.lt_succ_of_lt ha) ok.2 (ok.1 a)) kN_49 ⟨rfl, rfl, Nat.le_of_ble_eq_true rfl, Nat.le_of_ble_eq_true rfl⟩ ⟨Nat.zero_le _, Nat.zero_le _⟩ nvP.bl (nv_ob hK hP (Nat.lt_succ_of_lt ha)) (nvP.to hP hK) rfl hl.1 rfl (Nat.le_of_ble_eq_true rfl) dN_changeNumber_1 (fun r1 er1 => ?_)
  subst er1
  refine lv_if_ne (tgt := 20) hx hb dN_changeNumber_4 (by decide) (fun c2 => ?_) (fun c2 => ?_)
  · refine lv_aload_n hx hb dN_changeNumber_20 rfl (lv_at hl 2 rfl) ?_
    refine lv_iconst (v := 1) hx hb dN_changeNumber_21 (by decide) ?_
    refine nz_vl (As := [.int 1]) (rest := []) S (c_Word_asLong l D cA cW T hT n g a (Nat.lt_succ_of_lt ha) ok.2 (ok.1 a) 1 (by decide)) kN_60 ⟨rfl, rfl, Nat.le_of_ble_eq_true rfl, Nat.le_of_ble_eq_true rfl⟩ ⟨Nat.zero_le _, Nat.zero_le _⟩ nvP.bl (nv_ob hK hP (Nat.lt_succ_of_lt ha)) (nvP.to hP hK) rfl hl.1 rfl (Nat.le_of_ble_eq_true rfl) dN_changeNumber_22 (fun r3 er3 => ?_)
    subst er3
    refine lv_lstore_n (lv' := [(3, .long (lN (zLong 1 (g a) (n a)))), (0, .ref (T 0)), (1, .int (nI o)), (2, .ref (T (2 + a)))]) hx hb dN_changeNumber_25 rfl hl (by decide) rfl (fun ls hl => ?_)
    refine lv_aload_n hx hb dN_changeNumber_26 rfl (lv_at hl 1 rfl) ?_
    refine nm_getA S hK hP dN_changeNumber_27 ?_
    refine lv_aload_n hx hb dN_changeNumber_30 rfl (lv_at hl 3 rfl) ?_
    refine nm_getS S hX hK hP (Nat.lt_succ_of_lt ha) dN_changeNumber_31 ?_
    refine lv_iload_n hx hb dN_changeNumber_34 rfl (lv_at hl 2 rfl) ?_
    refine lv_iconst (v := 5) hx hb dN_changeNumber_35 (by decide) ?_
    refine lv_icmp_eq (tgt := 45) hx hb dN_changeNumber_36 (by decide) (fun c4 => ?_) (fun c4 => ?_)
    · have mc4 : o = 5 := (nI_eq (a := o) (b := 5) (by omega) (by omega)).mp c4
      refine lv_lload_n hx hb dN_changeNumber_45 rfl (lv_at hl 0 rfl) ?_
      refine lv_lneg hx hb dN_changeNumber_46 ?_
      refine nz_eql (lN_neg hP64) ?_
      refine lv_goto (tgt := 51) hx hb dN_changeNumber_47 (by decide) ?_
      refine nv_call (As := [.int (nI (n a)), .long (lN (zNeg (zLong 1 (g a) (n a))))]) (rest := []) S (c_Word_hold l D cA cW T hT n g 16 (by decide) (n a) hna (zNeg (zLong 1 (g a) (n a))) (zNeg_lt _)) kN_45 ⟨rfl, rfl, Nat.le_of_ble_eq_true rfl, Nat.le_of_ble_eq_true rfl⟩ ⟨Nat.zero_le _, Nat.zero_le _⟩ (nv_ob hK hP (by decide)) hP hK hS rfl hl.1 rfl (Nat.le_of_ble_eq_true rfl) dN_changeNumber_51 (fun H locs hP hS => ?_)
      exact W.vret hx hb hr (fun t ht hW => ⟨⟨(), rfl, trivial, _, _, nvU_eq (nvU_lay ok hna (fun k _ => zPut_lt _ k)) rfl (fun k _ => by unfold fChange zSize; rw [if_neg (by omega), if_neg (by omega), if_pos (zAll_y c2), if_pos (Or.inl mc4)]), by rw [ht]; exact hP⟩, hS.F ht⟩) hS.2.2 dN_changeNumber_54
    · have mc4 : ¬ o = 5 := fun h => c4 ((nI_eq (a := o) (b := 5) (by omega) (by omega)).mpr h)
      refine lv_lload_n hx hb dN_changeNumber_39 rfl (lv_at hl 0 rfl) ?_
      refine lv_lconst (v := 0) hx hb dN_changeNumber_40 (by decide) ?_
      refine W.lcmp hx hb dN_changeNumber_41 ?_
      refine lv_if_ge (tgt := 50) hx hb dN_changeNumber_42 (by decide) (fun c5 => ?_) (fun c5 => ?_)
      · refine lv_lload_n hx hb dN_changeNumber_50 rfl (lv_at hl 0 rfl) ?_
        refine nv_call (As := [.int (nI (n a)), .long (lN (zLong 1 (g a) (n a)))]) (rest := []) S (c_Word_hold l D cA cW T hT n g 16 (by decide) (n a) hna (zLong 1 (g a) (n a)) hP64) kN_45 ⟨rfl, rfl, Nat.le_of_ble_eq_true rfl, Nat.le_of_ble_eq_true rfl⟩ ⟨Nat.zero_le _, Nat.zero_le _⟩ (nv_ob hK hP (by decide)) hP hK hS rfl hl.1 rfl (Nat.le_of_ble_eq_true rfl) dN_changeNumber_51 (fun H locs hP hS => ?_)
        exact W.vret hx hb hr (fun t ht hW => ⟨⟨(), rfl, trivial, _, _, nvU_eq (nvU_lay ok hna (fun k _ => zPut_lt _ k)) rfl (fun k _ => by unfold fChange zSize; rw [if_neg (by omega), if_neg (by omega), if_pos (zAll_y c2), if_neg (fun q => q.elim mc4 (fun q => absurd ((lN_lt0 hP64).mp c5) (by omega)))]), by rw [ht]; exact hP⟩, hS.F ht⟩) hS.2.2 dN_changeNumber_54
      · refine lv_lload_n hx hb dN_changeNumber_45 rfl (lv_at hl 0 rfl) ?_
        refine lv_lneg hx hb dN_changeNumber_46 ?_
        refine nz_eql (lN_neg hP64) ?_
        refine lv_goto (tgt := 51) hx hb dN_changeNumber_47 (by decide) ?_
        refine nv_call (As := [.int (nI (n a)), .long (lN (zNeg (zLong 1 (g a) (n a))))]) (rest := []) S (c_Word_hold l D cA cW T hT n g 16 (by decide) (n a) hna (zNeg (zLong 1 (g a) (n a))) (zNeg_lt _)) kN_45 ⟨rfl, rfl, Nat.le_of_ble_eq_true rfl, Nat.le_of_ble_eq_true rfl⟩ ⟨Nat.zero_le _, Nat.zero_le _⟩ (nv_ob hK hP (by decide)) hP hK hS rfl hl.1 rfl (Nat.le_of_ble_eq_true rfl) dN_changeNumber_51 (fun H locs hP hS => ?_)
        exact W.vret hx hb hr (fun t ht hW => ⟨⟨(), rfl, trivial, _, _, nvU_eq (nvU_lay ok hna (fun k _ => zPut_lt _ k)) rfl (fun k _ => by unfold fChange zSize; rw [if_neg (by omega), if_neg (by omega), if_pos (zAll_y c2), if_pos (Or.inr (Nat.le_of_not_lt (fun q => c5 ((lN_lt0 hP64).mpr q))))]), by rw [ht]; exact hP⟩, hS.F ht⟩) hS.2.2 dN_changeNumber_54
  · refine lv_aload_n hx hb dN_changeNumber_7 rfl (lv_at hl 0 rfl) ?_
    refine nm_getA S hK hP dN_changeNumber_8 ?_
    refine lv_aload_n hx hb dN_changeNumber_11 rfl (lv_at hl 2 rfl) ?_
    refine nm_getS S hX hK hP (Nat.lt_succ_of_lt ha) dN_changeNumber_12 ?_
    refine lv_iconst (v := 1) hx hb dN_changeNumber_15 (by decide) ?_
    refine nv_call (As := [.int (nI (n a)), .int 1]) (rest := []) S (c_Word_become l D cA cW T hT n g 16 (by decide) (n a) hna 1) kN_30 ⟨rfl, rfl, Nat.le_of_ble_eq_true rfl, Nat.le_of_ble_eq_true rfl⟩ ⟨Nat.zero_le _, Nat.zero_le _⟩ (nv_ob hK hP (by decide)) hP hK hS rfl hl.1 rfl (Nat.le_of_ble_eq_true rfl) dN_changeNumber_16 (fun H locs hP hS => ?_)
    exact W.vret hx hb hr (fun t ht hW => ⟨⟨(), rfl, trivial, _, _, nvU_eq (nvU_lay (F := fun _ => 1) ok hna (fun _ _ => (by decide : (1 : Nat) < 9))) rfl (fun k _ => by unfold fChange; rw [if_neg (by omega), if_neg (by omega), if_neg (zAll_n c2)]), by rw [ht]; exact hP⟩, hS.F ht⟩) hS.2.2 dN_changeNumber_19
set_option maxHeartbeats 4000000 in
set_option maxRecDepth 100000 in
theorem cN_setBehind (l : Launch) (hfl : l.flags = pinnedFlags ++ [noTraceFlag]) (D : va_G) (cA cW : ClassId) (T : Nat → Nat) (hT : nvT T) (n : Nat → Nat) (g : Nat → Nat → Nat) (ok : nvOk n g) (a : Nat) (ha : a < 16) (d : Nat) (hd : d < 16) : ny_Met l yN_setBehind (Cond.code yN_setBehind bN_setBehind 3 none :: nzG) ({ frames := 7, cells := 1, slots := 6, locals := 110 }) (va_Pc [.ref (T 0), .ref (T (2 + a)), .ref (T (2 + d))] (nmP D cA cW (nvW cA cW T n g))) (nxQ (fun v st t => v = none ∧ n a + n d ≤ 64 ∧ (fun H9 : Heap => ∃ n9 g9, nvU 17 n g 16 (n a + n d) (fun k => if k < n d then g d k else g a (k - n d)) n9 g9 ∧ va_P D vwCl (nvW cA cW T n9 g9) H9) t.heap ∧ va_F (nvA T) st t) (fun E => ¬ n a + n d ≤ 64 ∧ E = eIA)) 0 0 1 6 (nvA T) := by
  refine nz_ofT (own := RN) (by decide) rfl ?_
  intro p e s m args below meth c S hr hlocks hno hv9
  obtain ⟨rfl, hP, hK, hX⟩ := hv9
  have hob0 := nv_ob0 hK hP
  have hS : va_S (nvA T) s.heap s.heap [] := va_S.rf
  have hx := S.1
  have hb := S.2.1
  refine nz_entry (vs := [.ref (T 0), .ref (T (2 + a)), .ref (T (2 + d))]) (n := 3) (lv := [(0, .ref (T 0)), (1, .ref (T (2 + a))), (2, .ref (T (2 + d)))]) (Nat.le_of_ble_eq_true rfl) rfl (fun ls hl => ?_)
  have hna := ok.1 a
  have hnd := ok.1 d
  refine lv_aload_n hx hb dN_setBehind_0 rfl (lv_at hl 1 rfl) ?_
  refine nm_getS S hX hK hP (Nat.lt_succ_of_lt ha) dN_setBehind_1 ?_
  refine lv_aload_n hx hb dN_setBehind_4 rfl (lv_at hl 2 rfl) ?_
  refine nm_getS S hX hK hP (Nat.lt_succ_of_lt hd) dN_setBehind_5 ?_
  refine lv_iadd hx hb dN_setBehind_8 ?_
  refine nz_eqi (nI_add (n a) (n d)) ?_
  refine nx_sv (As := [.int (nI (n a + n d))]) (rest := []) (post := ¬ lenB (nI (n a + n d))) (exc := fun E => lenB (nI (n a + n d)) ∧ E = eIA) S (cN_requireLength l hfl (nI (n a + n d))) kN_24 ⟨rfl, rfl, Nat.le_of_ble_eq_true rfl, Nat.le_of_ble_eq_true rfl⟩ ⟨Nat.le_of_ble_eq_true rfl, Nat.le_of_ble_eq_true rfl⟩ nmX.bl (hX.at rfl) rfl hl.1 rfl (Nat.le_of_ble_eq_true rfl) dN_setBehind_9 hno hlocks (fun E h => ⟨((by rcases h.1 with q | q; exact absurd q (nI_pos (by omega)); have := (nI_ltI (a := 64) (by decide) (by omega)).mp q; omega) : ¬ n a + n d ≤ 64), h.2⟩) (fun q1 => ?_)
  have hle : n a + n d ≤ 64 := Nat.le_of_not_lt (fun q => q1 (Or.inr ((nI_ltI (a := 64) (by decide) (by omega)).mpr q)))
  refine lv_aload_n hx hb dN_setBehind_12 rfl (lv_at hl 0 rfl) ?_
  refine nm_getA S hK hP dN_setBehind_13 ?_
  refine lv_aload_n hx hb dN_setBehind_16 rfl (lv_at hl 1 rfl) ?_
  refine nm_getS S hX hK hP (Nat.lt_succ_of_lt ha) dN_setBehind_17 ?_
  refine lv_aload_n hx hb dN_setBehind_20 rfl (lv_at hl 2 rfl) ?_
  refine nm_getS S hX hK hP (Nat.lt_succ_of_lt hd) dN_setBehind_21 ?_
  refine lv_iadd hx hb dN_setBehind_24 ?_
  refine nz_eqi (nI_add (n a) (n d)) ?_
  refine nm_putS (N := n a + n d) S hX hT hK hP hS (by decide) dN_setBehind_25 (fun H locs hP hS => ?_)
  obtain ⟨n1, g1, u1, hP⟩ : ∃ n9 g9, nvU 17 n g 16 (n a + n d) (g 16) n9 g9 ∧ va_P D vwCl (nvW cA cW T n9 g9) H := ⟨_, _, nvU_size ok hle, hP⟩
  refine lv_aload_n hx hb dN_setBehind_28 rfl (lv_at hl 0 rfl) ?_
  refine nm_getA S hK hP dN_setBehind_29 ?_
  refine lv_aload_n hx hb dN_setBehind_32 rfl (lv_at hl 2 rfl) ?_
  refine lv_iconst (v := 0) hx hb dN_setBehind_33 (by decide) ?_
  refine lv_aload_n hx hb dN_setBehind_34 rfl (lv_at hl 2 rfl) ?_
  refine nm_getS S hX hK hP (Nat.lt_succ_of_lt hd) dN_setBehind_35 ?_
  refine nz_eqi (y := nI (n d)) (by rw [(u1.2.2.1 d (by omega) (by omega)).1]) ?_
  refine lv_iconst (v := 0) hx hb dN_setBehind_38 (by decide) ?_
  refine nv_call (As := [.ref (T (2 + d)), .int (nI 0), .int (nI (n d)), .int (nI 0)]) (rest := []) S (c_Word_lay l D cA cW T hT n1 g1 16 (by decide) d (Nat.lt_succ_of_lt hd) (by omega) 0 (n d) 0 (by omega) (by omega)) kN_112 ⟨rfl, rfl, Nat.le_of_ble_eq_true rfl, Nat.le_of_ble_eq_true rfl⟩ ⟨Nat.zero_le _, Nat.zero_le _⟩ (nv_ob hK hP (by decide)) hP hK hS rfl hl.1 rfl (Nat.le_of_ble_eq_true rfl) dN_setBehind_39 (fun H locs hP hS => ?_)
  obtain ⟨g2, u2, hP⟩ : ∃ g9, nvU 17 n g 16 (n a + n d) (fun x => if 0 ≤ x ∧ x < 0 + n d then g d (0 + (x - 0)) else g 16 x) n1 g9 ∧ va_P D vwCl (nvW cA cW T n1 g9) H := ⟨_, nvU_on u1 (by omega) (by omega), hP⟩
  refine lv_aload_n hx hb dN_setBehind_42 rfl (lv_at hl 0 rfl) ?_
  refine nm_getA S hK hP dN_setBehind_43 ?_
  refine lv_aload_n hx hb dN_setBehind_46 rfl (lv_at hl 1 rfl) ?_
  refine lv_iconst (v := 0) hx hb dN_setBehind_47 (by decide) ?_
  refine lv_aload_n hx hb dN_setBehind_48 rfl (lv_at hl 1 rfl) ?_
  refine nm_getS S hX hK hP (Nat.lt_succ_of_lt ha) dN_setBehind_49 ?_
  refine nz_eqi (y := nI (n a)) (by rw [(u2.2.2.1 a (by omega) (by omega)).1]) ?_
  refine lv_aload_n hx hb dN_setBehind_52 rfl (lv_at hl 2 rfl) ?_
  refine nm_getS S hX hK hP (Nat.lt_succ_of_lt hd) dN_setBehind_53 ?_
  refine nz_eqi (y := nI (n d)) (by rw [(u2.2.2.1 d (by omega) (by omega)).1]) ?_
  refine nv_call (As := [.ref (T (2 + a)), .int (nI 0), .int (nI (n a)), .int (nI (n d))]) (rest := []) S (c_Word_lay l D cA cW T hT n1 g2 16 (by decide) a (Nat.lt_succ_of_lt ha) (by omega) 0 (n a) (n d) (by omega) (by omega)) kN_112 ⟨rfl, rfl, Nat.le_of_ble_eq_true rfl, Nat.le_of_ble_eq_true rfl⟩ ⟨Nat.zero_le _, Nat.zero_le _⟩ (nv_ob hK hP (by decide)) hP hK hS rfl hl.1 rfl (Nat.le_of_ble_eq_true rfl) dN_setBehind_56 (fun H locs hP hS => ?_)
  refine ny_ret ?_
  refine W.vret hx hb hr (fun t ht hW => ⟨rfl, hle, ⟨n1, _, ?_, by rw [ht]; exact hP⟩, hS.F ht⟩) hS.2.2 dN_setBehind_59
  refine nvU_eq (nvU_on u2 (by omega) (by omega)) rfl (fun k hk => ?_)
  show (if n d ≤ k ∧ k < n d + n a then g a (0 + (k - n d)) else if 0 ≤ k ∧ k < 0 + n d then g d (0 + (k - 0)) else g 16 k) = if k < n d then g d k else g a (k - n d)
  by_cases hc : k < n d
  · rw [if_neg (by omega), if_pos (by omega), if_pos hc, Nat.zero_add, Nat.sub_zero]
  · rw [if_pos (by omega), if_neg hc, Nat.zero_add]
set_option maxHeartbeats 4000000 in
set_option maxRecDepth 100000 in
theorem lpN_move {p : Program} {e : Env} {s : State} {m : MethodId} {args : Array Value} {below : List Frame} {meth : Method} {c : Code} {Q : State → Prop} (l : Launch) (D : va_G) (cA cW : ClassId) (T : Nat → Nat) (hT : nvT T) (n1 : Nat → Nat) (g : Nat → Nat → Nat) (hg : ∀ j k, g j k < 9) (x1 : Int32) (dl : Int) (hd1 : x1.toInt = dl) (hd2 : -1000 ≤ dl ∧ dl ≤ 1000) (v : Nat) (a : Nat) (ha : a < 16) (hna : n1 a ≤ 64) (S : CallFix p m c bN_move 6 s args nzG RN) (hX : nmX s) (hK : va_K D vwCl (nvTy cA cW) s) (kk : ∀ (H : Heap) (locs : List Loc) (ls : Array Slot), va_P D vwCl (nvW cA cW T n1 (va_up g 16 (pov (fMove dl v (g a) (n1 a)) (pov (fun _ => v) (g 16) 0 (n1 a)) 0 (n1 a)))) H → va_S (nvA T) s.heap H locs → W p l e ({ frames := 1, cells := 0, slots := 0, locals := 23 }) s m args below meth c H locs 0 0 Q (F0 m 67 ls [])) : ∀ (fuel k : Nat), k ≤ n1 a → n1 a < k + fuel → ∀ (H : Heap) (locs : List Loc), va_P D vwCl (nvW cA cW T n1 (va_up g 16 (pov (fMove dl v (g a) (n1 a)) (pov (fun _ => v) (g 16) 0 (n1 a)) 0 k))) H → va_S (nvA T) s.heap H locs → ∀ (ls : Array Slot), lv_has ls 6 [(0, .ref (T 0)), (1, .int x1), (3, .ref (T (2 + a))), (4, .int (nI k))] → W p l e ({ frames := 1, cells := 0, slots := 0, locals := 23 }) s m args below meth c H locs 0 0 Q (F0 m 15 ls []) := by
  have hx := S.1
  have hb := S.2.1
  intro fuel
  induction fuel with
  | zero =>
    intro k hk hfu
    exact absurd hfu (by omega)
  | succ fuel ih =>
    intro k hk hfu H locs hP hS ls hl
    refine lv_iload hx hb dN_move_15 (lv_at hl 3 rfl) ?_
    refine lv_aload_n hx hb dN_move_17 rfl (lv_at hl 2 rfl) ?_
    refine nm_getS S hX hK hP (Nat.lt_succ_of_lt ha) dN_move_18 ?_
    refine lv_icmp_ge (tgt := 67) hx hb dN_move_21 (by decide) (fun c1 => ?_) (fun c1 => ?_)
    · have mc1 : (n1 a) ≤ k := (nI_leI (a := (n1 a)) (b := k) (by omega) (by omega)).mp c1
      have ek9 : k = n1 a := by omega
      rw [ek9] at hP
      exact kk H locs ls hP hS
    · have mc1 : k < (n1 a) := Nat.lt_of_not_le (fun h => c1 ((nI_leI (a := (n1 a)) (b := k) (by omega) (by omega)).mpr h))
      refine lv_iload hx hb dN_move_24 (lv_at hl 3 rfl) ?_
      refine lv_iload_n hx hb dN_move_26 rfl (lv_at hl 1 rfl) ?_
      refine lv_isub hx hb dN_move_27 ?_
      have hsb : (nI k - x1).toInt = (k : Int) - dl := by rw [isub_toInt (by rw [nI_toInt (by omega), hd1]; omega) (by rw [nI_toInt (by omega), hd1]; omega), nI_toInt (by omega), hd1]
      refine lv_istore (lv' := [(5, .int (nI k - x1)), (0, .ref (T 0)), (1, .int x1), (3, .ref (T (2 + a))), (4, .int (nI k))]) hx hb dN_move_28 hl (by decide) rfl (fun ls hl => ?_)
      refine lv_iload hx hb dN_move_30 (lv_at hl 0 rfl) ?_
      refine lv_if_lt (tgt := 61) hx hb dN_move_32 (by decide) (fun c2 => ?_) (fun c2 => ?_)
      · refine lv_iinc (v := nI (k + 1)) (lv' := [(4, .int (nI (k + 1))), (5, .int (nI k - x1)), (0, .ref (T 0)), (1, .int x1), (3, .ref (T (2 + a)))]) hx hb dN_move_61 hl (k := 4) rfl (nI_1 k) (by decide) rfl (fun ls hl => ?_)
        refine lv_goto (tgt := 15) hx hb dN_move_64 (by decide) ?_
        rw [pov_k (F := fMove dl v (g a) (n1 a)) (h := pov (fun _ => v) (g 16) 0 (n1 a)) (k := k) (by rw [pov_in (Nat.zero_le _) (by omega)]; unfold fMove; rw [if_neg (by rw [Int32.lt_iff_toInt_lt, hsb] at c2; have h0 : (0 : Int32).toInt = 0 := rfl; rw [h0] at c2; omega)])] at hP
        exact ih (k + 1) (by omega) (by omega) _ _ hP hS ls (lv_sub hl [2, 3, 4, 0] rfl)
      · refine lv_iload hx hb dN_move_35 (lv_at hl 0 rfl) ?_
        refine lv_aload_n hx hb dN_move_37 rfl (lv_at hl 3 rfl) ?_
        refine nm_getS S hX hK hP (Nat.lt_succ_of_lt ha) dN_move_38 ?_
        refine lv_icmp_ge (tgt := 61) hx hb dN_move_41 (by decide) (fun c3 => ?_) (fun c3 => ?_)
        · refine lv_iinc (v := nI (k + 1)) (lv' := [(4, .int (nI (k + 1))), (5, .int (nI k - x1)), (0, .ref (T 0)), (1, .int x1), (3, .ref (T (2 + a)))]) hx hb dN_move_61 hl (k := 4) rfl (nI_1 k) (by decide) rfl (fun ls hl => ?_)
          refine lv_goto (tgt := 15) hx hb dN_move_64 (by decide) ?_
          rw [pov_k (F := fMove dl v (g a) (n1 a)) (h := pov (fun _ => v) (g 16) 0 (n1 a)) (k := k) (by rw [pov_in (Nat.zero_le _) (by omega)]; unfold fMove; rw [if_neg (by rw [Int32.le_iff_toInt_le, hsb, nI_toInt (by omega)] at c3; omega)])] at hP
          exact ih (k + 1) (by omega) (by omega) _ _ hP hS ls (lv_sub hl [2, 3, 4, 0] rfl)
        · refine lv_aload_n hx hb dN_move_44 rfl (lv_at hl 1 rfl) ?_
          refine nm_getA S hK hP dN_move_45 ?_
          refine nm_getE S hX hK hP (by decide) dN_move_48 ?_
          refine lv_iload hx hb dN_move_51 (lv_at hl 4 rfl) ?_
          refine lv_aload_n hx hb dN_move_53 rfl (lv_at hl 3 rfl) ?_
          refine nm_getE S hX hK hP (Nat.lt_succ_of_lt ha) dN_move_54 ?_
          refine lv_iload hx hb dN_move_57 (lv_at hl 0 rfl) ?_
          obtain ⟨j, hj, ej⟩ := in_not (N := n1 a) (x := nI k - x1) rfl (by omega) (fun h => h.elim c2 c3)
          have hjd : (j : Int) = (k : Int) - dl := by rw [← hsb, ej, nI_toInt (by omega)]
          rw [ej]
          refine nv_ald (k := j) hx hb hK hP (Nat.lt_succ_of_lt ha) (by omega) dN_move_59 ?_
          refine nz_eqi (y := nI ((fMove dl v (g a) (n1 a)) k)) (by rw [va_up_ne _ _ (by omega)]; unfold fMove; rw [if_pos (by omega), ← hjd, Int.toNat_natCast]) ?_
          refine nv_ast (k := k) (v := (fMove dl v (g a) (n1 a)) k) hx hb hT hK hP hS (by decide) (by omega) dN_move_60 (fun H locs hP hS => ?_)
          rw [nv_step g 16 (fMove dl v (g a) (n1 a)) (pov (fun _ => v) (g 16) 0 (n1 a)) k] at hP
          refine lv_iinc (v := nI (k + 1)) (lv' := [(4, .int (nI (k + 1))), (5, .int (nI k - x1)), (0, .ref (T 0)), (1, .int x1), (3, .ref (T (2 + a)))]) hx hb dN_move_61 hl (k := 4) rfl (nI_1 k) (by decide) rfl (fun ls hl => ?_)
          refine lv_goto (tgt := 15) hx hb dN_move_64 (by decide) ?_
          exact ih (k + 1) (by omega) (by omega) _ _ hP hS ls (lv_sub hl [2, 3, 4, 0] rfl)
set_option maxHeartbeats 4000000 in
set_option maxRecDepth 100000 in
theorem cN_move (l : Launch) (D : va_G) (cA cW : ClassId) (T : Nat → Nat) (hT : nvT T) (n : Nat → Nat) (g : Nat → Nat → Nat) (ok : nvOk n g) (x1 : Int32) (dl : Int) (hd1 : x1.toInt = dl) (hd2 : -1000 ≤ dl ∧ dl ≤ 1000) (v : Nat) (hv : v < 9) (a : Nat) (ha : a < 16) : Met l yN_move (Cond.code yN_move bN_move 6 none :: nzG) ({ frames := 1, cells := 0, slots := 0, locals := 23 }) (va_Pc [.ref (T 0), .int x1, .int (nI v), .ref (T (2 + a))] (nmP D cA cW (nvW cA cW T n g))) (va_Qv (fun _ : Unit => True) (fun _ t => (fun H9 : Heap => ∃ n9 g9, nvU 17 n g 16 (n a) (fMove dl v (g a) (n a)) n9 g9 ∧ va_P D vwCl (nvW cA cW T n9 g9) H9) t.heap) (nvA T)) 0 0 (nvA T) := by
  refine nz_of (own := RN) (by decide) rfl ?_
  intro p e s m args below meth c S hr hlocks _ hv9
  obtain ⟨rfl, hP, hK, hX⟩ := hv9
  have hob0 := nv_ob0 hK hP
  have hS : va_S (nvA T) s.heap s.heap [] := va_S.rf
  have hx := S.1
  have hb := S.2.1
  refine nz_entry (vs := [.ref (T 0), .int x1, .int (nI v), .ref (T (2 + a))]) (n := 6) (lv := [(0, .ref (T 0)), (1, .int x1), (2, .int (nI v)), (3, .ref (T (2 + a)))]) (Nat.le_of_ble_eq_true rfl) rfl (fun ls hl => ?_)
  have hna := ok.1 a
  refine lv_aload_n hx hb dN_move_0 rfl (lv_at hl 0 rfl) ?_
  refine nm_getA S hK hP dN_move_1 ?_
  refine lv_aload_n hx hb dN_move_4 rfl (lv_at hl 3 rfl) ?_
  refine nm_getS S hX hK hP (Nat.lt_succ_of_lt ha) dN_move_5 ?_
  refine lv_iload_n hx hb dN_move_8 rfl (lv_at hl 2 rfl) ?_
  refine nv_call (As := [.int (nI (n a)), .int (nI v)]) (rest := []) S (c_Word_become l D cA cW T hT n g 16 (by decide) (n a) hna v) kN_30 ⟨rfl, rfl, Nat.le_of_ble_eq_true rfl, Nat.le_of_ble_eq_true rfl⟩ ⟨Nat.zero_le _, Nat.zero_le _⟩ (nv_ob hK hP (by decide)) hP hK hS rfl hl.1 rfl (Nat.le_of_ble_eq_true rfl) dN_move_9 (fun H locs hP hS => ?_)
  generalize hn1 : va_up n 16 (n a) = n1 at hP
  have e16 : n1 16 = n a := by rw [← hn1, va_up_self]
  have ea1 : n1 a = n a := by rw [← hn1, va_up_ne _ _ (by omega)]
  refine lv_iconst (v := 0) hx hb dN_move_12 (by decide) ?_
  refine lv_istore (lv' := [(4, .int 0), (0, .ref (T 0)), (1, .int x1), (2, .int (nI v)), (3, .ref (T (2 + a)))]) hx hb dN_move_13 hl (by decide) rfl (fun ls hl => ?_)
  rw [← ea1, ← pov_0 (fMove dl v (g a) (n1 a)) (pov (fun _ => v) (g 16) 0 (n1 a)) 0] at hP
  refine lpN_move l D cA cW T hT n1 g ok.2 x1 dl hd1 hd2 v a ha (by omega) S hX hK (fun H locs ls hP hS => ?_) (n1 a + 1) 0 (by omega) (by omega) _ _ hP hS ls (lv_sub hl [1, 2, 4, 0] rfl)
  refine W.vret hx hb hr (fun t ht hW => ⟨⟨(), rfl, trivial, n1, _, ?_, by rw [ht]; exact hP⟩, hS.F ht⟩) hS.2.2 dN_move_67
  rw [ea1]
  exact nvU_two hn1 ok hna (fun k _ => by unfold fMove; split; exact ok.2 a _; exact hv)
set_option maxHeartbeats 4000000 in
set_option maxRecDepth 100000 in
theorem lpN_round {p : Program} {e : Env} {s : State} {m : MethodId} {args : Array Value} {below : List Frame} {meth : Method} {c : Code} {Q : State → Prop} (l : Launch) (D : va_G) (cA cW : ClassId) (T : Nat → Nat) (hT : nvT T) (n1 : Nat → Nat) (g : Nat → Nat → Nat) (hg : ∀ j k, g j k < 9) (x1 : Int32) (dl : Int) (hd1 : x1.toInt = dl) (hd2 : -1000 ≤ dl ∧ dl ≤ 1000) (a : Nat) (ha : a < 16) (hna : n1 a ≤ 64) (S : CallFix p m c bN_turnRound 4 s args nzG RN) (hX : nmX s) (hK : va_K D vwCl (nvTy cA cW) s) (kk : ∀ (H : Heap) (locs : List Loc) (ls : Array Slot), va_P D vwCl (nvW cA cW T n1 (va_up g 16 (pov (fRound dl (g a) (n1 a)) (g 16) 0 (n1 a)))) H → va_S (nvA T) s.heap H locs → W p l e ({ frames := 1, cells := 0, slots := 0, locals := 22 }) s m args below meth c H locs 0 0 Q (F0 m 51 ls [])) : ∀ (fuel k : Nat), k ≤ n1 a → n1 a < k + fuel → ∀ (H : Heap) (locs : List Loc), va_P D vwCl (nvW cA cW T n1 (va_up g 16 (pov (fRound dl (g a) (n1 a)) (g 16) 0 k))) H → va_S (nvA T) s.heap H locs → ∀ (ls : Array Slot), lv_has ls 4 [(0, .ref (T 0)), (1, .int x1), (2, .ref (T (2 + a))), (3, .int (nI k))] → W p l e ({ frames := 1, cells := 0, slots := 0, locals := 22 }) s m args below meth c H locs 0 0 Q (F0 m 13 ls []) := by
  have hx := S.1
  have hb := S.2.1
  intro fuel
  induction fuel with
  | zero =>
    intro k hk hfu
    exact absurd hfu (by omega)
  | succ fuel ih =>
    intro k hk hfu H locs hP hS ls hl
    refine lv_iload_n hx hb dN_turnRound_13 rfl (lv_at hl 3 rfl) ?_
    refine lv_aload_n hx hb dN_turnRound_14 rfl (lv_at hl 2 rfl) ?_
    refine nm_getS S hX hK hP (Nat.lt_succ_of_lt ha) dN_turnRound_15 ?_
    refine lv_icmp_ge (tgt := 51) hx hb dN_turnRound_18 (by decide) (fun c1 => ?_) (fun c1 => ?_)
    · have mc1 : (n1 a) ≤ k := (nI_leI (a := (n1 a)) (b := k) (by omega) (by omega)).mp c1
      have ek9 : k = n1 a := by omega
      rw [ek9] at hP
      exact kk H locs ls hP hS
    · have mc1 : k < (n1 a) := Nat.lt_of_not_le (fun h => c1 ((nI_leI (a := (n1 a)) (b := k) (by omega) (by omega)).mpr h))
      refine lv_aload_n hx hb dN_turnRound_21 rfl (lv_at hl 0 rfl) ?_
      refine nm_getA S hK hP dN_turnRound_22 ?_
      refine nm_getE S hX hK hP (by decide) dN_turnRound_25 ?_
      refine lv_iload_n hx hb dN_turnRound_28 rfl (lv_at hl 3 rfl) ?_
      refine lv_aload_n hx hb dN_turnRound_29 rfl (lv_at hl 2 rfl) ?_
      refine nm_getE S hX hK hP (Nat.lt_succ_of_lt ha) dN_turnRound_30 ?_
      refine lv_iload_n hx hb dN_turnRound_33 rfl (lv_at hl 3 rfl) ?_
      refine lv_iload_n hx hb dN_turnRound_34 rfl (lv_at hl 1 rfl) ?_
      refine lv_isub hx hb dN_turnRound_35 ?_
      have hsb : (nI k - x1).toInt = (k : Int) - dl := by rw [isub_toInt (by rw [nI_toInt (by omega), hd1]; omega) (by rw [nI_toInt (by omega), hd1]; omega), nI_toInt (by omega), hd1]
      refine lv_aload_n hx hb dN_turnRound_36 rfl (lv_at hl 2 rfl) ?_
      refine nm_getS S hX hK hP (Nat.lt_succ_of_lt ha) dN_turnRound_37 ?_
      refine nz_si (As := [.int (nI k - x1), .int (nI (n1 a))]) (rest := [.ref (T (19 + a)), .int (nI k), .ref (T (19 + 16))]) S (cM_floorMod l (nI k - x1) (n1 a) (by omega) (by omega)) kN_204 ⟨rfl, rfl, Nat.le_of_ble_eq_true rfl, Nat.le_of_ble_eq_true rfl⟩ ⟨Nat.zero_le _, Nat.zero_le _⟩ (fun _ _ _ _ h => h) (fun _ _ _ => trivial) rfl hl.1 rfl (Nat.le_of_ble_eq_true rfl) dN_turnRound_40 (fun r2 er2 => ?_)
      subst er2
      rw [hsb]
      have hjl : (((k : Int) - dl) % (n1 a : Int)).toNat < n1 a := by have h1 := Int.emod_lt_of_pos ((k : Int) - dl) (show (0 : Int) < (n1 a : Int) by omega); have h2 := Int.emod_nonneg ((k : Int) - dl) (show (n1 a : Int) ≠ 0 by omega); omega
      refine nv_ald (k := (((k : Int) - dl) % (n1 a : Int)).toNat) hx hb hK hP (Nat.lt_succ_of_lt ha) (by omega) dN_turnRound_43 ?_
      refine nz_eqi (y := nI (g a ((((k : Int) - dl) % (n1 a : Int)).toNat))) (by rw [va_up_ne _ _ (by omega)]) ?_
      refine nz_eqi (y := nI ((fRound dl (g a) (n1 a)) k)) rfl ?_
      refine nv_ast (k := k) (v := (fRound dl (g a) (n1 a)) k) hx hb hT hK hP hS (by decide) (by omega) dN_turnRound_44 (fun H locs hP hS => ?_)
      rw [nv_step g 16 (fRound dl (g a) (n1 a)) (g 16) k] at hP
      refine lv_iinc (v := nI (k + 1)) (lv' := [(3, .int (nI (k + 1))), (0, .ref (T 0)), (1, .int x1), (2, .ref (T (2 + a)))]) hx hb dN_turnRound_45 hl (k := 3) rfl (nI_1 k) (by decide) rfl (fun ls hl => ?_)
      refine lv_goto (tgt := 13) hx hb dN_turnRound_48 (by decide) ?_
      exact ih (k + 1) (by omega) (by omega) _ _ hP hS ls (lv_sub hl [1, 2, 3, 0] rfl)
set_option maxHeartbeats 4000000 in
set_option maxRecDepth 100000 in
theorem cN_turnRound (l : Launch) (D : va_G) (cA cW : ClassId) (T : Nat → Nat) (hT : nvT T) (n : Nat → Nat) (g : Nat → Nat → Nat) (ok : nvOk n g) (x1 : Int32) (dl : Int) (hd1 : x1.toInt = dl) (hd2 : -1000 ≤ dl ∧ dl ≤ 1000) (a : Nat) (ha : a < 16) : Met l yN_turnRound (Cond.code yN_turnRound bN_turnRound 4 none :: nzG) ({ frames := 1, cells := 0, slots := 0, locals := 22 }) (va_Pc [.ref (T 0), .int x1, .ref (T (2 + a))] (nmP D cA cW (nvW cA cW T n g))) (va_Qv (fun _ : Unit => True) (fun _ t => (fun H9 : Heap => ∃ n9 g9, nvU 17 n g 16 (n a) (fRound dl (g a) (n a)) n9 g9 ∧ va_P D vwCl (nvW cA cW T n9 g9) H9) t.heap) (nvA T)) 0 0 (nvA T) := by
  refine nz_of (own := RN) (by decide) rfl ?_
  intro p e s m args below meth c S hr hlocks _ hv9
  obtain ⟨rfl, hP, hK, hX⟩ := hv9
  have hob0 := nv_ob0 hK hP
  have hS : va_S (nvA T) s.heap s.heap [] := va_S.rf
  have hx := S.1
  have hb := S.2.1
  refine nz_entry (vs := [.ref (T 0), .int x1, .ref (T (2 + a))]) (n := 4) (lv := [(0, .ref (T 0)), (1, .int x1), (2, .ref (T (2 + a)))]) (Nat.le_of_ble_eq_true rfl) rfl (fun ls hl => ?_)
  refine lv_aload_n hx hb dN_turnRound_0 rfl (lv_at hl 0 rfl) ?_
  refine nm_getA S hK hP dN_turnRound_1 ?_
  refine lv_aload_n hx hb dN_turnRound_4 rfl (lv_at hl 2 rfl) ?_
  refine nm_getS S hX hK hP (Nat.lt_succ_of_lt ha) dN_turnRound_5 ?_
  refine nm_putS (N := n a) S hX hT hK hP hS (by decide) dN_turnRound_8 (fun H locs hP hS => ?_)
  generalize hn1 : va_up n 16 (n a) = n1 at hP
  have e16 : n1 16 = n a := by rw [← hn1, va_up_self]
  have ea1 : n1 a = n a := by rw [← hn1, va_up_ne _ _ (by omega)]
  have hna := ok.1 a
  refine lv_iconst (v := 0) hx hb dN_turnRound_11 (by decide) ?_
  refine lv_istore_n (lv' := [(3, .int 0), (0, .ref (T 0)), (1, .int x1), (2, .ref (T (2 + a)))]) hx hb dN_turnRound_12 rfl hl (by decide) rfl (fun ls hl => ?_)
  rw [show g = va_up g 16 (pov (fRound dl (g a) (n1 a)) (g 16) 0 0) by rw [pov_0, va_up_eta]] at hP
  refine lpN_round l D cA cW T hT n1 g ok.2 x1 dl hd1 hd2 a ha (by omega) S hX hK (fun H locs ls hP hS => ?_) (n1 a + 1) 0 (by omega) (by omega) _ _ hP hS ls (lv_sub hl [1, 2, 3, 0] rfl)
  refine W.vret hx hb hr (fun t ht hW => ⟨⟨(), rfl, trivial, n1, _, ?_, by rw [ht]; exact hP⟩, hS.F ht⟩) hS.2.2 dN_turnRound_51
  rw [ea1, ← hn1]
  exact nvU_lay ok hna (fun k _ => ok.2 a _)
