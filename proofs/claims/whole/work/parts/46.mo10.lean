set_option maxHeartbeats 4000000 in
set_option maxRecDepth 100000 in
theorem lpM_opJ {p : Program} {e : Env} {s : State} {m : MethodId} {args : Array Value} {below : List Frame} {meth : Method} {c : Code} {Q : State → Prop} (l : Launch) (D : va_G) (cA : ClassId) (T : Nat → Nat) (hT : moT T) (k0 : Int32) (C L O : Nat → Nat) (c0 : Nat) (ok : moOk C L O) (o : Nat) (ho : o < 7) (a : Nat) (ha : a < 16) (d : Nat) (hd : d < 16) (u : Nat) (N : Nat) (hN : N ≤ 64) (S : CallFix p m c bMo_operate 10 s args nzG RM) (hK : va_K D vwCl (moTy cA) s) (kk : ∀ (H : Heap) (locs : List Loc) (ls : Array Slot), va_P D vwCl (moW cA T k0 C L (pov (fun k => zJoin o (mR C a k) (mR C d k)) O 0 N) c0) H → va_S (moA T) s.heap H locs → lv_has ls 10 [(0, .ref (T 0)), (1, .int (nI o)), (3, .int (nI a)), (4, .int (nI d)), (5, .int (nI u)), (8, .int (nI N)), (9, .int (nI N))] → W p l e ({ frames := 4, cells := 0, slots := 0, locals := 102 }) s m args below meth c H locs 0 0 Q (F0 m 231 ls [])) : ∀ (fuel j : Nat), j ≤ N → N < j + fuel → ∀ (H : Heap) (locs : List Loc), va_P D vwCl (moW cA T k0 C L (pov (fun k => zJoin o (mR C a k) (mR C d k)) O 0 j) c0) H → va_S (moA T) s.heap H locs → ∀ (ls : Array Slot), lv_has ls 10 [(0, .ref (T 0)), (1, .int (nI o)), (3, .int (nI a)), (4, .int (nI d)), (5, .int (nI u)), (8, .int (nI N)), (9, .int (nI j))] → W p l e ({ frames := 4, cells := 0, slots := 0, locals := 102 }) s m args below meth c H locs 0 0 Q (F0 m 192 ls []) := by
  have hx := S.1
  have hb := S.2.1
  intro fuel
  induction fuel with
  | zero =>
    intro j hj hfu
    exact absurd hfu (by omega)
  | succ fuel ih =>
    intro j hj hfu H locs hP hS ls hl
    refine lv_iload hx hb dMo_operate_192 (lv_at hl 6 rfl) ?_
    refine lv_iload hx hb dMo_operate_194 (lv_at hl 5 rfl) ?_
    refine lv_icmp_ge (tgt := 231) hx hb dMo_operate_196 (by decide) (fun c1 => ?_) (fun c1 => ?_)
    · have mc1 : N ≤ j := (nI_leI (a := N) (b := j) (by omega) (by omega)).mp c1
      obtain rfl : j = N := by omega
      exact kk H locs ls hP hS (lv_sub hl [0, 1, 2, 3, 4, 5, 6] rfl)
    · have mc1 : j < N := Nat.lt_of_not_le (fun h => c1 ((nI_leI (a := N) (b := j) (by omega) (by omega)).mpr h))
      refine lv_aload_n hx hb dMo_operate_199 rfl (lv_at hl 0 rfl) ?_
      refine mo_getO S hK hP dMo_operate_200 ?_
      refine lv_iload hx hb dMo_operate_203 (lv_at hl 6 rfl) ?_
      refine lv_iload_n hx hb dMo_operate_205 rfl (lv_at hl 1 rfl) ?_
      refine lv_aload_n hx hb dMo_operate_206 rfl (lv_at hl 0 rfl) ?_
      refine lv_iload_n hx hb dMo_operate_207 rfl (lv_at hl 2 rfl) ?_
      refine lv_iload hx hb dMo_operate_208 (lv_at hl 6 rfl) ?_
      refine nz_vi (As := [.int (nI a), .int (nI j)]) (rest := [.int (nI o), .int (nI j), .ref (T 3)]) S (c_Mo_cell l D cA T hT k0 C L (pov (fun k => zJoin o (mR C a k) (mR C d k)) O 0 j) c0 a ha j (by omega)) kMo_40 ⟨rfl, rfl, Nat.le_of_ble_eq_true rfl, Nat.le_of_ble_eq_true rfl⟩ ⟨Nat.zero_le _, Nat.zero_le _⟩ moP.bl (mo_ob hK hP) (moP.to hP hK) rfl hl.1 rfl (Nat.le_of_ble_eq_true rfl) dMo_operate_210 (fun r2 er2 => ?_)
      subst er2
      refine lv_aload_n hx hb dMo_operate_213 rfl (lv_at hl 0 rfl) ?_
      refine lv_iload hx hb dMo_operate_214 (lv_at hl 3 rfl) ?_
      refine lv_iload hx hb dMo_operate_216 (lv_at hl 6 rfl) ?_
      refine nz_vi (As := [.int (nI d), .int (nI j)]) (rest := [.int (nI (mR C a j)), .int (nI o), .int (nI j), .ref (T 3)]) S (c_Mo_cell l D cA T hT k0 C L (pov (fun k => zJoin o (mR C a k) (mR C d k)) O 0 j) c0 d hd j (by omega)) kMo_40 ⟨rfl, rfl, Nat.le_of_ble_eq_true rfl, Nat.le_of_ble_eq_true rfl⟩ ⟨Nat.zero_le _, Nat.zero_le _⟩ moP.bl (mo_ob hK hP) (moP.to hP hK) rfl hl.1 rfl (Nat.le_of_ble_eq_true rfl) dMo_operate_218 (fun r3 er3 => ?_)
      subst er3
      refine nz_si (As := [.int (nI o), .int (nI (mR C a j)), .int (nI (mR C d j))]) (rest := [.int (nI j), .ref (T 3)]) S (c_Mo_byTable l o (by omega) (mR C a j) (ok.1 _) (mR C d j) (ok.1 _)) kMo_84 ⟨rfl, rfl, Nat.le_of_ble_eq_true rfl, Nat.le_of_ble_eq_true rfl⟩ ⟨Nat.zero_le _, Nat.zero_le _⟩ (fun _ _ _ _ h => h) (fun _ _ _ => trivial) rfl hl.1 rfl (Nat.le_of_ble_eq_true rfl) dMo_operate_221 (fun r4 er4 => ?_)
      subst er4
      refine nz_eqi (y := nI ((fun k => zJoin o (mR C a k) (mR C d k)) j)) rfl ?_
      refine mo_stO (j := j) (v := (fun k => zJoin o (mR C a k) (mR C d k)) j) S hT hK hP hS (by omega) dMo_operate_224 (fun H locs hP hS => ?_)
      rw [pov_s0] at hP
      refine lv_iinc (v := nI (j + 1)) (lv' := [(9, .int (nI (j + 1))), (0, .ref (T 0)), (1, .int (nI o)), (3, .int (nI a)), (4, .int (nI d)), (5, .int (nI u)), (8, .int (nI N))]) hx hb dMo_operate_225 hl (k := 6) rfl (nI_1 j) (by decide) rfl (fun ls hl => ?_)
      refine lv_goto (tgt := 192) hx hb dMo_operate_228 (by decide) ?_
      exact ih (j + 1) (by omega) (by omega) _ _ hP hS ls (lv_sub hl [1, 2, 3, 4, 5, 6, 0] rfl)
set_option maxHeartbeats 4000000 in
set_option maxRecDepth 100000 in
theorem lpM_opB {p : Program} {e : Env} {s : State} {m : MethodId} {args : Array Value} {below : List Frame} {meth : Method} {c : Code} {Q : State → Prop} (l : Launch) (D : va_G) (cA : ClassId) (T : Nat → Nat) (hT : moT T) (k0 : Int32) (C L O : Nat → Nat) (c0 : Nat) (ok : moOk C L O) (a : Nat) (ha : a < 16) (d : Nat) (hd : d < 16) (u : Nat) (N : Nat) (hN : N ≤ 64) (S : CallFix p m c bMo_operate 10 s args nzG RM) (hK : va_K D vwCl (moTy cA) s) (kk : ∀ (H : Heap) (locs : List Loc) (ls : Array Slot), va_P D vwCl (moW cA T k0 C L (pov (fun k => if k < L d then mR C d k else mR C a (k - L d)) O 0 N) c0) H → va_S (moA T) s.heap H locs → lv_has ls 10 [(0, .ref (T 0)), (3, .int (nI a)), (4, .int (nI d)), (5, .int (nI u)), (7, .int (nI (L d))), (8, .int (nI N)), (9, .int (nI N))] → W p l e ({ frames := 4, cells := 0, slots := 0, locals := 102 }) s m args below meth c H locs 0 0 Q (F0 m 311 ls [])) : ∀ (fuel j : Nat), j ≤ N → N < j + fuel → ∀ (H : Heap) (locs : List Loc), va_P D vwCl (moW cA T k0 C L (pov (fun k => if k < L d then mR C d k else mR C a (k - L d)) O 0 j) c0) H → va_S (moA T) s.heap H locs → ∀ (ls : Array Slot), lv_has ls 10 [(0, .ref (T 0)), (3, .int (nI a)), (4, .int (nI d)), (5, .int (nI u)), (7, .int (nI (L d))), (8, .int (nI N)), (9, .int (nI j))] → W p l e ({ frames := 4, cells := 0, slots := 0, locals := 102 }) s m args below meth c H locs 0 0 Q (F0 m 263 ls []) := by
  have hx := S.1
  have hb := S.2.1
  intro fuel
  induction fuel with
  | zero =>
    intro j hj hfu
    exact absurd hfu (by omega)
  | succ fuel ih =>
    intro j hj hfu H locs hP hS ls hl
    have hLd := ok.2.1 d
    have hLa := ok.2.1 a
    refine lv_iload hx hb dMo_operate_263 (lv_at hl 6 rfl) ?_
    refine lv_iload hx hb dMo_operate_265 (lv_at hl 5 rfl) ?_
    refine lv_icmp_ge (tgt := 311) hx hb dMo_operate_267 (by decide) (fun c1 => ?_) (fun c1 => ?_)
    · have mc1 : N ≤ j := (nI_leI (a := N) (b := j) (by omega) (by omega)).mp c1
      obtain rfl : j = N := by omega
      exact kk H locs ls hP hS (lv_sub hl [0, 1, 2, 3, 4, 5, 6] rfl)
    · have mc1 : j < N := Nat.lt_of_not_le (fun h => c1 ((nI_leI (a := N) (b := j) (by omega) (by omega)).mpr h))
      refine lv_aload_n hx hb dMo_operate_270 rfl (lv_at hl 0 rfl) ?_
      refine mo_getO S hK hP dMo_operate_271 ?_
      refine lv_iload hx hb dMo_operate_274 (lv_at hl 6 rfl) ?_
      refine lv_iload hx hb dMo_operate_276 (lv_at hl 6 rfl) ?_
      refine lv_iload hx hb dMo_operate_278 (lv_at hl 4 rfl) ?_
      refine lv_icmp_ge (tgt := 294) hx hb dMo_operate_280 (by decide) (fun c2 => ?_) (fun c2 => ?_)
      · have mc2 : (L d) ≤ j := (nI_leI (a := (L d)) (b := j) (by omega) (by omega)).mp c2
        refine lv_aload_n hx hb dMo_operate_294 rfl (lv_at hl 0 rfl) ?_
        refine lv_iload_n hx hb dMo_operate_295 rfl (lv_at hl 1 rfl) ?_
        refine lv_iload hx hb dMo_operate_296 (lv_at hl 6 rfl) ?_
        refine lv_iload hx hb dMo_operate_298 (lv_at hl 4 rfl) ?_
        refine lv_isub hx hb dMo_operate_300 ?_
        refine nz_eqi (pk_sub (by omega)) ?_
        refine nz_vi (As := [.int (nI a), .int (nI (j - L d))]) (rest := [.int (nI j), .ref (T 3)]) S (c_Mo_cell l D cA T hT k0 C L (pov (fun k => if k < L d then mR C d k else mR C a (k - L d)) O 0 j) c0 a ha (j - L d) (by omega)) kMo_40 ⟨rfl, rfl, Nat.le_of_ble_eq_true rfl, Nat.le_of_ble_eq_true rfl⟩ ⟨Nat.zero_le _, Nat.zero_le _⟩ moP.bl (mo_ob hK hP) (moP.to hP hK) rfl hl.1 rfl (Nat.le_of_ble_eq_true rfl) dMo_operate_301 (fun r3 er3 => ?_)
        subst er3
        refine nz_eqi (y := nI ((fun k => if k < L d then mR C d k else mR C a (k - L d)) j)) (by show _ = nI (if j < L d then mR C d j else mR C a (j - L d)); rw [if_neg (Nat.not_lt.mpr mc2)]) ?_
        refine mo_stO (j := j) (v := (fun k => if k < L d then mR C d k else mR C a (k - L d)) j) S hT hK hP hS (by omega) dMo_operate_304 (fun H locs hP hS => ?_)
        rw [pov_s0] at hP
        refine lv_iinc (v := nI (j + 1)) (lv' := [(9, .int (nI (j + 1))), (0, .ref (T 0)), (3, .int (nI a)), (4, .int (nI d)), (5, .int (nI u)), (7, .int (nI (L d))), (8, .int (nI N))]) hx hb dMo_operate_305 hl (k := 6) rfl (nI_1 j) (by decide) rfl (fun ls hl => ?_)
        refine lv_goto (tgt := 263) hx hb dMo_operate_308 (by decide) ?_
        exact ih (j + 1) (by omega) (by omega) _ _ hP hS ls (lv_sub hl [1, 2, 3, 4, 5, 6, 0] rfl)
      · have mc2 : j < (L d) := Nat.lt_of_not_le (fun h => c2 ((nI_leI (a := (L d)) (b := j) (by omega) (by omega)).mpr h))
        refine lv_aload_n hx hb dMo_operate_283 rfl (lv_at hl 0 rfl) ?_
        refine lv_iload hx hb dMo_operate_284 (lv_at hl 2 rfl) ?_
        refine lv_iload hx hb dMo_operate_286 (lv_at hl 6 rfl) ?_
        refine nz_vi (As := [.int (nI d), .int (nI j)]) (rest := [.int (nI j), .ref (T 3)]) S (c_Mo_cell l D cA T hT k0 C L (pov (fun k => if k < L d then mR C d k else mR C a (k - L d)) O 0 j) c0 d hd j (by omega)) kMo_40 ⟨rfl, rfl, Nat.le_of_ble_eq_true rfl, Nat.le_of_ble_eq_true rfl⟩ ⟨Nat.zero_le _, Nat.zero_le _⟩ moP.bl (mo_ob hK hP) (moP.to hP hK) rfl hl.1 rfl (Nat.le_of_ble_eq_true rfl) dMo_operate_288 (fun r4 er4 => ?_)
        subst er4
        refine lv_goto (tgt := 304) hx hb dMo_operate_291 (by decide) ?_
        refine nz_eqi (y := nI ((fun k => if k < L d then mR C d k else mR C a (k - L d)) j)) (by show _ = nI (if j < L d then mR C d j else mR C a (j - L d)); rw [if_pos mc2]) ?_
        refine mo_stO (j := j) (v := (fun k => if k < L d then mR C d k else mR C a (k - L d)) j) S hT hK hP hS (by omega) dMo_operate_304 (fun H locs hP hS => ?_)
        rw [pov_s0] at hP
        refine lv_iinc (v := nI (j + 1)) (lv' := [(9, .int (nI (j + 1))), (0, .ref (T 0)), (3, .int (nI a)), (4, .int (nI d)), (5, .int (nI u)), (7, .int (nI (L d))), (8, .int (nI N))]) hx hb dMo_operate_305 hl (k := 6) rfl (nI_1 j) (by decide) rfl (fun ls hl => ?_)
        refine lv_goto (tgt := 263) hx hb dMo_operate_308 (by decide) ?_
        exact ih (j + 1) (by omega) (by omega) _ _ hP hS ls (lv_sub hl [1, 2, 3, 4, 5, 6, 0] rfl)
set_option maxHeartbeats 4000000 in
set_option maxRecDepth 100000 in
theorem mo_opTail {p : Program} {e : Env} {s : State} {m : MethodId} {args : Array Value} {below : List Frame} {meth : Method} {c : Code} (l : Launch) (D : va_G) (cA : ClassId) (T : Nat → Nat) (hT : moT T) (C L O : Nat → Nat) (c0 : Nat) (ok : moOk C L O) (o : Nat) (ho : o ≤ 13) (b1 : Nat) (hb1 : b1 < 2) (a : Nat) (ha : a < 16) (d : Nat) (hd : d < 16) (u : Nat) (hu : u < 16) (hk1 : kOperate L (mR C) b1 (nI o) (nI a) (nI d) (nI u) = kOp o b1 (mR C a) (L a) (mR C d) (L d)) (H : Heap) (locs : List Loc) (S : CallFix p m c bMo_operate 10 s args nzG RM) (hr : meth.sig.returnType = none) (hlocks : meth.locks = false) (hK : va_K D vwCl (moTy cA) s) (hP : va_P D vwCl (moW cA T 0 C L O c0) H) (hS : va_S (moA T) s.heap H locs) (ls : Array Slot) (hl : lv_has ls 10 [(0, .ref (T 0)), (1, .int (nI o)), (2, .int (nI b1)), (3, .int (nI a)), (4, .int (nI d)), (5, .int (nI u)), (6, .int (nI (L a))), (7, .int (nI (L d))), (8, .int (nI (zNl o (L a) (L d))))]) : W p l e ({ frames := 4, cells := 0, slots := 0, locals := 102 }) s m args below meth c H locs 0 0 (MQ below (va_Qv (fun _ : Unit => True) (fun _ t => moV D cA T C L (kOperate L (mR C) b1 (nI o) (nI a) (nI d) (nI u)) u (nOp o (mR C a) (L a) (mR C d) (L d)) (fOp o b1 (mR C a) (L a) (mR C d) (L d)) t) (moA T)) args s 0 0 (moA T)) (F0 m 140 ls []) := by
  have hx := S.1
  have hb := S.2.1
  have hLa := ok.2.1 a
  have hLd := ok.2.1 d
  have hnl := zNl_le o hLa hLd
  refine lv_aload_n hx hb dMo_operate_140 rfl (lv_at hl 0 rfl) ?_
  refine lv_iload_n hx hb dMo_operate_141 rfl (lv_at hl 1 rfl) ?_
  refine lv_bipush (v := 7) hx hb dMo_operate_142 (by decide) ?_
  refine lv_icmp_ge (tgt := 154) hx hb dMo_operate_144 (by decide) (fun c1 => ?_) (fun c1 => ?_)
  · have mc1 : 7 ≤ o := (nI_leI (a := 7) (b := o) (by omega) (by omega)).mp c1
    have hnv : zNl o (L a) (L d) = if o = 13 then L a + L d else zLen o (L a) (L d) := if_neg (by omega)
    refine lv_iload hx hb dMo_operate_154 (lv_at hl 8 rfl) ?_
    refine lv_bipush (v := 64) hx hb dMo_operate_156 (by decide) ?_
    refine lv_icmp_le (tgt := 165) hx hb dMo_operate_158 (by decide) (fun c2 => ?_) (fun c2 => ?_)
    · have mc2 : (zNl o (L a) (L d)) ≤ 64 := (nI_leI (a := (zNl o (L a) (L d))) (b := 64) (by omega) (by omega)).mp c2
      refine lv_iconst (v := 0) hx hb dMo_operate_165 (by decide) ?_
      refine mo_putk (k1 := 0) S hT hK hP hS dMo_operate_166 (fun H locs hP hS => ?_)
      refine lv_aload_n hx hb dMo_operate_169 rfl (lv_at hl 0 rfl) ?_
      refine mo_getk S hK hP dMo_operate_170 ?_
      refine lv_if_le (tgt := 177) hx hb dMo_operate_173 (by decide) (fun _ => ?_) (fun c3 => absurd (by decide) c3)
      refine lv_iload_n hx hb dMo_operate_177 rfl (lv_at hl 1 rfl) ?_
      refine lv_bipush (v := 7) hx hb dMo_operate_178 (by decide) ?_
      refine lv_icmp_ge (tgt := 234) hx hb dMo_operate_180 (by decide) (fun c4 => ?_) (fun c4 => absurd ((nI_leI (a := 7) (b := o) (by decide) (by omega)).mpr (by omega)) c4)
      refine lv_iload_n hx hb dMo_operate_234 rfl (lv_at hl 1 rfl) ?_
      refine lv_bipush (v := 13) hx hb dMo_operate_235 (by decide) ?_
      refine lv_icmp_ge (tgt := 254) hx hb dMo_operate_237 (by decide) (fun c5 => ?_) (fun c5 => ?_)
      · have mc5 : 13 ≤ o := (nI_leI (a := 13) (b := o) (by omega) (by omega)).mp c5
        refine lv_aload_n hx hb dMo_operate_254 rfl (lv_at hl 0 rfl) ?_
        refine lv_iload hx hb dMo_operate_255 (lv_at hl 8 rfl) ?_
        refine mo_putc (c1 := zNl o (L a) (L d)) S hT hK hP hS dMo_operate_257 (fun H locs hP hS => ?_)
        refine lv_iconst (v := 0) hx hb dMo_operate_260 (by decide) ?_
        refine lv_istore (lv' := [(9, .int 0), (0, .ref (T 0)), (1, .int (nI o)), (2, .int (nI b1)), (3, .int (nI a)), (4, .int (nI d)), (5, .int (nI u)), (6, .int (nI (L a))), (7, .int (nI (L d))), (8, .int (nI (zNl o (L a) (L d))))]) hx hb dMo_operate_261 hl (by decide) rfl (fun ls hl => ?_)
        have h13 : o = 13 := by omega
        rw [if_pos h13] at hnv
        have hk0 : kOperate L (mR C) b1 (nI o) (nI a) (nI d) (nI u) = 0 := by rw [hk1]; unfold kOp; rw [if_neg (by omega), if_pos h13, if_pos (by omega)]
        rw [← pov_0 (fun k => if k < L d then mR C d k else mR C a (k - L d)) (O) 0] at hP
        refine lpM_opB l D cA T hT 0 C L O (zNl o (L a) (L d)) ok a ha d hd u (zNl o (L a) (L d)) (by omega) S hK (fun H locs ls hP hS hl => ?_) (zNl o (L a) (L d) + 1) 0 (by omega) (by omega) _ _ hP hS ls (lv_sub hl [1, 4, 5, 6, 8, 9, 0] rfl)
        refine lv_aload_n hx hb dMo_operate_311 rfl (lv_at hl 0 rfl) ?_
        refine mo_getk S hK hP dMo_operate_312 ?_
        refine lv_if_ne (tgt := 324) hx hb dMo_operate_315 (by decide) (fun c6 => absurd (by decide) c6) (fun _ => ?_)
        refine lv_aload_n hx hb dMo_operate_318 rfl (lv_at hl 0 rfl) ?_
        refine lv_iload hx hb dMo_operate_319 (lv_at hl 3 rfl) ?_
        refine mo_call (As := [.int (nI u)]) (rest := []) S (c_Mo_keep l D cA T hT 0 C L (pov (fun k => if k < L d then mR C d k else mR C a (k - L d)) O 0 (zNl o (L a) (L d))) (zNl o (L a) (L d)) u hu (by omega)) kMo_36 ⟨rfl, rfl, Nat.le_of_ble_eq_true rfl, Nat.le_of_ble_eq_true rfl⟩ ⟨Nat.zero_le _, Nat.zero_le _⟩ (mo_ob hK hP) hP hK hS rfl hl.1 rfl (Nat.le_of_ble_eq_true rfl) dMo_operate_321 (fun H locs hP hS => ?_)
        refine W.vret hx hb hr (fun t ht hW => ⟨⟨(), rfl, trivial, moK C (pov (fun k => if k < L d then mR C d k else mR C a (k - L d)) O 0 (zNl o (L a) (L d))) u (zNl o (L a) (L d)), va_up L u (zNl o (L a) (L d)), (pov (fun k => if k < L d then mR C d k else mR C a (k - L d)) O 0 (zNl o (L a) (L d))), (zNl o (L a) (L d)), fun _ => ?_, fun h => absurd hk0 h, moOk_keep (moOk_O ok (pov_lt (fun k _ _ => by show (if k < L d then mR C d k else mR C a (k - L d)) < 9; split; exact ok.1 _; exact ok.1 _) ok.2.2)) (by omega), by rw [hk0, ht]; exact hP⟩, hS.F ht⟩) hS.2.2 dMo_operate_324
        exact moU_eq (moU_keep (by omega)) (by rw [hnv]; unfold nOp; rw [if_neg (by omega), if_pos h13]) (fun k hk => by rw [pov_in (Nat.zero_le _) (by rw [hnv]; unfold nOp at hk; rw [if_neg (by omega), if_pos h13] at hk; omega), fOp_13 h13])
      · have mc5 : o < 13 := Nat.lt_of_not_le (fun h => c5 ((nI_leI (a := 13) (b := o) (by omega) (by omega)).mpr h))
        refine lv_aload_n hx hb dMo_operate_240 rfl (lv_at hl 0 rfl) ?_
        refine lv_iload_n hx hb dMo_operate_241 rfl (lv_at hl 1 rfl) ?_
        refine lv_iload_n hx hb dMo_operate_242 rfl (lv_at hl 2 rfl) ?_
        refine lv_iload_n hx hb dMo_operate_243 rfl (lv_at hl 3 rfl) ?_
        refine lv_iload hx hb dMo_operate_244 (lv_at hl 4 rfl) ?_
        refine lv_iload hx hb dMo_operate_246 (lv_at hl 8 rfl) ?_
        have h13 : ¬ o = 13 := by omega
        rw [if_neg h13] at hnv
        have hko : kOperate L (mR C) b1 (nI o) (nI a) (nI d) (nI u) = kCalc o b1 (mR C a) (L a) (mR C d) (L d) := by rw [hk1]; unfold kOp; rw [if_neg (by omega), if_neg h13]
        refine nz_eqi (congrArg nI hnv) ?_
        refine mo_callB (B := fun H9 : Heap => ∃ (O9 : Nat → Nat) (c9 : Nat), (kCalc o b1 (mR C a) (L a) (mR C d) (L d) = 0 → c9 = nCalc o (mR C a) (L a) (mR C d) (L d) ∧ ∀ k, k < nCalc o (mR C a) (L a) (mR C d) (L d) → O9 k = fCalc o b1 (mR C a) (L a) (mR C d) (L d) k) ∧ (∀ j, O9 j < 9) ∧ va_P D vwCl (moW cA T (nI (kCalc o b1 (mR C a) (L a) (mR C d) (L d))) C L O9 c9) H9) (As := [.int (nI o), .int (nI b1), .int (nI a), .int (nI d), .int (nI (zLen o (L a) (L d)))]) (rest := []) S (c_Mo_numbers l D cA T hT C L O c0 ok o (by omega) b1 hb1 a ha d hd (by omega)) kMo_88 ⟨rfl, rfl, Nat.le_of_ble_eq_true rfl, Nat.le_of_ble_eq_true rfl⟩ ⟨Nat.zero_le _, Nat.zero_le _⟩ (mo_ob hK hP) hP hK hS rfl hl.1 rfl (Nat.le_of_ble_eq_true rfl) dMo_operate_248 (fun H locs hB hS => ?_)
        obtain ⟨O9, c9, hO1, hO2, hP⟩ := hB
        refine lv_goto (tgt := 311) hx hb dMo_operate_251 (by decide) ?_
        refine lv_aload_n hx hb dMo_operate_311 rfl (lv_at hl 0 rfl) ?_
        refine mo_getk S hK hP dMo_operate_312 ?_
        refine lv_if_ne (tgt := 324) hx hb dMo_operate_315 (by decide) (fun q9 => ?_) (fun q9 => ?_)
        · have hkn : kCalc o b1 (mR C a) (L a) (mR C d) (L d) ≠ 0 := fun z => q9 (by rw [z]; rfl)
          exact W.vret hx hb hr (fun t ht hW => ⟨⟨(), rfl, trivial, C, L, O9, c9, fun h => absurd (hko.symm.trans h) hkn, fun _ => ⟨rfl, rfl⟩, moOk_O ok hO2, by rw [hko, ht]; exact hP⟩, hS.F ht⟩) hS.2.2 dMo_operate_324
        · have hkz : kCalc o b1 (mR C a) (L a) (mR C d) (L d) = 0 := kC_0 q9
          obtain ⟨rfl, hO3⟩ := hO1 hkz
          have hnc : nCalc o (mR C a) (L a) (mR C d) (L d) ≤ 64 := nCalc_le (by omega)
          have hk0 : kOperate L (mR C) b1 (nI o) (nI a) (nI d) (nI u) = 0 := by rw [hko, hkz]
          refine lv_aload_n hx hb dMo_operate_318 rfl (lv_at hl 0 rfl) ?_
          refine lv_iload hx hb dMo_operate_319 (lv_at hl 5 rfl) ?_
          refine mo_call (As := [.int (nI u)]) (rest := []) S (c_Mo_keep l D cA T hT (nI (kCalc o b1 (mR C a) (L a) (mR C d) (L d))) C L O9 (nCalc o (mR C a) (L a) (mR C d) (L d)) u hu hnc) kMo_36 ⟨rfl, rfl, Nat.le_of_ble_eq_true rfl, Nat.le_of_ble_eq_true rfl⟩ ⟨Nat.zero_le _, Nat.zero_le _⟩ (mo_ob hK hP) hP hK hS rfl hl.1 rfl (Nat.le_of_ble_eq_true rfl) dMo_operate_321 (fun H locs hP hS => ?_)
          refine W.vret hx hb hr (fun t ht hW => ⟨⟨(), rfl, trivial, moK C O9 u (nCalc o (mR C a) (L a) (mR C d) (L d)), va_up L u (nCalc o (mR C a) (L a) (mR C d) (L d)), O9, (nCalc o (mR C a) (L a) (mR C d) (L d)), fun _ => ?_, fun h => absurd hk0 h, moOk_keep (moOk_O ok hO2) hnc, by rw [hk0, ht]; rw [hkz] at hP; exact hP⟩, hS.F ht⟩) hS.2.2 dMo_operate_324
          exact moU_eq (moU_keep hnc) (by unfold nOp; rw [if_neg (by omega), if_neg h13]) (fun k hk => by unfold nOp at hk; rw [if_neg (by omega), if_neg h13] at hk; rw [hO3 k hk]; unfold fOp; rw [if_neg (by omega), if_neg h13])
    · have mc2 : 64 < (zNl o (L a) (L d)) := Nat.lt_of_not_le (fun h => c2 ((nI_leI (a := (zNl o (L a) (L d))) (b := 64) (by omega) (by omega)).mpr h))
      refine lv_iconst (v := 2) hx hb dMo_operate_161 (by decide) ?_
      refine lv_goto (tgt := 166) hx hb dMo_operate_162 (by decide) ?_
      refine mo_putk (k1 := 2) S hT hK hP hS dMo_operate_166 (fun H locs hP hS => ?_)
      have hk0 : kOperate L (mR C) b1 (nI o) (nI a) (nI d) (nI u) = 2 := by
        rw [hk1]
        unfold kOp
        rw [if_neg (by omega)]
        by_cases h13 : o = 13
        · rw [if_pos h13, if_neg (by rw [if_pos h13] at hnv; omega)]
        · rw [if_neg h13]
          unfold kCalc
          rw [if_pos (by rw [if_neg h13] at hnv; omega)]
      refine lv_aload_n hx hb dMo_operate_169 rfl (lv_at hl 0 rfl) ?_
      refine mo_getk S hK hP dMo_operate_170 ?_
      refine lv_if_le (tgt := 177) hx hb dMo_operate_173 (by decide) (fun c7 => absurd c7 (by decide)) (fun _ => ?_)
      exact W.vret hx hb hr (fun t ht hW => ⟨⟨(), rfl, trivial, C, L, O, c0, fun h => absurd h (by rw [hk0]; decide), fun _ => ⟨rfl, rfl⟩, ok, by rw [hk0, ht]; exact hP⟩, hS.F ht⟩) hS.2.2 dMo_operate_176
  · have mc1 : o < 7 := Nat.lt_of_not_le (fun h => c1 ((nI_leI (a := 7) (b := o) (by omega) (by omega)).mpr h))
    refine lv_iload hx hb dMo_operate_147 (lv_at hl 6 rfl) ?_
    refine lv_iload hx hb dMo_operate_149 (lv_at hl 7 rfl) ?_
    refine lv_icmp_ne (tgt := 161) hx hb dMo_operate_151 (by decide) (fun c8 => ?_) (fun c8 => ?_)
    · have mc8 : ¬ (L a) = (L d) := fun h => c8 ((nI_eq (a := (L a)) (b := (L d)) (by omega) (by omega)).mpr h)
      refine lv_iconst (v := 2) hx hb dMo_operate_161 (by decide) ?_
      refine lv_goto (tgt := 166) hx hb dMo_operate_162 (by decide) ?_
      refine mo_putk (k1 := 2) S hT hK hP hS dMo_operate_166 (fun H locs hP hS => ?_)
      have hk0 : kOperate L (mR C) b1 (nI o) (nI a) (nI d) (nI u) = 2 := by rw [hk1]; unfold kOp; rw [if_pos (by omega), if_neg mc8]
      refine lv_aload_n hx hb dMo_operate_169 rfl (lv_at hl 0 rfl) ?_
      refine mo_getk S hK hP dMo_operate_170 ?_
      refine lv_if_le (tgt := 177) hx hb dMo_operate_173 (by decide) (fun c9 => absurd c9 (by decide)) (fun _ => ?_)
      exact W.vret hx hb hr (fun t ht hW => ⟨⟨(), rfl, trivial, C, L, O, c0, fun h => absurd h (by rw [hk0]; decide), fun _ => ⟨rfl, rfl⟩, ok, by rw [hk0, ht]; exact hP⟩, hS.F ht⟩) hS.2.2 dMo_operate_176
    · have mc8 : (L a) = (L d) := (nI_eq (a := (L a)) (b := (L d)) (by omega) (by omega)).mp c8
      have hnv : zNl o (L a) (L d) = L a := if_pos (by omega)
      refine lv_iload hx hb dMo_operate_154 (lv_at hl 8 rfl) ?_
      refine lv_bipush (v := 64) hx hb dMo_operate_156 (by decide) ?_
      refine lv_icmp_le (tgt := 165) hx hb dMo_operate_158 (by decide) (fun c10 => ?_) (fun c10 => absurd ((nI_leI (a := zNl o (L a) (L d)) (b := 64) (by omega) (by decide)).mpr (by omega)) c10)
      refine lv_iconst (v := 0) hx hb dMo_operate_165 (by decide) ?_
      refine mo_putk (k1 := 0) S hT hK hP hS dMo_operate_166 (fun H locs hP hS => ?_)
      refine lv_aload_n hx hb dMo_operate_169 rfl (lv_at hl 0 rfl) ?_
      refine mo_getk S hK hP dMo_operate_170 ?_
      refine lv_if_le (tgt := 177) hx hb dMo_operate_173 (by decide) (fun _ => ?_) (fun c11 => absurd (by decide) c11)
      refine lv_iload_n hx hb dMo_operate_177 rfl (lv_at hl 1 rfl) ?_
      refine lv_bipush (v := 7) hx hb dMo_operate_178 (by decide) ?_
      refine lv_icmp_ge (tgt := 234) hx hb dMo_operate_180 (by decide) (fun c12 => absurd ((nI_leI (a := 7) (b := o) (by decide) (by omega)).mp c12) (by omega)) (fun c12 => ?_)
      refine lv_aload_n hx hb dMo_operate_183 rfl (lv_at hl 0 rfl) ?_
      refine lv_iload hx hb dMo_operate_184 (lv_at hl 8 rfl) ?_
      refine mo_putc (c1 := zNl o (L a) (L d)) S hT hK hP hS dMo_operate_186 (fun H locs hP hS => ?_)
      refine lv_iconst (v := 0) hx hb dMo_operate_189 (by decide) ?_
      refine lv_istore (lv' := [(9, .int 0), (0, .ref (T 0)), (1, .int (nI o)), (2, .int (nI b1)), (3, .int (nI a)), (4, .int (nI d)), (5, .int (nI u)), (6, .int (nI (L a))), (7, .int (nI (L d))), (8, .int (nI (zNl o (L a) (L d))))]) hx hb dMo_operate_190 hl (by decide) rfl (fun ls hl => ?_)
      have hk0 : kOperate L (mR C) b1 (nI o) (nI a) (nI d) (nI u) = 0 := by rw [hk1]; unfold kOp; rw [if_pos (by omega), if_pos mc8]
      rw [← pov_0 (fun k => zJoin o (mR C a k) (mR C d k)) (O) 0] at hP
      refine lpM_opJ l D cA T hT 0 C L O (zNl o (L a) (L d)) ok o (by omega) a ha d hd u (zNl o (L a) (L d)) (by omega) S hK (fun H locs ls hP hS hl => ?_) (zNl o (L a) (L d) + 1) 0 (by omega) (by omega) _ _ hP hS ls (lv_sub hl [1, 2, 4, 5, 6, 9, 0] rfl)
      refine lv_goto (tgt := 311) hx hb dMo_operate_231 (by decide) ?_
      refine lv_aload_n hx hb dMo_operate_311 rfl (lv_at hl 0 rfl) ?_
      refine mo_getk S hK hP dMo_operate_312 ?_
      refine lv_if_ne (tgt := 324) hx hb dMo_operate_315 (by decide) (fun c13 => absurd (by decide) c13) (fun _ => ?_)
      refine lv_aload_n hx hb dMo_operate_318 rfl (lv_at hl 0 rfl) ?_
      refine lv_iload hx hb dMo_operate_319 (lv_at hl 4 rfl) ?_
      refine mo_call (As := [.int (nI u)]) (rest := []) S (c_Mo_keep l D cA T hT 0 C L (pov (fun k => zJoin o (mR C a k) (mR C d k)) O 0 (zNl o (L a) (L d))) (zNl o (L a) (L d)) u hu (by omega)) kMo_36 ⟨rfl, rfl, Nat.le_of_ble_eq_true rfl, Nat.le_of_ble_eq_true rfl⟩ ⟨Nat.zero_le _, Nat.zero_le _⟩ (mo_ob hK hP) hP hK hS rfl hl.1 rfl (Nat.le_of_ble_eq_true rfl) dMo_operate_321 (fun H locs hP hS => ?_)
      refine W.vret hx hb hr (fun t ht hW => ⟨⟨(), rfl, trivial, moK C (pov (fun k => zJoin o (mR C a k) (mR C d k)) O 0 (zNl o (L a) (L d))) u (zNl o (L a) (L d)), va_up L u (zNl o (L a) (L d)), (pov (fun k => zJoin o (mR C a k) (mR C d k)) O 0 (zNl o (L a) (L d))), (zNl o (L a) (L d)), fun _ => ?_, fun h => absurd hk0 h, moOk_keep (moOk_O ok (pov_lt (fun k _ _ => zJoin_lt7 o (by omega) _ (ok.1 _) _ (ok.1 _)) ok.2.2)) (by omega), by rw [hk0, ht]; exact hP⟩, hS.F ht⟩) hS.2.2 dMo_operate_324
      exact moU_eq (moU_keep (by omega)) (by rw [hnv]; unfold nOp; rw [if_pos (by omega)]) (fun k hk => by rw [pov_in (Nat.zero_le _) (by rw [hnv]; unfold nOp at hk; rw [if_pos (by omega)] at hk; omega)]; unfold fOp; rw [if_pos (by omega)])
set_option maxHeartbeats 4000000 in
set_option maxRecDepth 100000 in
theorem c_Mo_operate (l : Launch) (D : va_G) (cA : ClassId) (T : Nat → Nat) (hT : moT T) (k0 : Int32) (C L O : Nat → Nat) (c0 : Nat) (ok : moOk C L O) (x1 : Int32) (b1 : Nat) (hb1 : b1 < 2) (x3 x4 x5 : Int32) : Met l yMo_operate (Cond.code yMo_operate bMo_operate 10 none :: nzG) ({ frames := 4, cells := 0, slots := 0, locals := 102 }) (va_Pc [.ref (T 0), .int x1, .int (nI b1), .int x3, .int x4, .int x5] (moP D cA (moW cA T k0 C L O c0))) (va_Qv (fun _ : Unit => True) (fun _ t => moV D cA T C L (kOperate L (mR C) b1 x1 x3 x4 x5) (ix x5) (nOp (ix x1) (mR C (ix x3)) (L (ix x3)) (mR C (ix x4)) (L (ix x4))) (fOp (ix x1) b1 (mR C (ix x3)) (L (ix x3)) (mR C (ix x4)) (L (ix x4))) t) (moA T)) 0 0 (moA T) := by
  refine nz_of (own := RM) (by decide) rfl ?_
  intro p e s m args below meth c S hr hlocks _ hv9
  obtain ⟨rfl, hP, hK⟩ := hv9
  have hS : va_S (moA T) s.heap s.heap [] := va_S.rf
  have hx := S.1
  have hb := S.2.1
  refine nz_entry (vs := [.ref (T 0), .int x1, .int (nI b1), .int x3, .int x4, .int x5]) (n := 10) (lv := [(0, .ref (T 0)), (1, .int x1), (2, .int (nI b1)), (3, .int x3), (4, .int x4), (5, .int x5)]) (Nat.le_of_ble_eq_true rfl) rfl (fun ls hl => ?_)
  refine lv_aload_n hx hb dMo_operate_0 rfl (lv_at hl 0 rfl) ?_
  refine lv_iload_n hx hb dMo_operate_1 rfl (lv_at hl 3 rfl) ?_
  refine nz_si (As := [.int x3]) (rest := [.ref (T 0)]) S (c_Mo_none l x3) kMo_33 ⟨rfl, rfl, Nat.le_of_ble_eq_true rfl, Nat.le_of_ble_eq_true rfl⟩ ⟨Nat.zero_le _, Nat.zero_le _⟩ (fun _ _ _ _ h => h) (fun _ _ _ => trivial) rfl hl.1 rfl (Nat.le_of_ble_eq_true rfl) dMo_operate_2 (fun r1 er1 => ?_)
  subst er1
  refine lv_if_ne (tgt := 24) hx hb dMo_operate_5 (by decide) (fun c2 => ?_) (fun c2 => ?_)
  · have bc2 := ifn_y c2
    refine lv_iconst (v := 1) hx hb dMo_operate_24 (by decide) ?_
    refine lv_goto (tgt := 43) hx hb dMo_operate_25 (by decide) ?_
    refine mo_putk (k1 := 1) S hT hK hP hS dMo_operate_43 (fun H locs hP hS => ?_)
    have hk0 : kOperate L (mR C) b1 x1 x3 x4 x5 = 1 := if_pos (Or.inl bc2)
    refine lv_aload_n hx hb dMo_operate_46 rfl (lv_at hl 0 rfl) ?_
    refine mo_getk S hK hP dMo_operate_47 ?_
    refine lv_if_le (tgt := 54) hx hb dMo_operate_50 (by decide) (fun c3 => absurd c3 (by decide)) (fun _ => ?_)
    exact W.vret hx hb hr (fun t ht hW => ⟨⟨(), rfl, trivial, C, L, O, c0, fun h => absurd h (by rw [hk0]; decide), fun _ => ⟨rfl, rfl⟩, ok, by rw [hk0, ht]; exact hP⟩, hS.F ht⟩) hS.2.2 dMo_operate_53
  · have bc2 := ifn_n c2
    obtain ⟨a, ha, rfl⟩ := plB_not bc2
    have ea : ix (nI a) = a := ix_nI (by omega)
    have hLa := ok.2.1 a
    refine lv_iload hx hb dMo_operate_8 (lv_at hl 4 rfl) ?_
    refine nz_si (As := [.int x4]) (rest := [.ref (T 0)]) S (c_Mo_none l x4) kMo_33 ⟨rfl, rfl, Nat.le_of_ble_eq_true rfl, Nat.le_of_ble_eq_true rfl⟩ ⟨Nat.zero_le _, Nat.zero_le _⟩ (fun _ _ _ _ h => h) (fun _ _ _ => trivial) rfl hl.1 rfl (Nat.le_of_ble_eq_true rfl) dMo_operate_10 (fun r4 er4 => ?_)
    subst er4
    refine lv_if_ne (tgt := 24) hx hb dMo_operate_13 (by decide) (fun c5 => ?_) (fun c5 => ?_)
    · have bc5 := ifn_y c5
      refine lv_iconst (v := 1) hx hb dMo_operate_24 (by decide) ?_
      refine lv_goto (tgt := 43) hx hb dMo_operate_25 (by decide) ?_
      refine mo_putk (k1 := 1) S hT hK hP hS dMo_operate_43 (fun H locs hP hS => ?_)
      have hk0 : kOperate L (mR C) b1 x1 (nI a) x4 x5 = 1 := if_pos (Or.inr (Or.inl bc5))
      refine lv_aload_n hx hb dMo_operate_46 rfl (lv_at hl 0 rfl) ?_
      refine mo_getk S hK hP dMo_operate_47 ?_
      refine lv_if_le (tgt := 54) hx hb dMo_operate_50 (by decide) (fun c6 => absurd c6 (by decide)) (fun _ => ?_)
      exact W.vret hx hb hr (fun t ht hW => ⟨⟨(), rfl, trivial, C, L, O, c0, fun h => absurd h (by rw [hk0]; decide), fun _ => ⟨rfl, rfl⟩, ok, by rw [hk0, ht]; exact hP⟩, hS.F ht⟩) hS.2.2 dMo_operate_53
    · have bc5 := ifn_n c5
      obtain ⟨d, hd, rfl⟩ := plB_not bc5
      have ed : ix (nI d) = d := ix_nI (by omega)
      have hLd := ok.2.1 d
      refine lv_iload hx hb dMo_operate_16 (lv_at hl 5 rfl) ?_
      refine nz_si (As := [.int x5]) (rest := [.ref (T 0)]) S (c_Mo_none l x5) kMo_33 ⟨rfl, rfl, Nat.le_of_ble_eq_true rfl, Nat.le_of_ble_eq_true rfl⟩ ⟨Nat.zero_le _, Nat.zero_le _⟩ (fun _ _ _ _ h => h) (fun _ _ _ => trivial) rfl hl.1 rfl (Nat.le_of_ble_eq_true rfl) dMo_operate_18 (fun r7 er7 => ?_)
      subst er7
      refine lv_if_eq (tgt := 28) hx hb dMo_operate_21 (by decide) (fun c8 => ?_) (fun c8 => ?_)
      · have bc8 := ifn_n c8
        obtain ⟨u, hu, rfl⟩ := plB_not bc8
        have eu : ix (nI u) = u := ix_nI (by omega)
        have hLu := ok.2.1 u
        refine lv_iload_n hx hb dMo_operate_28 rfl (lv_at hl 1 rfl) ?_
        refine lv_if_lt (tgt := 38) hx hb dMo_operate_29 (by decide) (fun c9 => ?_) (fun c9 => ?_)
        · refine lv_iconst (v := 2) hx hb dMo_operate_38 (by decide) ?_
          refine lv_goto (tgt := 43) hx hb dMo_operate_39 (by decide) ?_
          refine mo_putk (k1 := 2) S hT hK hP hS dMo_operate_43 (fun H locs hP hS => ?_)
          have hk0 : kOperate L (mR C) b1 x1 (nI a) (nI d) (nI u) = 2 := by unfold kOperate; rw [if_neg (fun h => h.elim bc2 (fun h => h.elim bc5 bc8)), if_pos (Or.inl c9)]
          refine lv_aload_n hx hb dMo_operate_46 rfl (lv_at hl 0 rfl) ?_
          refine mo_getk S hK hP dMo_operate_47 ?_
          refine lv_if_le (tgt := 54) hx hb dMo_operate_50 (by decide) (fun c10 => absurd c10 (by decide)) (fun _ => ?_)
          exact W.vret hx hb hr (fun t ht hW => ⟨⟨(), rfl, trivial, C, L, O, c0, fun h => absurd h (by rw [hk0]; decide), fun _ => ⟨rfl, rfl⟩, ok, by rw [hk0, ht]; exact hP⟩, hS.F ht⟩) hS.2.2 dMo_operate_53
        · refine lv_iload_n hx hb dMo_operate_32 rfl (lv_at hl 1 rfl) ?_
          refine lv_bipush (v := 13) hx hb dMo_operate_33 (by decide) ?_
          refine lv_icmp_le (tgt := 42) hx hb dMo_operate_35 (by decide) (fun c11 => ?_) (fun c11 => ?_)
          · refine lv_iconst (v := 0) hx hb dMo_operate_42 (by decide) ?_
            refine mo_putk (k1 := 0) S hT hK hP hS dMo_operate_43 (fun H locs hP hS => ?_)
            have hkd : ¬ (x1 < 0 ∨ 13 < x1) := fun h => h.elim c9 (fun q => Int32.not_lt.mpr c11 q)
            have hk1 : kOperate L (mR C) b1 x1 (nI a) (nI d) (nI u) = kOp (ix x1) b1 (mR C a) (L a) (mR C d) (L d) := by unfold kOperate; rw [if_neg (fun h => h.elim bc2 (fun h => h.elim bc5 bc8)), if_neg hkd, ea, ed]
            obtain ⟨o, ho, rfl⟩ := in_not' (N := 13) (x := x1) rfl (by decide) hkd
            have eo : ix (nI o) = o := ix_nI (by omega)
            rw [eo] at hk1
            refine lv_aload_n hx hb dMo_operate_46 rfl (lv_at hl 0 rfl) ?_
            refine mo_getk S hK hP dMo_operate_47 ?_
            refine lv_if_le (tgt := 54) hx hb dMo_operate_50 (by decide) (fun _ => ?_) (fun c12 => absurd (by decide) c12)
            refine lv_aload_n hx hb dMo_operate_54 rfl (lv_at hl 0 rfl) ?_
            refine mo_getL S hK hP dMo_operate_55 ?_
            refine lv_iload_n hx hb dMo_operate_58 rfl (lv_at hl 3 rfl) ?_
            refine mo_ldL (j := a) S hK hP ha dMo_operate_59 ?_
            refine lv_istore (lv' := [(6, .int (nI (L a))), (0, .ref (T 0)), (1, .int (nI o)), (2, .int (nI b1)), (3, .int (nI a)), (4, .int (nI d)), (5, .int (nI u))]) hx hb dMo_operate_60 hl (by decide) rfl (fun ls hl => ?_)
            refine lv_aload_n hx hb dMo_operate_62 rfl (lv_at hl 1 rfl) ?_
            refine mo_getL S hK hP dMo_operate_63 ?_
            refine lv_iload hx hb dMo_operate_66 (lv_at hl 5 rfl) ?_
            refine mo_ldL (j := d) S hK hP hd dMo_operate_68 ?_
            refine lv_istore (lv' := [(7, .int (nI (L d))), (6, .int (nI (L a))), (0, .ref (T 0)), (1, .int (nI o)), (2, .int (nI b1)), (3, .int (nI a)), (4, .int (nI d)), (5, .int (nI u))]) hx hb dMo_operate_69 hl (by decide) rfl (fun ls hl => ?_)
            refine lv_iload_n hx hb dMo_operate_71 rfl (lv_at hl 3 rfl) ?_
            refine lv_bipush (v := 7) hx hb dMo_operate_72 (by decide) ?_
            refine lv_icmp_ge (tgt := 82) hx hb dMo_operate_74 (by decide) (fun c13 => ?_) (fun c13 => ?_)
            · have mc13 : 7 ≤ o := (nI_leI (a := 7) (b := o) (by omega) (by omega)).mp c13
              refine lv_iload_n hx hb dMo_operate_82 rfl (lv_at hl 3 rfl) ?_
              refine lv_bipush (v := 9) hx hb dMo_operate_83 (by decide) ?_
              refine lv_icmp_ge (tgt := 105) hx hb dMo_operate_85 (by decide) (fun c14 => ?_) (fun c14 => ?_)
              · have mc14 : 9 ≤ o := (nI_leI (a := 9) (b := o) (by omega) (by omega)).mp c14
                refine lv_iload_n hx hb dMo_operate_105 rfl (lv_at hl 3 rfl) ?_
                refine lv_bipush (v := 9) hx hb dMo_operate_106 (by decide) ?_
                refine lv_icmp_eq (tgt := 117) hx hb dMo_operate_108 (by decide) (fun c15 => ?_) (fun c15 => ?_)
                · have mc15 : o = 9 := (nI_eq (a := o) (b := 9) (by omega) (by omega)).mp c15
                  refine lv_iload hx hb dMo_operate_117 (lv_at hl 1 rfl) ?_
                  refine lv_iload hx hb dMo_operate_119 (lv_at hl 0 rfl) ?_
                  refine lv_iadd hx hb dMo_operate_121 ?_
                  refine nz_eqi (nI_add (L a) (L d)) ?_
                  refine lv_goto (tgt := 138) hx hb dMo_operate_122 (by decide) ?_
                  refine nz_eqi (y := nI (zNl o (L a) (L d))) (by unfold zNl zLen; rw [if_neg (by omega), if_neg (by omega), if_neg (by omega), if_pos (by omega)]) ?_
                  refine lv_istore (lv' := [(8, .int (nI (zNl o (L a) (L d)))), (7, .int (nI (L d))), (6, .int (nI (L a))), (0, .ref (T 0)), (1, .int (nI o)), (2, .int (nI b1)), (3, .int (nI a)), (4, .int (nI d)), (5, .int (nI u))]) hx hb dMo_operate_138 hl (by decide) rfl (fun ls hl => ?_)
                  rw [eo, ea, ed, eu]
                  exact mo_opTail l D cA T hT C L O c0 ok o ho b1 hb1 a ha d hd u hu hk1 _ _ S hr hlocks hK hP hS ls (lv_sub hl [3, 4, 5, 6, 7, 8, 2, 1, 0] rfl)
                · have mc15 : ¬ o = 9 := fun h => c15 ((nI_eq (a := o) (b := 9) (by omega) (by omega)).mpr h)
                  refine lv_iload_n hx hb dMo_operate_111 rfl (lv_at hl 3 rfl) ?_
                  refine lv_bipush (v := 13) hx hb dMo_operate_112 (by decide) ?_
                  refine lv_icmp_ne (tgt := 125) hx hb dMo_operate_114 (by decide) (fun c16 => ?_) (fun c16 => ?_)
                  · have mc16 : ¬ o = 13 := fun h => c16 ((nI_eq (a := o) (b := 13) (by omega) (by omega)).mpr h)
                    refine lv_iload_n hx hb dMo_operate_125 rfl (lv_at hl 3 rfl) ?_
                    refine lv_bipush (v := 10) hx hb dMo_operate_126 (by decide) ?_
                    refine lv_icmp_ne (tgt := 136) hx hb dMo_operate_128 (by decide) (fun c17 => ?_) (fun c17 => ?_)
                    · have mc17 : ¬ o = 10 := fun h => c17 ((nI_eq (a := o) (b := 10) (by omega) (by omega)).mpr h)
                      refine lv_iload hx hb dMo_operate_136 (lv_at hl 0 rfl) ?_
                      refine nz_eqi (y := nI (zNl o (L a) (L d))) (by unfold zNl zLen; rw [if_neg (by omega), if_neg (by omega), if_neg (by omega), if_neg (by omega), if_neg (by omega)]) ?_
                      refine lv_istore (lv' := [(8, .int (nI (zNl o (L a) (L d)))), (7, .int (nI (L d))), (6, .int (nI (L a))), (0, .ref (T 0)), (1, .int (nI o)), (2, .int (nI b1)), (3, .int (nI a)), (4, .int (nI d)), (5, .int (nI u))]) hx hb dMo_operate_138 hl (by decide) rfl (fun ls hl => ?_)
                      rw [eo, ea, ed, eu]
                      exact mo_opTail l D cA T hT C L O c0 ok o ho b1 hb1 a ha d hd u hu hk1 _ _ S hr hlocks hK hP hS ls (lv_sub hl [3, 4, 5, 6, 7, 8, 2, 1, 0] rfl)
                    · have mc17 : o = 10 := (nI_eq (a := o) (b := 10) (by omega) (by omega)).mp c17
                      refine lv_iload hx hb dMo_operate_131 (lv_at hl 1 rfl) ?_
                      refine lv_goto (tgt := 138) hx hb dMo_operate_133 (by decide) ?_
                      refine nz_eqi (y := nI (zNl o (L a) (L d))) (by unfold zNl zLen; rw [if_neg (by omega), if_neg (by omega), if_neg (by omega), if_neg (by omega), if_pos (by omega)]) ?_
                      refine lv_istore (lv' := [(8, .int (nI (zNl o (L a) (L d)))), (7, .int (nI (L d))), (6, .int (nI (L a))), (0, .ref (T 0)), (1, .int (nI o)), (2, .int (nI b1)), (3, .int (nI a)), (4, .int (nI d)), (5, .int (nI u))]) hx hb dMo_operate_138 hl (by decide) rfl (fun ls hl => ?_)
                      rw [eo, ea, ed, eu]
                      exact mo_opTail l D cA T hT C L O c0 ok o ho b1 hb1 a ha d hd u hu hk1 _ _ S hr hlocks hK hP hS ls (lv_sub hl [3, 4, 5, 6, 7, 8, 2, 1, 0] rfl)
                  · have mc16 : o = 13 := (nI_eq (a := o) (b := 13) (by omega) (by omega)).mp c16
                    refine lv_iload hx hb dMo_operate_117 (lv_at hl 1 rfl) ?_
                    refine lv_iload hx hb dMo_operate_119 (lv_at hl 0 rfl) ?_
                    refine lv_iadd hx hb dMo_operate_121 ?_
                    refine nz_eqi (nI_add (L a) (L d)) ?_
                    refine lv_goto (tgt := 138) hx hb dMo_operate_122 (by decide) ?_
                    refine nz_eqi (y := nI (zNl o (L a) (L d))) (by unfold zNl; rw [if_neg (by omega), if_pos (by omega)]) ?_
                    refine lv_istore (lv' := [(8, .int (nI (zNl o (L a) (L d)))), (7, .int (nI (L d))), (6, .int (nI (L a))), (0, .ref (T 0)), (1, .int (nI o)), (2, .int (nI b1)), (3, .int (nI a)), (4, .int (nI d)), (5, .int (nI u))]) hx hb dMo_operate_138 hl (by decide) rfl (fun ls hl => ?_)
                    rw [eo, ea, ed, eu]
                    exact mo_opTail l D cA T hT C L O c0 ok o ho b1 hb1 a ha d hd u hu hk1 _ _ S hr hlocks hK hP hS ls (lv_sub hl [3, 4, 5, 6, 7, 8, 2, 1, 0] rfl)
              · have mc14 : o < 9 := Nat.lt_of_not_le (fun h => c14 ((nI_leI (a := 9) (b := o) (by omega) (by omega)).mpr h))
                refine lv_iload hx hb dMo_operate_88 (lv_at hl 1 rfl) ?_
                refine lv_iload hx hb dMo_operate_90 (lv_at hl 0 rfl) ?_
                refine lv_icmp_le (tgt := 100) hx hb dMo_operate_92 (by decide) (fun c18 => ?_) (fun c18 => ?_)
                · have mc18 : (L a) ≤ (L d) := (nI_leI (a := (L a)) (b := (L d)) (by omega) (by omega)).mp c18
                  refine lv_iload hx hb dMo_operate_100 (lv_at hl 0 rfl) ?_
                  refine lv_goto (tgt := 138) hx hb dMo_operate_102 (by decide) ?_
                  refine nz_eqi (y := nI (zNl o (L a) (L d))) (by unfold zNl zLen; rw [if_neg (by omega), if_neg (by omega), if_pos (by omega), Nat.max_eq_right (by omega)]) ?_
                  refine lv_istore (lv' := [(8, .int (nI (zNl o (L a) (L d)))), (7, .int (nI (L d))), (6, .int (nI (L a))), (0, .ref (T 0)), (1, .int (nI o)), (2, .int (nI b1)), (3, .int (nI a)), (4, .int (nI d)), (5, .int (nI u))]) hx hb dMo_operate_138 hl (by decide) rfl (fun ls hl => ?_)
                  rw [eo, ea, ed, eu]
                  exact mo_opTail l D cA T hT C L O c0 ok o ho b1 hb1 a ha d hd u hu hk1 _ _ S hr hlocks hK hP hS ls (lv_sub hl [3, 4, 5, 6, 7, 8, 2, 1, 0] rfl)
                · have mc18 : (L d) < (L a) := Nat.lt_of_not_le (fun h => c18 ((nI_leI (a := (L a)) (b := (L d)) (by omega) (by omega)).mpr h))
                  refine lv_iload hx hb dMo_operate_95 (lv_at hl 1 rfl) ?_
                  refine lv_goto (tgt := 138) hx hb dMo_operate_97 (by decide) ?_
                  refine nz_eqi (y := nI (zNl o (L a) (L d))) (by unfold zNl zLen; rw [if_neg (by omega), if_neg (by omega), if_pos (by omega), Nat.max_eq_left (by omega)]) ?_
                  refine lv_istore (lv' := [(8, .int (nI (zNl o (L a) (L d)))), (7, .int (nI (L d))), (6, .int (nI (L a))), (0, .ref (T 0)), (1, .int (nI o)), (2, .int (nI b1)), (3, .int (nI a)), (4, .int (nI d)), (5, .int (nI u))]) hx hb dMo_operate_138 hl (by decide) rfl (fun ls hl => ?_)
                  rw [eo, ea, ed, eu]
                  exact mo_opTail l D cA T hT C L O c0 ok o ho b1 hb1 a ha d hd u hu hk1 _ _ S hr hlocks hK hP hS ls (lv_sub hl [3, 4, 5, 6, 7, 8, 2, 1, 0] rfl)
            · have mc13 : o < 7 := Nat.lt_of_not_le (fun h => c13 ((nI_leI (a := 7) (b := o) (by omega) (by omega)).mpr h))
              refine lv_iload hx hb dMo_operate_77 (lv_at hl 1 rfl) ?_
              refine lv_goto (tgt := 138) hx hb dMo_operate_79 (by decide) ?_
              refine nz_eqi (y := nI (zNl o (L a) (L d))) (congrArg nI (show L a = zNl o (L a) (L d) from (if_pos (by omega)).symm)) ?_
              refine lv_istore (lv' := [(8, .int (nI (zNl o (L a) (L d)))), (7, .int (nI (L d))), (6, .int (nI (L a))), (0, .ref (T 0)), (1, .int (nI o)), (2, .int (nI b1)), (3, .int (nI a)), (4, .int (nI d)), (5, .int (nI u))]) hx hb dMo_operate_138 hl (by decide) rfl (fun ls hl => ?_)
              rw [eo, ea, ed, eu]
              exact mo_opTail l D cA T hT C L O c0 ok o ho b1 hb1 a ha d hd u hu hk1 _ _ S hr hlocks hK hP hS ls (lv_sub hl [3, 4, 5, 6, 7, 8, 2, 1, 0] rfl)
          · refine lv_iconst (v := 2) hx hb dMo_operate_38 (by decide) ?_
            refine lv_goto (tgt := 43) hx hb dMo_operate_39 (by decide) ?_
            refine mo_putk (k1 := 2) S hT hK hP hS dMo_operate_43 (fun H locs hP hS => ?_)
            have hk0 : kOperate L (mR C) b1 x1 (nI a) (nI d) (nI u) = 2 := by unfold kOperate; rw [if_neg (fun h => h.elim bc2 (fun h => h.elim bc5 bc8)), if_pos (Or.inr (Int32.not_le.mp c11))]
            refine lv_aload_n hx hb dMo_operate_46 rfl (lv_at hl 0 rfl) ?_
            refine mo_getk S hK hP dMo_operate_47 ?_
            refine lv_if_le (tgt := 54) hx hb dMo_operate_50 (by decide) (fun c19 => absurd c19 (by decide)) (fun _ => ?_)
            exact W.vret hx hb hr (fun t ht hW => ⟨⟨(), rfl, trivial, C, L, O, c0, fun h => absurd h (by rw [hk0]; decide), fun _ => ⟨rfl, rfl⟩, ok, by rw [hk0, ht]; exact hP⟩, hS.F ht⟩) hS.2.2 dMo_operate_53
      · have bc8 := ifn_y c8
        refine lv_iconst (v := 1) hx hb dMo_operate_24 (by decide) ?_
        refine lv_goto (tgt := 43) hx hb dMo_operate_25 (by decide) ?_
        refine mo_putk (k1 := 1) S hT hK hP hS dMo_operate_43 (fun H locs hP hS => ?_)
        have hk0 : kOperate L (mR C) b1 x1 (nI a) (nI d) x5 = 1 := if_pos (Or.inr (Or.inr bc8))
        refine lv_aload_n hx hb dMo_operate_46 rfl (lv_at hl 0 rfl) ?_
        refine mo_getk S hK hP dMo_operate_47 ?_
        refine lv_if_le (tgt := 54) hx hb dMo_operate_50 (by decide) (fun c20 => absurd c20 (by decide)) (fun _ => ?_)
        exact W.vret hx hb hr (fun t ht hW => ⟨⟨(), rfl, trivial, C, L, O, c0, fun h => absurd h (by rw [hk0]; decide), fun _ => ⟨rfl, rfl⟩, ok, by rw [hk0, ht]; exact hP⟩, hS.F ht⟩) hS.2.2 dMo_operate_53
set_option maxHeartbeats 4000000 in
set_option maxRecDepth 100000 in
theorem c_Mo_thrown (l : Launch) (D : va_G) (cA : ClassId) (T : Nat → Nat) (hT : moT T) (k0 : Int32) (C L O : Nat → Nat) (c0 : Nat)  : Met l yMo_thrown (Cond.code yMo_thrown bMo_thrown 1 (some .int) :: nzG) ({ frames := 0, cells := 0, slots := 0, locals := 0 }) (va_Pc [.ref (T 0)] (moP D cA (moW cA T k0 C L O c0))) (vp_Si (fun r => r = k0)) 0 0 (fun _ => False) := by
  refine nz_of (own := RM) (by decide) rfl ?_
  intro p e s m args below meth c S hr hlocks _ hv9
  obtain ⟨rfl, hP, hK⟩ := hv9
  have hS : va_S (moA T) s.heap s.heap [] := va_S.rf
  have hx := S.1
  have hb := S.2.1
  refine nz_entry (vs := [.ref (T 0)]) (n := 1) (lv := [(0, .ref (T 0))]) (Nat.le_of_ble_eq_true rfl) rfl (fun ls hl => ?_)
  refine lv_aload_n hx hb dMo_thrown_0 rfl (lv_at hl 0 rfl) ?_
  refine mo_getk S hK hP dMo_thrown_1 ?_
  exact W.iret (v := k0) hx hb hr (fun t ht hW => ⟨_, rfl, rfl, ht⟩) (fun q h => nomatch h) dMo_thrown_4
