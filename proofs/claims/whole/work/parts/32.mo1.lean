set_option maxHeartbeats 4000000 in
set_option maxRecDepth 100000 in
theorem c_Mo_none (l : Launch) (x1 : Int32) : Met l yMo_none (Cond.code yMo_none bMo_none 1 (some .boolean) :: nzG) ({ frames := 0, cells := 0, slots := 0, locals := 0 }) (va_Pc [.int x1] (fun _ => True)) (vp_Si (fun r => r = nI (if plB x1 then 1 else 0))) 0 0 (fun _ => False) := by
  refine nz_of (own := RM) (by decide) rfl ?_
  intro p e s m args below meth c S hr hlocks _ hv9
  obtain ⟨rfl, -⟩ := hv9
  have hx := S.1
  have hb := S.2.1
  refine nz_entry (vs := [.int x1]) (n := 1) (lv := [(0, .int x1)]) (Nat.le_of_ble_eq_true rfl) rfl (fun ls hl => ?_)
  refine lv_iload_n hx hb dMo_none_0 rfl (lv_at hl 0 rfl) ?_
  refine lv_if_lt (tgt := 10) hx hb dMo_none_1 (by decide) (fun c1 => ?_) (fun c1 => ?_)
  · refine lv_iconst (v := 1) hx hb dMo_none_10 (by decide) ?_
    refine lv_goto (tgt := 15) hx hb dMo_none_11 (by decide) ?_
    exact W.zret (v := 1) hx hb hr rfl (fun t ht hW => ⟨_, rfl, by rw [if_pos (in15.mp (Or.inl c1))]; rfl, ht⟩) (fun q h => nomatch h) dMo_none_15
  · refine lv_iload_n hx hb dMo_none_4 rfl (lv_at hl 0 rfl) ?_
    refine lv_bipush (v := 15) hx hb dMo_none_5 (by decide) ?_
    refine lv_icmp_le (tgt := 14) hx hb dMo_none_7 (by decide) (fun c2 => ?_) (fun c2 => ?_)
    · refine lv_iconst (v := 0) hx hb dMo_none_14 (by decide) ?_
      exact W.zret (v := 0) hx hb hr rfl (fun t ht hW => ⟨_, rfl, by rw [if_neg (fun q => (in15.mpr q).elim c1 (fun z => Int32.not_lt.mpr c2 z))]; rfl, ht⟩) (fun q h => nomatch h) dMo_none_15
    · refine lv_iconst (v := 1) hx hb dMo_none_10 (by decide) ?_
      refine lv_goto (tgt := 15) hx hb dMo_none_11 (by decide) ?_
      exact W.zret (v := 1) hx hb hr rfl (fun t ht hW => ⟨_, rfl, by rw [if_pos (in15.mp (Or.inr (Int32.not_le.mp c2)))]; rfl, ht⟩) (fun q h => nomatch h) dMo_none_15
set_option maxHeartbeats 4000000 in
set_option maxRecDepth 100000 in
theorem c_Mo_cell (l : Launch) (D : va_G) (cA : ClassId) (T : Nat → Nat) (hT : moT T) (k0 : Int32) (C L O : Nat → Nat) (c0 : Nat) (a : Nat) (ha : a < 16) (k : Nat) (hk : k < 64) : Met l yMo_cell (Cond.code yMo_cell bMo_cell 3 (some .int) :: nzG) ({ frames := 0, cells := 0, slots := 0, locals := 0 }) (va_Pc [.ref (T 0), .int (nI a), .int (nI k)] (moP D cA (moW cA T k0 C L O c0))) (vp_Si (fun r => r = nI (mR C a k))) 0 0 (fun _ => False) := by
  refine nz_of (own := RM) (by decide) rfl ?_
  intro p e s m args below meth c S hr hlocks _ hv9
  obtain ⟨rfl, hP, hK⟩ := hv9
  have hS : va_S (moA T) s.heap s.heap [] := va_S.rf
  have hx := S.1
  have hb := S.2.1
  refine nz_entry (vs := [.ref (T 0), .int (nI a), .int (nI k)]) (n := 3) (lv := [(0, .ref (T 0)), (1, .int (nI a)), (2, .int (nI k))]) (Nat.le_of_ble_eq_true rfl) rfl (fun ls hl => ?_)
  refine lv_aload_n hx hb dMo_cell_0 rfl (lv_at hl 0 rfl) ?_
  refine mo_getC S hK hP dMo_cell_1 ?_
  refine lv_bipush (v := 64) hx hb dMo_cell_4 (by decide) ?_
  refine lv_iload_n hx hb dMo_cell_6 rfl (lv_at hl 1 rfl) ?_
  refine lv_imul hx hb dMo_cell_7 ?_
  refine nz_eqi (pk_mul 64 a) ?_
  refine lv_iload_n hx hb dMo_cell_8 rfl (lv_at hl 2 rfl) ?_
  refine lv_iadd hx hb dMo_cell_9 ?_
  refine nz_eqi (nI_add (64 * a) k) ?_
  refine mo_ldC (j := 64 * a + k) S hK hP (by omega) dMo_cell_10 ?_
  exact W.iret (v := nI (C (64 * a + k))) hx hb hr (fun t ht hW => ⟨_, rfl, rfl, ht⟩) (fun q h => nomatch h) dMo_cell_11
set_option maxHeartbeats 4000000 in
set_option maxRecDepth 100000 in
theorem lpM_keep {p : Program} {e : Env} {s : State} {m : MethodId} {args : Array Value} {below : List Frame} {meth : Method} {c : Code} {Q : State → Prop} (l : Launch) (D : va_G) (cA : ClassId) (T : Nat → Nat) (hT : moT T) (k0 : Int32) (C L O : Nat → Nat) (c0 : Nat) (u : Nat) (hu : u < 16) (hc : c0 ≤ 64) (S : CallFix p m c bMo_keep 3 s args nzG RM) (hK : va_K D vwCl (moTy cA) s) (kk : ∀ (H : Heap) (locs : List Loc) (ls : Array Slot), va_P D vwCl (moW cA T k0 (pov (fun j => if j - 64 * u < c0 then O (j - 64 * u) else 0) C (64 * u) 64) (va_up L u c0) O c0) H → va_S (moA T) s.heap H locs → W p l e ({ frames := 0, cells := 0, slots := 0, locals := 0 }) s m args below meth c H locs 0 0 Q (F0 m 53 ls [])) : ∀ (fuel j : Nat), j ≤ 64 → 64 < j + fuel → ∀ (H : Heap) (locs : List Loc), va_P D vwCl (moW cA T k0 (pov (fun j => if j - 64 * u < c0 then O (j - 64 * u) else 0) C (64 * u) j) (va_up L u c0) O c0) H → va_S (moA T) s.heap H locs → ∀ (ls : Array Slot), lv_has ls 3 [(0, .ref (T 0)), (1, .int (nI u)), (2, .int (nI j))] → W p l e ({ frames := 0, cells := 0, slots := 0, locals := 0 }) s m args below meth c H locs 0 0 Q (F0 m 12 ls []) := by
  have hx := S.1
  have hb := S.2.1
  intro fuel
  induction fuel with
  | zero =>
    intro j hj hfu
    exact absurd hfu (by omega)
  | succ fuel ih =>
    intro j hj hfu H locs hP hS ls hl
    refine lv_iload_n hx hb dMo_keep_12 rfl (lv_at hl 2 rfl) ?_
    refine lv_bipush (v := 64) hx hb dMo_keep_13 (by decide) ?_
    refine lv_icmp_ge (tgt := 53) hx hb dMo_keep_15 (by decide) (fun c1 => ?_) (fun c1 => ?_)
    · have mc1 : 64 ≤ j := (nI_leI (a := 64) (b := j) (by omega) (by omega)).mp c1
      obtain rfl : j = 64 := by omega
      exact kk H locs ls hP hS
    · have mc1 : j < 64 := Nat.lt_of_not_le (fun h => c1 ((nI_leI (a := 64) (b := j) (by omega) (by omega)).mpr h))
      refine lv_aload_n hx hb dMo_keep_18 rfl (lv_at hl 0 rfl) ?_
      refine mo_getC S hK hP dMo_keep_19 ?_
      refine lv_bipush (v := 64) hx hb dMo_keep_22 (by decide) ?_
      refine lv_iload_n hx hb dMo_keep_24 rfl (lv_at hl 1 rfl) ?_
      refine lv_imul hx hb dMo_keep_25 ?_
      refine nz_eqi (pk_mul 64 u) ?_
      refine lv_iload_n hx hb dMo_keep_26 rfl (lv_at hl 2 rfl) ?_
      refine lv_iadd hx hb dMo_keep_27 ?_
      refine nz_eqi (nI_add (64 * u) j) ?_
      refine lv_iload_n hx hb dMo_keep_28 rfl (lv_at hl 2 rfl) ?_
      refine lv_aload_n hx hb dMo_keep_29 rfl (lv_at hl 0 rfl) ?_
      refine mo_getc S hK hP dMo_keep_30 ?_
      refine lv_icmp_ge (tgt := 45) hx hb dMo_keep_33 (by decide) (fun c2 => ?_) (fun c2 => ?_)
      · have mc2 : c0 ≤ j := (nI_leI (a := c0) (b := j) (by omega) (by omega)).mp c2
        refine lv_iconst (v := 0) hx hb dMo_keep_45 (by decide) ?_
        refine nz_eqi (y := nI (if j < c0 then O j else 0)) (by rw [if_neg (Nat.not_lt.mpr mc2)]; rfl) ?_
        refine mo_stC (j := 64 * u + j) (v := if j < c0 then O j else 0) S hT hK hP hS (by omega) dMo_keep_46 (fun H locs hP hS => ?_)
        rw [moK_s] at hP
        refine lv_iinc (v := nI (j + 1)) (lv' := [(2, .int (nI (j + 1))), (0, .ref (T 0)), (1, .int (nI u))]) hx hb dMo_keep_47 hl (k := 2) rfl (nI_1 j) (by decide) rfl (fun ls hl => ?_)
        refine lv_goto (tgt := 12) hx hb dMo_keep_50 (by decide) ?_
        exact ih (j + 1) (by omega) (by omega) _ _ hP hS ls (lv_sub hl [1, 2, 0] rfl)
      · have mc2 : j < c0 := Nat.lt_of_not_le (fun h => c2 ((nI_leI (a := c0) (b := j) (by omega) (by omega)).mpr h))
        refine lv_aload_n hx hb dMo_keep_36 rfl (lv_at hl 0 rfl) ?_
        refine mo_getO S hK hP dMo_keep_37 ?_
        refine lv_iload_n hx hb dMo_keep_40 rfl (lv_at hl 2 rfl) ?_
        refine mo_ldO (j := j) S hK hP (by omega) dMo_keep_41 ?_
        refine lv_goto (tgt := 46) hx hb dMo_keep_42 (by decide) ?_
        refine nz_eqi (y := nI (if j < c0 then O j else 0)) (by rw [if_pos mc2]) ?_
        refine mo_stC (j := 64 * u + j) (v := if j < c0 then O j else 0) S hT hK hP hS (by omega) dMo_keep_46 (fun H locs hP hS => ?_)
        rw [moK_s] at hP
        refine lv_iinc (v := nI (j + 1)) (lv' := [(2, .int (nI (j + 1))), (0, .ref (T 0)), (1, .int (nI u))]) hx hb dMo_keep_47 hl (k := 2) rfl (nI_1 j) (by decide) rfl (fun ls hl => ?_)
        refine lv_goto (tgt := 12) hx hb dMo_keep_50 (by decide) ?_
        exact ih (j + 1) (by omega) (by omega) _ _ hP hS ls (lv_sub hl [1, 2, 0] rfl)
set_option maxHeartbeats 4000000 in
set_option maxRecDepth 100000 in
theorem c_Mo_keep (l : Launch) (D : va_G) (cA : ClassId) (T : Nat → Nat) (hT : moT T) (k0 : Int32) (C L O : Nat → Nat) (c0 : Nat) (u : Nat) (hu : u < 16) (hc : c0 ≤ 64) : Met l yMo_keep (Cond.code yMo_keep bMo_keep 3 none :: nzG) ({ frames := 0, cells := 0, slots := 0, locals := 0 }) (va_Pc [.ref (T 0), .int (nI u)] (moP D cA (moW cA T k0 C L O c0))) (va_Qv (fun _ : Unit => True) (fun _ t => va_P D vwCl (moW cA T k0 (moK C O u c0) (va_up L u c0) O c0) t.heap) (moA T)) 0 0 (moA T) := by
  refine nz_of (own := RM) (by decide) rfl ?_
  intro p e s m args below meth c S hr hlocks _ hv9
  obtain ⟨rfl, hP, hK⟩ := hv9
  have hS : va_S (moA T) s.heap s.heap [] := va_S.rf
  have hx := S.1
  have hb := S.2.1
  refine nz_entry (vs := [.ref (T 0), .int (nI u)]) (n := 3) (lv := [(0, .ref (T 0)), (1, .int (nI u))]) (Nat.le_of_ble_eq_true rfl) rfl (fun ls hl => ?_)
  refine lv_aload_n hx hb dMo_keep_0 rfl (lv_at hl 0 rfl) ?_
  refine mo_getL S hK hP dMo_keep_1 ?_
  refine lv_iload_n hx hb dMo_keep_4 rfl (lv_at hl 1 rfl) ?_
  refine lv_aload_n hx hb dMo_keep_5 rfl (lv_at hl 0 rfl) ?_
  refine mo_getc S hK hP dMo_keep_6 ?_
  refine mo_stL (j := u) (v := c0) S hT hK hP hS (by omega) dMo_keep_9 (fun H locs hP hS => ?_)
  refine lv_iconst (v := 0) hx hb dMo_keep_10 (by decide) ?_
  refine lv_istore_n (lv' := [(2, .int 0), (0, .ref (T 0)), (1, .int (nI u))]) hx hb dMo_keep_11 rfl hl (by decide) rfl (fun ls hl => ?_)
  have hP : va_P D vwCl (moW cA T k0 C (va_up L u c0) O c0) H := hP
  rw [← pov_0 (fun j => if j - 64 * u < c0 then O (j - 64 * u) else 0) C (64 * u)] at hP
  refine lpM_keep l D cA T hT k0 C L O c0 u hu hc S hK (fun H locs ls hP hS => ?_) 65 0 (by omega) (by omega) _ _ hP hS ls (lv_sub hl [1, 2, 0] rfl)
  exact W.vret hx hb hr (fun t ht hW => ⟨⟨(), rfl, trivial, (show va_P D vwCl _ t.heap by rw [ht]; exact hP)⟩, hS.F ht⟩) hS.2.2 dMo_keep_53
set_option maxHeartbeats 4000000 in
set_option maxRecDepth 100000 in
theorem lpM_fill {p : Program} {e : Env} {s : State} {m : MethodId} {args : Array Value} {below : List Frame} {meth : Method} {c : Code} {Q : State → Prop} (l : Launch) (D : va_G) (cA : ClassId) (T : Nat → Nat) (hT : moT T) (k0 : Int32) (C L O : Nat → Nat) (c0 : Nat) (u : Nat) (N : Nat) (v : Nat) (hN : N ≤ 64) (S : CallFix p m c bMo_fill 5 s args nzG RM) (hK : va_K D vwCl (moTy cA) s) (kk : ∀ (H : Heap) (locs : List Loc) (ls : Array Slot), va_P D vwCl (moW cA T k0 C L (pov (fun _ => v) O 0 N) c0) H → va_S (moA T) s.heap H locs → lv_has ls 5 [(0, .ref (T 0)), (1, .int (nI u)), (2, .int (nI N)), (3, .int (nI v)), (4, .int (nI N))] → W p l e ({ frames := 1, cells := 0, slots := 0, locals := 22 }) s m args below meth c H locs 0 0 Q (F0 m 76 ls [])) : ∀ (fuel j : Nat), j ≤ N → N < j + fuel → ∀ (H : Heap) (locs : List Loc), va_P D vwCl (moW cA T k0 C L (pov (fun _ => v) O 0 j) c0) H → va_S (moA T) s.heap H locs → ∀ (ls : Array Slot), lv_has ls 5 [(0, .ref (T 0)), (1, .int (nI u)), (2, .int (nI N)), (3, .int (nI v)), (4, .int (nI j))] → W p l e ({ frames := 1, cells := 0, slots := 0, locals := 22 }) s m args below meth c H locs 0 0 Q (F0 m 56 ls []) := by
  have hx := S.1
  have hb := S.2.1
  intro fuel
  induction fuel with
  | zero =>
    intro j hj hfu
    exact absurd hfu (by omega)
  | succ fuel ih =>
    intro j hj hfu H locs hP hS ls hl
    refine lv_iload hx hb dMo_fill_56 (lv_at hl 4 rfl) ?_
    refine lv_iload_n hx hb dMo_fill_58 rfl (lv_at hl 2 rfl) ?_
    refine lv_icmp_ge (tgt := 76) hx hb dMo_fill_59 (by decide) (fun c1 => ?_) (fun c1 => ?_)
    · have mc1 : N ≤ j := (nI_leI (a := N) (b := j) (by omega) (by omega)).mp c1
      obtain rfl : j = N := by omega
      exact kk H locs ls hP hS (lv_sub hl [0, 1, 2, 3, 4] rfl)
    · have mc1 : j < N := Nat.lt_of_not_le (fun h => c1 ((nI_leI (a := N) (b := j) (by omega) (by omega)).mpr h))
      refine lv_aload_n hx hb dMo_fill_62 rfl (lv_at hl 0 rfl) ?_
      refine mo_getO S hK hP dMo_fill_63 ?_
      refine lv_iload hx hb dMo_fill_66 (lv_at hl 4 rfl) ?_
      refine lv_iload_n hx hb dMo_fill_68 rfl (lv_at hl 3 rfl) ?_
      refine mo_stO (j := j) (v := (fun _ => v) j) S hT hK hP hS (by omega) dMo_fill_69 (fun H locs hP hS => ?_)
      rw [pov_s0] at hP
      refine lv_iinc (v := nI (j + 1)) (lv' := [(4, .int (nI (j + 1))), (0, .ref (T 0)), (1, .int (nI u)), (2, .int (nI N)), (3, .int (nI v))]) hx hb dMo_fill_70 hl (k := 4) rfl (nI_1 j) (by decide) rfl (fun ls hl => ?_)
      refine lv_goto (tgt := 56) hx hb dMo_fill_73 (by decide) ?_
      exact ih (j + 1) (by omega) (by omega) _ _ hP hS ls (lv_sub hl [1, 2, 3, 4, 0] rfl)
set_option maxHeartbeats 4000000 in
set_option maxRecDepth 100000 in
theorem c_Mo_fill (l : Launch) (D : va_G) (cA : ClassId) (T : Nat → Nat) (hT : moT T) (k0 : Int32) (C L O : Nat → Nat) (c0 : Nat) (ok : moOk C L O) (x1 x2 x3 : Int32) : Met l yMo_fill (Cond.code yMo_fill bMo_fill 5 none :: nzG) ({ frames := 1, cells := 0, slots := 0, locals := 22 }) (va_Pc [.ref (T 0), .int x1, .int x2, .int x3] (moP D cA (moW cA T k0 C L O c0))) (va_Qv (fun _ : Unit => True) (fun _ t => moV D cA T C L (kFill x1 x2 x3) (ix x1) (ix x2) (fun _ => ix x3) t) (moA T)) 0 0 (moA T) := by
  refine nz_of (own := RM) (by decide) rfl ?_
  intro p e s m args below meth c S hr hlocks _ hv9
  obtain ⟨rfl, hP, hK⟩ := hv9
  have hS : va_S (moA T) s.heap s.heap [] := va_S.rf
  have hx := S.1
  have hb := S.2.1
  refine nz_entry (vs := [.ref (T 0), .int x1, .int x2, .int x3]) (n := 5) (lv := [(0, .ref (T 0)), (1, .int x1), (2, .int x2), (3, .int x3)]) (Nat.le_of_ble_eq_true rfl) rfl (fun ls hl => ?_)
  refine lv_aload_n hx hb dMo_fill_0 rfl (lv_at hl 0 rfl) ?_
  refine lv_iload_n hx hb dMo_fill_1 rfl (lv_at hl 1 rfl) ?_
  refine nz_si (As := [.int x1]) (rest := [.ref (T 0)]) S (c_Mo_none l x1) kMo_33 ⟨rfl, rfl, Nat.le_of_ble_eq_true rfl, Nat.le_of_ble_eq_true rfl⟩ ⟨Nat.zero_le _, Nat.zero_le _⟩ (fun _ _ _ _ h => h) (fun _ _ _ => trivial) rfl hl.1 rfl (Nat.le_of_ble_eq_true rfl) dMo_fill_2 (fun r1 er1 => ?_)
  subst er1
  refine lv_if_eq (tgt := 12) hx hb dMo_fill_5 (by decide) (fun c2 => ?_) (fun c2 => ?_)
  · have bc2 := ifn_n c2
    obtain ⟨u, hu, rfl⟩ := plB_not bc2
    have eu : ix (nI u) = u := ix_nI (by omega)
    refine lv_iload_n hx hb dMo_fill_12 rfl (lv_at hl 2 rfl) ?_
    refine lv_if_lt (tgt := 32) hx hb dMo_fill_13 (by decide) (fun c3 => ?_) (fun c3 => ?_)
    · refine lv_iconst (v := 2) hx hb dMo_fill_32 (by decide) ?_
      refine lv_goto (tgt := 37) hx hb dMo_fill_33 (by decide) ?_
      refine mo_putk (k1 := 2) S hT hK hP hS dMo_fill_37 (fun H locs hP hS => ?_)
      have hk0 : kFill (nI u) x2 x3 = 2 := by unfold kFill; rw [if_neg bc2, if_pos (Or.inl (Or.inl c3))]
      refine lv_aload_n hx hb dMo_fill_40 rfl (lv_at hl 0 rfl) ?_
      refine mo_getk S hK hP dMo_fill_41 ?_
      refine lv_if_le (tgt := 48) hx hb dMo_fill_44 (by decide) (fun c4 => absurd c4 (by decide)) (fun _ => ?_)
      exact W.vret hx hb hr (fun t ht hW => ⟨⟨(), rfl, trivial, C, L, O, c0, fun h => absurd h (by rw [hk0]; decide), fun _ => ⟨rfl, rfl⟩, ok, by rw [hk0, ht]; exact hP⟩, hS.F ht⟩) hS.2.2 dMo_fill_47
    · refine lv_iload_n hx hb dMo_fill_16 rfl (lv_at hl 2 rfl) ?_
      refine lv_bipush (v := 64) hx hb dMo_fill_17 (by decide) ?_
      refine lv_icmp_gt (tgt := 32) hx hb dMo_fill_19 (by decide) (fun c5 => ?_) (fun c5 => ?_)
      · refine lv_iconst (v := 2) hx hb dMo_fill_32 (by decide) ?_
        refine lv_goto (tgt := 37) hx hb dMo_fill_33 (by decide) ?_
        refine mo_putk (k1 := 2) S hT hK hP hS dMo_fill_37 (fun H locs hP hS => ?_)
        have hk0 : kFill (nI u) x2 x3 = 2 := by unfold kFill; rw [if_neg bc2, if_pos (Or.inl (Or.inr c5))]
        refine lv_aload_n hx hb dMo_fill_40 rfl (lv_at hl 0 rfl) ?_
        refine mo_getk S hK hP dMo_fill_41 ?_
        refine lv_if_le (tgt := 48) hx hb dMo_fill_44 (by decide) (fun c6 => absurd c6 (by decide)) (fun _ => ?_)
        exact W.vret hx hb hr (fun t ht hW => ⟨⟨(), rfl, trivial, C, L, O, c0, fun h => absurd h (by rw [hk0]; decide), fun _ => ⟨rfl, rfl⟩, ok, by rw [hk0, ht]; exact hP⟩, hS.F ht⟩) hS.2.2 dMo_fill_47
      · refine lv_iload_n hx hb dMo_fill_22 rfl (lv_at hl 3 rfl) ?_
        refine lv_if_lt (tgt := 32) hx hb dMo_fill_23 (by decide) (fun c7 => ?_) (fun c7 => ?_)
        · refine lv_iconst (v := 2) hx hb dMo_fill_32 (by decide) ?_
          refine lv_goto (tgt := 37) hx hb dMo_fill_33 (by decide) ?_
          refine mo_putk (k1 := 2) S hT hK hP hS dMo_fill_37 (fun H locs hP hS => ?_)
          have hk0 : kFill (nI u) x2 x3 = 2 := by unfold kFill; rw [if_neg bc2, if_pos (Or.inr (Or.inl c7))]
          refine lv_aload_n hx hb dMo_fill_40 rfl (lv_at hl 0 rfl) ?_
          refine mo_getk S hK hP dMo_fill_41 ?_
          refine lv_if_le (tgt := 48) hx hb dMo_fill_44 (by decide) (fun c8 => absurd c8 (by decide)) (fun _ => ?_)
          exact W.vret hx hb hr (fun t ht hW => ⟨⟨(), rfl, trivial, C, L, O, c0, fun h => absurd h (by rw [hk0]; decide), fun _ => ⟨rfl, rfl⟩, ok, by rw [hk0, ht]; exact hP⟩, hS.F ht⟩) hS.2.2 dMo_fill_47
        · refine lv_iload_n hx hb dMo_fill_26 rfl (lv_at hl 3 rfl) ?_
          refine lv_bipush (v := 8) hx hb dMo_fill_27 (by decide) ?_
          refine lv_icmp_le (tgt := 36) hx hb dMo_fill_29 (by decide) (fun c9 => ?_) (fun c9 => ?_)
          · refine lv_iconst (v := 0) hx hb dMo_fill_36 (by decide) ?_
            refine mo_putk (k1 := 0) S hT hK hP hS dMo_fill_37 (fun H locs hP hS => ?_)
            have hk0 : kFill (nI u) x2 x3 = 0 := by unfold kFill; rw [if_neg bc2, if_neg (fun h => h.elim (fun h => h.elim c3 c5) (fun h => h.elim c7 (fun q => Int32.not_lt.mpr c9 q)))]
            obtain ⟨N, hN, rfl⟩ := lenB_not (fun h => h.elim c3 c5)
            have eN : ix (nI N) = N := ix_nI (by omega)
            obtain ⟨v, hv, rfl⟩ := valB_not (fun h => h.elim c7 (fun q => Int32.not_lt.mpr c9 q))
            have ev : ix (nI v) = v := ix_nI (by omega)
            refine lv_aload_n hx hb dMo_fill_40 rfl (lv_at hl 0 rfl) ?_
            refine mo_getk S hK hP dMo_fill_41 ?_
            refine lv_if_le (tgt := 48) hx hb dMo_fill_44 (by decide) (fun _ => ?_) (fun c10 => absurd (by decide) c10)
            refine lv_aload_n hx hb dMo_fill_48 rfl (lv_at hl 0 rfl) ?_
            refine lv_iload_n hx hb dMo_fill_49 rfl (lv_at hl 2 rfl) ?_
            refine mo_putc (c1 := N) S hT hK hP hS dMo_fill_50 (fun H locs hP hS => ?_)
            refine lv_iconst (v := 0) hx hb dMo_fill_53 (by decide) ?_
            refine lv_istore (lv' := [(4, .int 0), (0, .ref (T 0)), (1, .int (nI u)), (2, .int (nI N)), (3, .int (nI v))]) hx hb dMo_fill_54 hl (by decide) rfl (fun ls hl => ?_)
            rw [← pov_0 (fun _ => v) (O) 0] at hP
            refine lpM_fill l D cA T hT 0 C L O N u N v hN S hK (fun H locs ls hP hS hl => ?_) (N + 1) 0 (by omega) (by omega) _ _ hP hS ls (lv_sub hl [1, 2, 3, 4, 0] rfl)
            refine lv_aload_n hx hb dMo_fill_76 rfl (lv_at hl 0 rfl) ?_
            refine lv_iload_n hx hb dMo_fill_77 rfl (lv_at hl 1 rfl) ?_
            refine mo_call (As := [.int (nI u)]) (rest := []) S (c_Mo_keep l D cA T hT 0 C L (pov (fun _ => v) O 0 N) N u hu hN) kMo_36 ⟨rfl, rfl, Nat.le_of_ble_eq_true rfl, Nat.le_of_ble_eq_true rfl⟩ ⟨Nat.zero_le _, Nat.zero_le _⟩ (mo_ob hK hP) hP hK hS rfl hl.1 rfl (Nat.le_of_ble_eq_true rfl) dMo_fill_78 (fun H locs hP hS => ?_)
            refine W.vret hx hb hr (fun t ht hW => ⟨⟨(), rfl, trivial, moK C (pov (fun _ => v) O 0 N) u N, va_up L u N, (pov (fun _ => v) O 0 N), N, fun _ => ?_, fun h => absurd hk0 h, moOk_keep (moOk_O ok (pov_lt (fun _ _ _ => hv) ok.2.2)) hN, by rw [hk0, ht]; exact hP⟩, hS.F ht⟩) hS.2.2 dMo_fill_81
            rw [eu]
            exact moU_eq (moU_keep hN) (by rw [eN]) (by rw [eN, ev]; exact fun k hk => pov_in (Nat.zero_le _) (by omega))
          · refine lv_iconst (v := 2) hx hb dMo_fill_32 (by decide) ?_
            refine lv_goto (tgt := 37) hx hb dMo_fill_33 (by decide) ?_
            refine mo_putk (k1 := 2) S hT hK hP hS dMo_fill_37 (fun H locs hP hS => ?_)
            have hk0 : kFill (nI u) x2 x3 = 2 := by unfold kFill; rw [if_neg bc2, if_pos (Or.inr (Or.inr (Int32.not_le.mp c9)))]
            refine lv_aload_n hx hb dMo_fill_40 rfl (lv_at hl 0 rfl) ?_
            refine mo_getk S hK hP dMo_fill_41 ?_
            refine lv_if_le (tgt := 48) hx hb dMo_fill_44 (by decide) (fun c11 => absurd c11 (by decide)) (fun _ => ?_)
            exact W.vret hx hb hr (fun t ht hW => ⟨⟨(), rfl, trivial, C, L, O, c0, fun h => absurd h (by rw [hk0]; decide), fun _ => ⟨rfl, rfl⟩, ok, by rw [hk0, ht]; exact hP⟩, hS.F ht⟩) hS.2.2 dMo_fill_47
  · have bc2 := ifn_y c2
    refine lv_iconst (v := 1) hx hb dMo_fill_8 (by decide) ?_
    refine lv_goto (tgt := 37) hx hb dMo_fill_9 (by decide) ?_
    refine mo_putk (k1 := 1) S hT hK hP hS dMo_fill_37 (fun H locs hP hS => ?_)
    have hk0 : kFill x1 x2 x3 = 1 := by unfold kFill; rw [if_pos bc2]
    refine lv_aload_n hx hb dMo_fill_40 rfl (lv_at hl 0 rfl) ?_
    refine mo_getk S hK hP dMo_fill_41 ?_
    refine lv_if_le (tgt := 48) hx hb dMo_fill_44 (by decide) (fun c12 => absurd c12 (by decide)) (fun _ => ?_)
    exact W.vret hx hb hr (fun t ht hW => ⟨⟨(), rfl, trivial, C, L, O, c0, fun h => absurd h (by rw [hk0]; decide), fun _ => ⟨rfl, rfl⟩, ok, by rw [hk0, ht]; exact hP⟩, hS.F ht⟩) hS.2.2 dMo_fill_47
