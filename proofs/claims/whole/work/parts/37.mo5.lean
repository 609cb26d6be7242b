set_option maxHeartbeats 4000000 in
set_option maxRecDepth 100000 in
theorem lpM_change {p : Program} {e : Env} {s : State} {m : MethodId} {args : Array Value} {below : List Frame} {meth : Method} {c : Code} {Q : State → Prop} (l : Launch) (D : va_G) (cA : ClassId) (T : Nat → Nat) (hT : moT T) (k0 : Int32) (C L O : Nat → Nat) (c0 : Nat) (ok : moOk C L O) (o : Nat) (ho : o < 5) (a : Nat) (ha : a < 16) (u : Nat) (hN : c0 ≤ 64) (S : CallFix p m c bMo_change 6 s args nzG RM) (hK : va_K D vwCl (moTy cA) s) (kk : ∀ (H : Heap) (locs : List Loc) (ls : Array Slot), va_P D vwCl (moW cA T k0 C L (pov (fun k => if o = 4 then zNot (mR C a k) else zStrip o (mR C a k)) O 0 c0) c0) H → va_S (moA T) s.heap H locs → lv_has ls 6 [(0, .ref (T 0)), (1, .int (nI o)), (2, .int (nI a)), (3, .int (nI u)), (4, .int (nI c0))] → W p l e ({ frames := 3, cells := 0, slots := 0, locals := 63 }) s m args below meth c H locs 0 0 Q (F0 m 114 ls [])) : ∀ (fuel j : Nat), j ≤ c0 → c0 < j + fuel → ∀ (H : Heap) (locs : List Loc), va_P D vwCl (moW cA T k0 C L (pov (fun k => if o = 4 then zNot (mR C a k) else zStrip o (mR C a k)) O 0 j) c0) H → va_S (moA T) s.heap H locs → ∀ (ls : Array Slot), lv_has ls 6 [(0, .ref (T 0)), (1, .int (nI o)), (2, .int (nI a)), (3, .int (nI u)), (4, .int (nI j))] → W p l e ({ frames := 3, cells := 0, slots := 0, locals := 63 }) s m args below meth c H locs 0 0 Q (F0 m 63 ls []) := by
  have hx := S.1
  have hb := S.2.1
  intro fuel
  induction fuel with
  | zero =>
    intro j hj hfu
    exact absurd hfu (by omega)
  | succ fuel ih =>
    intro j hj hfu H locs hP hS ls hl
    refine lv_iload hx hb dMo_change_63 (lv_at hl 4 rfl) ?_
    refine lv_aload_n hx hb dMo_change_65 rfl (lv_at hl 0 rfl) ?_
    refine mo_getc S hK hP dMo_change_66 ?_
    refine lv_icmp_ge (tgt := 114) hx hb dMo_change_69 (by decide) (fun c1 => ?_) (fun c1 => ?_)
    · have mc1 : c0 ≤ j := (nI_leI (a := c0) (b := j) (by omega) (by omega)).mp c1
      obtain rfl : j = c0 := by omega
      exact kk H locs ls hP hS (lv_sub hl [0, 1, 2, 3, 4] rfl)
    · have mc1 : j < c0 := Nat.lt_of_not_le (fun h => c1 ((nI_leI (a := c0) (b := j) (by omega) (by omega)).mpr h))
      refine lv_aload_n hx hb dMo_change_72 rfl (lv_at hl 0 rfl) ?_
      refine mo_getO S hK hP dMo_change_73 ?_
      refine lv_iload hx hb dMo_change_76 (lv_at hl 4 rfl) ?_
      refine lv_iload_n hx hb dMo_change_78 rfl (lv_at hl 1 rfl) ?_
      refine lv_iconst (v := 4) hx hb dMo_change_79 (by decide) ?_
      refine lv_icmp_ne (tgt := 96) hx hb dMo_change_80 (by decide) (fun c2 => ?_) (fun c2 => ?_)
      · have mc2 : ¬ o = 4 := fun h => c2 ((nI_eq (a := o) (b := 4) (by omega) (by omega)).mpr h)
        refine lv_iload_n hx hb dMo_change_96 rfl (lv_at hl 1 rfl) ?_
        refine lv_aload_n hx hb dMo_change_97 rfl (lv_at hl 0 rfl) ?_
        refine lv_iload_n hx hb dMo_change_98 rfl (lv_at hl 2 rfl) ?_
        refine lv_iload hx hb dMo_change_99 (lv_at hl 4 rfl) ?_
        refine nz_vi (As := [.int (nI a), .int (nI j)]) (rest := [.int (nI o), .int (nI j), .ref (T 3)]) S (c_Mo_cell l D cA T hT k0 C L (pov (fun k => if o = 4 then zNot (mR C a k) else zStrip o (mR C a k)) O 0 j) c0 a ha j (by omega)) kMo_40 ⟨rfl, rfl, Nat.le_of_ble_eq_true rfl, Nat.le_of_ble_eq_true rfl⟩ ⟨Nat.zero_le _, Nat.zero_le _⟩ moP.bl (mo_ob hK hP) (moP.to hP hK) rfl hl.1 rfl (Nat.le_of_ble_eq_true rfl) dMo_change_101 (fun r3 er3 => ?_)
        subst er3
        refine nz_si (As := [.int (nI o), .int (nI (mR C a j))]) (rest := [.int (nI j), .ref (T 3)]) S (c_Mo_strip l o (by omega) (mR C a j) (ok.1 _)) kMo_92 ⟨rfl, rfl, Nat.le_of_ble_eq_true rfl, Nat.le_of_ble_eq_true rfl⟩ ⟨Nat.zero_le _, Nat.zero_le _⟩ (fun _ _ _ _ h => h) (fun _ _ _ => trivial) rfl hl.1 rfl (Nat.le_of_ble_eq_true rfl) dMo_change_104 (fun r4 er4 => ?_)
        subst er4
        refine nz_eqi (y := nI ((fun k => if o = 4 then zNot (mR C a k) else zStrip o (mR C a k)) j)) (by show _ = nI (if o = 4 then zNot (mR C a j) else zStrip o (mR C a j)); rw [if_neg mc2]) ?_
        refine mo_stO (j := j) (v := (fun k => if o = 4 then zNot (mR C a k) else zStrip o (mR C a k)) j) S hT hK hP hS (by omega) dMo_change_107 (fun H locs hP hS => ?_)
        rw [pov_s0] at hP
        refine lv_iinc (v := nI (j + 1)) (lv' := [(4, .int (nI (j + 1))), (0, .ref (T 0)), (1, .int (nI o)), (2, .int (nI a)), (3, .int (nI u))]) hx hb dMo_change_108 hl (k := 4) rfl (nI_1 j) (by decide) rfl (fun ls hl => ?_)
        refine lv_goto (tgt := 63) hx hb dMo_change_111 (by decide) ?_
        exact ih (j + 1) (by omega) (by omega) _ _ hP hS ls (lv_sub hl [1, 2, 3, 4, 0] rfl)
      · have mc2 : o = 4 := (nI_eq (a := o) (b := 4) (by omega) (by omega)).mp c2
        refine lv_aload_n hx hb dMo_change_83 rfl (lv_at hl 0 rfl) ?_
        refine lv_iload_n hx hb dMo_change_84 rfl (lv_at hl 2 rfl) ?_
        refine lv_iload hx hb dMo_change_85 (lv_at hl 4 rfl) ?_
        refine nz_vi (As := [.int (nI a), .int (nI j)]) (rest := [.int (nI j), .ref (T 3)]) S (c_Mo_cell l D cA T hT k0 C L (pov (fun k => if o = 4 then zNot (mR C a k) else zStrip o (mR C a k)) O 0 j) c0 a ha j (by omega)) kMo_40 ⟨rfl, rfl, Nat.le_of_ble_eq_true rfl, Nat.le_of_ble_eq_true rfl⟩ ⟨Nat.zero_le _, Nat.zero_le _⟩ moP.bl (mo_ob hK hP) (moP.to hP hK) rfl hl.1 rfl (Nat.le_of_ble_eq_true rfl) dMo_change_87 (fun r5 er5 => ?_)
        subst er5
        refine nz_si (As := [.int (nI (mR C a j))]) (rest := [.int (nI j), .ref (T 3)]) S (c_Mo_not l (mR C a j) (ok.1 _)) kMo_72 ⟨rfl, rfl, Nat.le_of_ble_eq_true rfl, Nat.le_of_ble_eq_true rfl⟩ ⟨Nat.zero_le _, Nat.zero_le _⟩ (fun _ _ _ _ h => h) (fun _ _ _ => trivial) rfl hl.1 rfl (Nat.le_of_ble_eq_true rfl) dMo_change_90 (fun r6 er6 => ?_)
        subst er6
        refine lv_goto (tgt := 107) hx hb dMo_change_93 (by decide) ?_
        refine nz_eqi (y := nI ((fun k => if o = 4 then zNot (mR C a k) else zStrip o (mR C a k)) j)) (by show _ = nI (if o = 4 then zNot (mR C a j) else zStrip o (mR C a j)); rw [if_pos mc2]) ?_
        refine mo_stO (j := j) (v := (fun k => if o = 4 then zNot (mR C a k) else zStrip o (mR C a k)) j) S hT hK hP hS (by omega) dMo_change_107 (fun H locs hP hS => ?_)
        rw [pov_s0] at hP
        refine lv_iinc (v := nI (j + 1)) (lv' := [(4, .int (nI (j + 1))), (0, .ref (T 0)), (1, .int (nI o)), (2, .int (nI a)), (3, .int (nI u))]) hx hb dMo_change_108 hl (k := 4) rfl (nI_1 j) (by decide) rfl (fun ls hl => ?_)
        refine lv_goto (tgt := 63) hx hb dMo_change_111 (by decide) ?_
        exact ih (j + 1) (by omega) (by omega) _ _ hP hS ls (lv_sub hl [1, 2, 3, 4, 0] rfl)
set_option maxHeartbeats 4000000 in
set_option maxRecDepth 100000 in
theorem lpM_changeX {p : Program} {e : Env} {s : State} {m : MethodId} {args : Array Value} {below : List Frame} {meth : Method} {c : Code} {Q : State → Prop} (l : Launch) (D : va_G) (cA : ClassId) (T : Nat → Nat) (hT : moT T) (k0 : Int32) (C L O : Nat → Nat) (c0 : Nat) (u : Nat) (hN : c0 ≤ 64) (S : CallFix p m c bMo_change 6 s args nzG RM) (hK : va_K D vwCl (moTy cA) s) (kk : ∀ (H : Heap) (locs : List Loc) (ls : Array Slot), va_P D vwCl (moW cA T k0 C L (pov (fun _ => 1) O 0 c0) c0) H → va_S (moA T) s.heap H locs → lv_has ls 6 [(0, .ref (T 0)), (3, .int (nI u)), (4, .int (nI c0))] → W p l e ({ frames := 3, cells := 0, slots := 0, locals := 63 }) s m args below meth c H locs 0 0 Q (F0 m 193 ls [])) : ∀ (fuel j : Nat), j ≤ c0 → c0 < j + fuel → ∀ (H : Heap) (locs : List Loc), va_P D vwCl (moW cA T k0 C L (pov (fun _ => 1) O 0 j) c0) H → va_S (moA T) s.heap H locs → ∀ (ls : Array Slot), lv_has ls 6 [(0, .ref (T 0)), (3, .int (nI u)), (4, .int (nI j))] → W p l e ({ frames := 3, cells := 0, slots := 0, locals := 63 }) s m args below meth c H locs 0 0 Q (F0 m 170 ls []) := by
  have hx := S.1
  have hb := S.2.1
  intro fuel
  induction fuel with
  | zero =>
    intro j hj hfu
    exact absurd hfu (by omega)
  | succ fuel ih =>
    intro j hj hfu H locs hP hS ls hl
    refine lv_iload hx hb dMo_change_170 (lv_at hl 2 rfl) ?_
    refine lv_aload_n hx hb dMo_change_172 rfl (lv_at hl 0 rfl) ?_
    refine mo_getc S hK hP dMo_change_173 ?_
    refine lv_icmp_ge (tgt := 193) hx hb dMo_change_176 (by decide) (fun c1 => ?_) (fun c1 => ?_)
    · have mc1 : c0 ≤ j := (nI_leI (a := c0) (b := j) (by omega) (by omega)).mp c1
      obtain rfl : j = c0 := by omega
      exact kk H locs ls hP hS (lv_sub hl [0, 1, 2] rfl)
    · have mc1 : j < c0 := Nat.lt_of_not_le (fun h => c1 ((nI_leI (a := c0) (b := j) (by omega) (by omega)).mpr h))
      refine lv_aload_n hx hb dMo_change_179 rfl (lv_at hl 0 rfl) ?_
      refine mo_getO S hK hP dMo_change_180 ?_
      refine lv_iload hx hb dMo_change_183 (lv_at hl 2 rfl) ?_
      refine lv_iconst (v := 1) hx hb dMo_change_185 (by decide) ?_
      refine mo_stO (j := j) (v := (fun _ => 1) j) S hT hK hP hS (by omega) dMo_change_186 (fun H locs hP hS => ?_)
      rw [pov_s0] at hP
      refine lv_iinc (v := nI (j + 1)) (lv' := [(4, .int (nI (j + 1))), (0, .ref (T 0)), (3, .int (nI u))]) hx hb dMo_change_187 hl (k := 2) rfl (nI_1 j) (by decide) rfl (fun ls hl => ?_)
      refine lv_goto (tgt := 170) hx hb dMo_change_190 (by decide) ?_
      exact ih (j + 1) (by omega) (by omega) _ _ hP hS ls (lv_sub hl [1, 2, 0] rfl)
set_option maxHeartbeats 4000000 in
set_option maxRecDepth 100000 in
theorem c_Mo_change (l : Launch) (D : va_G) (cA : ClassId) (T : Nat → Nat) (hT : moT T) (k0 : Int32) (C L O : Nat → Nat) (c0 : Nat) (ok : moOk C L O) (x1 x2 x3 : Int32) : Met l yMo_change (Cond.code yMo_change bMo_change 6 none :: nzG) ({ frames := 3, cells := 0, slots := 0, locals := 63 }) (va_Pc [.ref (T 0), .int x1, .int x2, .int x3] (moP D cA (moW cA T k0 C L O c0))) (va_Qv (fun _ : Unit => True) (fun _ t => moV D cA T C L (kChange x1 x2 x3) (ix x3) (L (ix x2)) (fChange (ix x1) (mR C (ix x2)) (L (ix x2))) t) (moA T)) 0 0 (moA T) := by
  refine nz_of (own := RM) (by decide) rfl ?_
  intro p e s m args below meth c S hr hlocks _ hv9
  obtain ⟨rfl, hP, hK⟩ := hv9
  have hS : va_S (moA T) s.heap s.heap [] := va_S.rf
  have hx := S.1
  have hb := S.2.1
  refine nz_entry (vs := [.ref (T 0), .int x1, .int x2, .int x3]) (n := 6) (lv := [(0, .ref (T 0)), (1, .int x1), (2, .int x2), (3, .int x3)]) (Nat.le_of_ble_eq_true rfl) rfl (fun ls hl => ?_)
  refine lv_aload_n hx hb dMo_change_0 rfl (lv_at hl 0 rfl) ?_
  refine lv_iload_n hx hb dMo_change_1 rfl (lv_at hl 2 rfl) ?_
  refine nz_si (As := [.int x2]) (rest := [.ref (T 0)]) S (c_Mo_none l x2) kMo_33 ⟨rfl, rfl, Nat.le_of_ble_eq_true rfl, Nat.le_of_ble_eq_true rfl⟩ ⟨Nat.zero_le _, Nat.zero_le _⟩ (fun _ _ _ _ h => h) (fun _ _ _ => trivial) rfl hl.1 rfl (Nat.le_of_ble_eq_true rfl) dMo_change_2 (fun r1 er1 => ?_)
  subst er1
  refine lv_if_ne (tgt := 15) hx hb dMo_change_5 (by decide) (fun c2 => ?_) (fun c2 => ?_)
  · have bc2 := ifn_y c2
    refine lv_iconst (v := 1) hx hb dMo_change_15 (by decide) ?_
    refine lv_goto (tgt := 34) hx hb dMo_change_16 (by decide) ?_
    refine mo_putk (k1 := 1) S hT hK hP hS dMo_change_34 (fun H locs hP hS => ?_)
    have hk0 : kChange x1 x2 x3 = 1 := by unfold kChange; rw [if_pos (Or.inl bc2)]
    refine lv_aload_n hx hb dMo_change_37 rfl (lv_at hl 0 rfl) ?_
    refine mo_getk S hK hP dMo_change_38 ?_
    refine lv_if_le (tgt := 45) hx hb dMo_change_41 (by decide) (fun c3 => absurd c3 (by decide)) (fun _ => ?_)
    exact W.vret hx hb hr (fun t ht hW => ⟨⟨(), rfl, trivial, C, L, O, c0, fun h => absurd h (by rw [hk0]; decide), fun _ => ⟨rfl, rfl⟩, ok, by rw [hk0, ht]; exact hP⟩, hS.F ht⟩) hS.2.2 dMo_change_44
  · have bc2 := ifn_n c2
    obtain ⟨a, ha, rfl⟩ := plB_not bc2
    have ea : ix (nI a) = a := ix_nI (by omega)
    have hLa := ok.2.1 a
    refine lv_iload_n hx hb dMo_change_8 rfl (lv_at hl 3 rfl) ?_
    refine nz_si (As := [.int x3]) (rest := [.ref (T 0)]) S (c_Mo_none l x3) kMo_33 ⟨rfl, rfl, Nat.le_of_ble_eq_true rfl, Nat.le_of_ble_eq_true rfl⟩ ⟨Nat.zero_le _, Nat.zero_le _⟩ (fun _ _ _ _ h => h) (fun _ _ _ => trivial) rfl hl.1 rfl (Nat.le_of_ble_eq_true rfl) dMo_change_9 (fun r4 er4 => ?_)
    subst er4
    refine lv_if_eq (tgt := 19) hx hb dMo_change_12 (by decide) (fun c5 => ?_) (fun c5 => ?_)
    · have bc5 := ifn_n c5
      obtain ⟨u, hu, rfl⟩ := plB_not bc5
      have eu : ix (nI u) = u := ix_nI (by omega)
      have hLu := ok.2.1 u
      refine lv_iload_n hx hb dMo_change_19 rfl (lv_at hl 1 rfl) ?_
      refine lv_if_lt (tgt := 29) hx hb dMo_change_20 (by decide) (fun c6 => ?_) (fun c6 => ?_)
      · refine lv_iconst (v := 2) hx hb dMo_change_29 (by decide) ?_
        refine lv_goto (tgt := 34) hx hb dMo_change_30 (by decide) ?_
        refine mo_putk (k1 := 2) S hT hK hP hS dMo_change_34 (fun H locs hP hS => ?_)
        have hk0 : kChange x1 (nI a) (nI u) = 2 := by unfold kChange; rw [if_neg (fun h => h.elim bc2 bc5), if_pos (Or.inl c6)]
        refine lv_aload_n hx hb dMo_change_37 rfl (lv_at hl 0 rfl) ?_
        refine mo_getk S hK hP dMo_change_38 ?_
        refine lv_if_le (tgt := 45) hx hb dMo_change_41 (by decide) (fun c7 => absurd c7 (by decide)) (fun _ => ?_)
        exact W.vret hx hb hr (fun t ht hW => ⟨⟨(), rfl, trivial, C, L, O, c0, fun h => absurd h (by rw [hk0]; decide), fun _ => ⟨rfl, rfl⟩, ok, by rw [hk0, ht]; exact hP⟩, hS.F ht⟩) hS.2.2 dMo_change_44
      · refine lv_iload_n hx hb dMo_change_23 rfl (lv_at hl 1 rfl) ?_
        refine lv_bipush (v := 6) hx hb dMo_change_24 (by decide) ?_
        refine lv_icmp_le (tgt := 33) hx hb dMo_change_26 (by decide) (fun c8 => ?_) (fun c8 => ?_)
        · refine lv_iconst (v := 0) hx hb dMo_change_33 (by decide) ?_
          refine mo_putk (k1 := 0) S hT hK hP hS dMo_change_34 (fun H locs hP hS => ?_)
          have hk0 : kChange x1 (nI a) (nI u) = 0 := by unfold kChange; rw [if_neg (fun h => h.elim bc2 bc5), if_neg (fun h => h.elim c6 (fun q => Int32.not_lt.mpr c8 q))]
          obtain ⟨o, ho, rfl⟩ := in_not' (N := 6) (x := x1) rfl (by decide) (fun h => h.elim c6 (fun q => Int32.not_lt.mpr c8 q))
          have eo : ix (nI o) = o := ix_nI (by omega)
          refine lv_aload_n hx hb dMo_change_37 rfl (lv_at hl 0 rfl) ?_
          refine mo_getk S hK hP dMo_change_38 ?_
          refine lv_if_le (tgt := 45) hx hb dMo_change_41 (by decide) (fun _ => ?_) (fun c9 => absurd (by decide) c9)
          refine lv_aload_n hx hb dMo_change_45 rfl (lv_at hl 0 rfl) ?_
          refine lv_aload_n hx hb dMo_change_46 rfl (lv_at hl 0 rfl) ?_
          refine mo_getL S hK hP dMo_change_47 ?_
          refine lv_iload_n hx hb dMo_change_50 rfl (lv_at hl 2 rfl) ?_
          refine mo_ldL (j := a) S hK hP ha dMo_change_51 ?_
          refine mo_putc (c1 := L a) S hT hK hP hS dMo_change_52 (fun H locs hP hS => ?_)
          refine lv_iload_n hx hb dMo_change_55 rfl (lv_at hl 1 rfl) ?_
          refine lv_iconst (v := 5) hx hb dMo_change_56 (by decide) ?_
          refine lv_icmp_ge (tgt := 117) hx hb dMo_change_57 (by decide) (fun c10 => ?_) (fun c10 => ?_)
          · have mc10 : 5 ≤ o := (nI_leI (a := 5) (b := o) (by omega) (by omega)).mp c10
            refine lv_aload_n hx hb dMo_change_117 rfl (lv_at hl 0 rfl) ?_
            refine lv_iload_n hx hb dMo_change_118 rfl (lv_at hl 2 rfl) ?_
            refine nz_vi (As := [.int (nI a)]) (rest := []) S (c_Mo_clear l D cA T hT 0 C L O (L a) ok a ha) kMo_53 ⟨rfl, rfl, Nat.le_of_ble_eq_true rfl, Nat.le_of_ble_eq_true rfl⟩ ⟨Nat.zero_le _, Nat.zero_le _⟩ moP.bl (mo_ob hK hP) (moP.to hP hK) rfl hl.1 rfl (Nat.le_of_ble_eq_true rfl) dMo_change_119 (fun r11 er11 => ?_)
            subst er11
            refine lv_if_eq (tgt := 167) hx hb dMo_change_122 (by decide) (fun c12 => ?_) (fun c12 => ?_)
            · refine lv_iconst (v := 0) hx hb dMo_change_167 (by decide) ?_
              refine lv_istore (lv' := [(4, .int 0), (0, .ref (T 0)), (1, .int (nI o)), (2, .int (nI a)), (3, .int (nI u))]) hx hb dMo_change_168 hl (by decide) rfl (fun ls hl => ?_)
              rw [← pov_0 (fun _ => 1) (O) 0] at hP
              refine lpM_changeX l D cA T hT 0 C L O (L a) u hLa S hK (fun H locs ls hP hS hl => ?_) (L a + 1) 0 (by omega) (by omega) _ _ hP hS ls (lv_sub hl [1, 4, 0] rfl)
              refine lv_aload_n hx hb dMo_change_193 rfl (lv_at hl 0 rfl) ?_
              refine lv_iload_n hx hb dMo_change_194 rfl (lv_at hl 1 rfl) ?_
              refine mo_call (As := [.int (nI u)]) (rest := []) S (c_Mo_keep l D cA T hT 0 C L (pov (fun _ => 1) O 0 (L a)) (L a) u hu hLa) kMo_36 ⟨rfl, rfl, Nat.le_of_ble_eq_true rfl, Nat.le_of_ble_eq_true rfl⟩ ⟨Nat.zero_le _, Nat.zero_le _⟩ (mo_ob hK hP) hP hK hS rfl hl.1 rfl (Nat.le_of_ble_eq_true rfl) dMo_change_195 (fun H locs hP hS => ?_)
              refine W.vret hx hb hr (fun t ht hW => ⟨⟨(), rfl, trivial, moK C (pov (fun _ => 1) O 0 (L a)) u (L a), va_up L u (L a), (pov (fun _ => 1) O 0 (L a)), (L a), fun _ => ?_, fun h => absurd hk0 h, moOk_keep (moOk_O ok (pov_lt (fun k _ _ => (by decide : (1 : Nat) < 9)) ok.2.2)) hLa, by rw [hk0, ht]; exact hP⟩, hS.F ht⟩) hS.2.2 dMo_change_198
              rw [eu]
              exact moU_eq (moU_keep hLa) (by rw [ea]) (by rw [eo, ea]; intro k hk; rw [pov_in (Nat.zero_le _) (by omega)]; unfold fChange; rw [if_neg (by omega), if_neg (by omega), if_neg (zCnt_nall (zCnt_n c12) (by omega))])
            · refine lv_aload_n hx hb dMo_change_125 rfl (lv_at hl 0 rfl) ?_
              refine lv_iload_n hx hb dMo_change_126 rfl (lv_at hl 2 rfl) ?_
              refine lv_iconst (v := 1) hx hb dMo_change_127 (by decide) ?_
              refine nz_vl (As := [.int (nI a), .int 1]) (rest := []) S (c_Mo_value l D cA T hT 0 C L O (L a) ok a ha 1 (by decide)) kMo_56 ⟨rfl, rfl, Nat.le_of_ble_eq_true rfl, Nat.le_of_ble_eq_true rfl⟩ ⟨Nat.zero_le _, Nat.zero_le _⟩ moP.bl (mo_ob hK hP) (moP.to hP hK) rfl hl.1 rfl (Nat.le_of_ble_eq_true rfl) dMo_change_128 (fun r13 er13 => ?_)
              subst er13
              refine lv_lstore (lv' := [(4, .long (lN (zLong 1 (mR C a) (L a)))), (0, .ref (T 0)), (1, .int (nI o)), (2, .int (nI a)), (3, .int (nI u))]) hx hb dMo_change_131 hl (by decide) rfl (fun ls hl => ?_)
              refine lv_aload_n hx hb dMo_change_133 rfl (lv_at hl 1 rfl) ?_
              refine lv_aload_n hx hb dMo_change_134 rfl (lv_at hl 1 rfl) ?_
              refine mo_getL S hK hP dMo_change_135 ?_
              refine lv_iload_n hx hb dMo_change_138 rfl (lv_at hl 3 rfl) ?_
              refine mo_ldL (j := a) S hK hP ha dMo_change_139 ?_
              refine lv_iload_n hx hb dMo_change_140 rfl (lv_at hl 2 rfl) ?_
              refine lv_bipush (v := 6) hx hb dMo_change_141 (by decide) ?_
              refine lv_icmp_ne (tgt := 158) hx hb dMo_change_143 (by decide) (fun c14 => ?_) (fun c14 => ?_)
              · have mc14 : ¬ o = 6 := fun h => c14 ((nI_eq (a := o) (b := 6) (by omega) (by omega)).mpr h)
                refine lv_lload hx hb dMo_change_158 (lv_at hl 0 rfl) ?_
                refine lv_lneg hx hb dMo_change_160 ?_
                refine nz_eql (lN_neg (zLong_lt 1 (mR C a) hLa)) ?_
                refine mo_call (As := [.int (nI (L a)), .long (lN (zNeg (zLong 1 (mR C a) (L a))))]) (rest := []) S (c_Mo_bits l D cA T hT 0 C L O (L a) (L a) hLa (zNeg (zLong 1 (mR C a) (L a))) (zNeg_lt _)) kMo_44 ⟨rfl, rfl, Nat.le_of_ble_eq_true rfl, Nat.le_of_ble_eq_true rfl⟩ ⟨Nat.zero_le _, Nat.zero_le _⟩ (mo_ob hK hP) hP hK hS rfl hl.1 rfl (Nat.le_of_ble_eq_true rfl) dMo_change_161 (fun H locs hP hS => ?_)
                refine lv_goto (tgt := 193) hx hb dMo_change_164 (by decide) ?_
                refine lv_aload_n hx hb dMo_change_193 rfl (lv_at hl 1 rfl) ?_
                refine lv_iload_n hx hb dMo_change_194 rfl (lv_at hl 4 rfl) ?_
                refine mo_call (As := [.int (nI u)]) (rest := []) S (c_Mo_keep l D cA T hT 0 C L (pov (zPut (zNeg (zLong 1 (mR C a) (L a)))) O 0 (L a)) (L a) u hu hLa) kMo_36 ⟨rfl, rfl, Nat.le_of_ble_eq_true rfl, Nat.le_of_ble_eq_true rfl⟩ ⟨Nat.zero_le _, Nat.zero_le _⟩ (mo_ob hK hP) hP hK hS rfl hl.1 rfl (Nat.le_of_ble_eq_true rfl) dMo_change_195 (fun H locs hP hS => ?_)
                refine W.vret hx hb hr (fun t ht hW => ⟨⟨(), rfl, trivial, moK C (pov (zPut (zNeg (zLong 1 (mR C a) (L a)))) O 0 (L a)) u (L a), va_up L u (L a), (pov (zPut (zNeg (zLong 1 (mR C a) (L a)))) O 0 (L a)), (L a), fun _ => ?_, fun h => absurd hk0 h, moOk_keep (moOk_O ok (pov_lt (fun _ _ _ => zPut_lt _ _) ok.2.2)) hLa, by rw [hk0, ht]; exact hP⟩, hS.F ht⟩) hS.2.2 dMo_change_198
                rw [eu]
                exact moU_eq (moU_keep hLa) (by rw [ea]) (by rw [eo, ea]; intro k hk; rw [pov_in (Nat.zero_le _) (by omega)]; unfold fChange zSize; rw [if_neg (by omega), if_neg (by omega), if_pos (zCnt_all (zCnt_y c12)), if_pos (Or.inl (by omega))])
              · have mc14 : o = 6 := (nI_eq (a := o) (b := 6) (by omega) (by omega)).mp c14
                refine lv_lload hx hb dMo_change_146 (lv_at hl 0 rfl) ?_
                refine lv_lconst (v := 0) hx hb dMo_change_148 (by decide) ?_
                refine W.lcmp hx hb dMo_change_149 ?_
                refine lv_if_lt (tgt := 158) hx hb dMo_change_150 (by decide) (fun c15 => ?_) (fun c15 => ?_)
                · refine lv_lload hx hb dMo_change_158 (lv_at hl 0 rfl) ?_
                  refine lv_lneg hx hb dMo_change_160 ?_
                  refine nz_eql (lN_neg (zLong_lt 1 (mR C a) hLa)) ?_
                  refine mo_call (As := [.int (nI (L a)), .long (lN (zNeg (zLong 1 (mR C a) (L a))))]) (rest := []) S (c_Mo_bits l D cA T hT 0 C L O (L a) (L a) hLa (zNeg (zLong 1 (mR C a) (L a))) (zNeg_lt _)) kMo_44 ⟨rfl, rfl, Nat.le_of_ble_eq_true rfl, Nat.le_of_ble_eq_true rfl⟩ ⟨Nat.zero_le _, Nat.zero_le _⟩ (mo_ob hK hP) hP hK hS rfl hl.1 rfl (Nat.le_of_ble_eq_true rfl) dMo_change_161 (fun H locs hP hS => ?_)
                  refine lv_goto (tgt := 193) hx hb dMo_change_164 (by decide) ?_
                  refine lv_aload_n hx hb dMo_change_193 rfl (lv_at hl 1 rfl) ?_
                  refine lv_iload_n hx hb dMo_change_194 rfl (lv_at hl 4 rfl) ?_
                  refine mo_call (As := [.int (nI u)]) (rest := []) S (c_Mo_keep l D cA T hT 0 C L (pov (zPut (zNeg (zLong 1 (mR C a) (L a)))) O 0 (L a)) (L a) u hu hLa) kMo_36 ⟨rfl, rfl, Nat.le_of_ble_eq_true rfl, Nat.le_of_ble_eq_true rfl⟩ ⟨Nat.zero_le _, Nat.zero_le _⟩ (mo_ob hK hP) hP hK hS rfl hl.1 rfl (Nat.le_of_ble_eq_true rfl) dMo_change_195 (fun H locs hP hS => ?_)
                  refine W.vret hx hb hr (fun t ht hW => ⟨⟨(), rfl, trivial, moK C (pov (zPut (zNeg (zLong 1 (mR C a) (L a)))) O 0 (L a)) u (L a), va_up L u (L a), (pov (zPut (zNeg (zLong 1 (mR C a) (L a)))) O 0 (L a)), (L a), fun _ => ?_, fun h => absurd hk0 h, moOk_keep (moOk_O ok (pov_lt (fun _ _ _ => zPut_lt _ _) ok.2.2)) hLa, by rw [hk0, ht]; exact hP⟩, hS.F ht⟩) hS.2.2 dMo_change_198
                  rw [eu]
                  exact moU_eq (moU_keep hLa) (by rw [ea]) (by rw [eo, ea]; intro k hk; rw [pov_in (Nat.zero_le _) (by omega)]; unfold fChange zSize; rw [if_neg (by omega), if_neg (by omega), if_pos (zCnt_all (zCnt_y c12)), if_pos (Or.inr (Nat.le_of_not_lt (fun q => absurd ((lN_lt0 (zLong_lt 1 (mR C a) hLa)).mpr q) (Int32.not_le.mpr c15))))])
                · refine lv_lload hx hb dMo_change_153 (lv_at hl 0 rfl) ?_
                  refine lv_goto (tgt := 161) hx hb dMo_change_155 (by decide) ?_
                  refine mo_call (As := [.int (nI (L a)), .long (lN (zLong 1 (mR C a) (L a)))]) (rest := []) S (c_Mo_bits l D cA T hT 0 C L O (L a) (L a) hLa (zLong 1 (mR C a) (L a)) (zLong_lt _ _ (ok.2.1 _))) kMo_44 ⟨rfl, rfl, Nat.le_of_ble_eq_true rfl, Nat.le_of_ble_eq_true rfl⟩ ⟨Nat.zero_le _, Nat.zero_le _⟩ (mo_ob hK hP) hP hK hS rfl hl.1 rfl (Nat.le_of_ble_eq_true rfl) dMo_change_161 (fun H locs hP hS => ?_)
                  refine lv_goto (tgt := 193) hx hb dMo_change_164 (by decide) ?_
                  refine lv_aload_n hx hb dMo_change_193 rfl (lv_at hl 1 rfl) ?_
                  refine lv_iload_n hx hb dMo_change_194 rfl (lv_at hl 4 rfl) ?_
                  refine mo_call (As := [.int (nI u)]) (rest := []) S (c_Mo_keep l D cA T hT 0 C L (pov (zPut (zLong 1 (mR C a) (L a))) O 0 (L a)) (L a) u hu hLa) kMo_36 ⟨rfl, rfl, Nat.le_of_ble_eq_true rfl, Nat.le_of_ble_eq_true rfl⟩ ⟨Nat.zero_le _, Nat.zero_le _⟩ (mo_ob hK hP) hP hK hS rfl hl.1 rfl (Nat.le_of_ble_eq_true rfl) dMo_change_195 (fun H locs hP hS => ?_)
                  refine W.vret hx hb hr (fun t ht hW => ⟨⟨(), rfl, trivial, moK C (pov (zPut (zLong 1 (mR C a) (L a))) O 0 (L a)) u (L a), va_up L u (L a), (pov (zPut (zLong 1 (mR C a) (L a))) O 0 (L a)), (L a), fun _ => ?_, fun h => absurd hk0 h, moOk_keep (moOk_O ok (pov_lt (fun _ _ _ => zPut_lt _ _) ok.2.2)) hLa, by rw [hk0, ht]; exact hP⟩, hS.F ht⟩) hS.2.2 dMo_change_198
                  rw [eu]
                  exact moU_eq (moU_keep hLa) (by rw [ea]) (by rw [eo, ea]; intro k hk; rw [pov_in (Nat.zero_le _) (by omega)]; unfold fChange zSize; rw [if_neg (by omega), if_neg (by omega), if_pos (zCnt_all (zCnt_y c12)), if_neg (fun q => q.elim (fun z => by omega) (fun z => absurd ((lN_lt0 (zLong_lt 1 (mR C a) hLa)).mp (Int32.not_lt.mp c15)) (by omega)))])
          · have mc10 : o < 5 := Nat.lt_of_not_le (fun h => c10 ((nI_leI (a := 5) (b := o) (by omega) (by omega)).mpr h))
            refine lv_iconst (v := 0) hx hb dMo_change_60 (by decide) ?_
            refine lv_istore (lv' := [(4, .int 0), (0, .ref (T 0)), (1, .int (nI o)), (2, .int (nI a)), (3, .int (nI u))]) hx hb dMo_change_61 hl (by decide) rfl (fun ls hl => ?_)
            rw [← pov_0 (fun k => if o = 4 then zNot (mR C a k) else zStrip o (mR C a k)) (O) 0] at hP
            refine lpM_change l D cA T hT 0 C L O (L a) ok o mc10 a ha u hLa S hK (fun H locs ls hP hS hl => ?_) (L a + 1) 0 (by omega) (by omega) _ _ hP hS ls (lv_sub hl [1, 2, 3, 4, 0] rfl)
            refine lv_goto (tgt := 193) hx hb dMo_change_114 (by decide) ?_
            refine lv_aload_n hx hb dMo_change_193 rfl (lv_at hl 0 rfl) ?_
            refine lv_iload_n hx hb dMo_change_194 rfl (lv_at hl 3 rfl) ?_
            refine mo_call (As := [.int (nI u)]) (rest := []) S (c_Mo_keep l D cA T hT 0 C L (pov (fun k => if o = 4 then zNot (mR C a k) else zStrip o (mR C a k)) O 0 (L a)) (L a) u hu hLa) kMo_36 ⟨rfl, rfl, Nat.le_of_ble_eq_true rfl, Nat.le_of_ble_eq_true rfl⟩ ⟨Nat.zero_le _, Nat.zero_le _⟩ (mo_ob hK hP) hP hK hS rfl hl.1 rfl (Nat.le_of_ble_eq_true rfl) dMo_change_195 (fun H locs hP hS => ?_)
            refine W.vret hx hb hr (fun t ht hW => ⟨⟨(), rfl, trivial, moK C (pov (fun k => if o = 4 then zNot (mR C a k) else zStrip o (mR C a k)) O 0 (L a)) u (L a), va_up L u (L a), (pov (fun k => if o = 4 then zNot (mR C a k) else zStrip o (mR C a k)) O 0 (L a)), (L a), fun _ => ?_, fun h => absurd hk0 h, moOk_keep (moOk_O ok (pov_lt (fun k _ _ => by show (if o = 4 then zNot (mR C a k) else zStrip o (mR C a k)) < 9; split; exact zNot_lt _ (ok.1 _); exact zStrip_lt o (by omega) _ (ok.1 _)) ok.2.2)) hLa, by rw [hk0, ht]; exact hP⟩, hS.F ht⟩) hS.2.2 dMo_change_198
            rw [eu]
            exact moU_eq (moU_keep hLa) (by rw [ea]) (by rw [eo, ea]; intro k hk; rw [pov_in (Nat.zero_le _) (by omega)]; show (if o = 4 then zNot (mR C a k) else zStrip o (mR C a k)) = _; unfold fChange; by_cases h4 : o = 4; rw [if_pos h4, if_pos h4]; rw [if_neg h4, if_neg h4, if_pos (by omega)])
        · refine lv_iconst (v := 2) hx hb dMo_change_29 (by decide) ?_
          refine lv_goto (tgt := 34) hx hb dMo_change_30 (by decide) ?_
          refine mo_putk (k1 := 2) S hT hK hP hS dMo_change_34 (fun H locs hP hS => ?_)
          have hk0 : kChange x1 (nI a) (nI u) = 2 := by unfold kChange; rw [if_neg (fun h => h.elim bc2 bc5), if_pos (Or.inr (Int32.not_le.mp c8))]
          refine lv_aload_n hx hb dMo_change_37 rfl (lv_at hl 0 rfl) ?_
          refine mo_getk S hK hP dMo_change_38 ?_
          refine lv_if_le (tgt := 45) hx hb dMo_change_41 (by decide) (fun c16 => absurd c16 (by decide)) (fun _ => ?_)
          exact W.vret hx hb hr (fun t ht hW => ⟨⟨(), rfl, trivial, C, L, O, c0, fun h => absurd h (by rw [hk0]; decide), fun _ => ⟨rfl, rfl⟩, ok, by rw [hk0, ht]; exact hP⟩, hS.F ht⟩) hS.2.2 dMo_change_44
    · have bc5 := ifn_y c5
      refine lv_iconst (v := 1) hx hb dMo_change_15 (by decide) ?_
      refine lv_goto (tgt := 34) hx hb dMo_change_16 (by decide) ?_
      refine mo_putk (k1 := 1) S hT hK hP hS dMo_change_34 (fun H locs hP hS => ?_)
      have hk0 : kChange x1 (nI a) x3 = 1 := by unfold kChange; rw [if_pos (Or.inr bc5)]
      refine lv_aload_n hx hb dMo_change_37 rfl (lv_at hl 0 rfl) ?_
      refine mo_getk S hK hP dMo_change_38 ?_
      refine lv_if_le (tgt := 45) hx hb dMo_change_41 (by decide) (fun c17 => absurd c17 (by decide)) (fun _ => ?_)
      exact W.vret hx hb hr (fun t ht hW => ⟨⟨(), rfl, trivial, C, L, O, c0, fun h => absurd h (by rw [hk0]; decide), fun _ => ⟨rfl, rfl⟩, ok, by rw [hk0, ht]; exact hP⟩, hS.F ht⟩) hS.2.2 dMo_change_44
