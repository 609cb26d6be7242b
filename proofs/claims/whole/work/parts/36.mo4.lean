set_option maxHeartbeats 4000000 in
set_option maxRecDepth 100000 in
theorem lpM_same {p : Program} {e : Env} {s : State} {m : MethodId} {args : Array Value} {below : List Frame} {meth : Method} {c : Code} {Q : State → Prop} (l : Launch) (D : va_G) (cA : ClassId) (T : Nat → Nat) (hT : moT T) (k0 : Int32) (C L O : Nat → Nat) (c0 : Nat) (ok : moOk C L O) (b1 : Nat) (hb1 : b1 < 2) (a : Nat) (ha : a < 16) (d : Nat) (hd : d < 16) (H : Heap) (locs : List Loc) (S : CallFix p m c bMo_same 6 s args nzG RM) (hK : va_K D vwCl (moTy cA) s) (hP : va_P D vwCl (moW cA T k0 C L O c0) H) (kk : ∀ (ls : Array Slot), lv_has ls 6 [(4, .int (nI (zSame b1 (mR C a) (mR C d) (L a) (L d))))] → W p l e ({ frames := 2, cells := 0, slots := 0, locals := 41 }) s m args below meth c H locs 0 0 Q (F0 m 127 ls [])) : ∀ (fuel j : Nat), j ≤ L a → L a < j + fuel → (j = 0 ∨ L a = L d) → ∀ (ls : Array Slot), lv_has ls 6 [(0, .ref (T 0)), (1, .int (nI b1)), (2, .int (nI a)), (3, .int (nI d)), (4, .int (nI (zSj b1 (mR C a) (mR C d) (L a) (L d) j))), (5, .int (nI j))] → W p l e ({ frames := 2, cells := 0, slots := 0, locals := 41 }) s m args below meth c H locs 0 0 Q (F0 m 57 ls []) := by
  have hx := S.1
  have hb := S.2.1
  have hLa := ok.2.1 a
  have hLd := ok.2.1 d
  intro fuel
  induction fuel with
  | zero =>
    intro j hj hfu
    exact absurd hfu (by omega)
  | succ fuel ih =>
    intro j hj hfu hjn ls hl
    refine lv_iload hx hb dMo_same_57 (lv_at hl 5 rfl) ?_
    refine lv_aload_n hx hb dMo_same_59 rfl (lv_at hl 0 rfl) ?_
    refine mo_getL S hK hP dMo_same_60 ?_
    refine lv_iload_n hx hb dMo_same_63 rfl (lv_at hl 2 rfl) ?_
    refine mo_ldL (j := a) S hK hP ha dMo_same_64 ?_
    refine lv_icmp_ge (tgt := 127) hx hb dMo_same_65 (by decide) (fun c1 => ?_) (fun c1 => ?_)
    · have mc1 : (L a) ≤ j := (nI_leI (a := (L a)) (b := j) (by omega) (by omega)).mp c1
      have ej9 : j = L a := by omega
      rw [ej9, zSj_N] at hl
      exact kk ls (lv_sub hl [4] rfl)
    · have mc1 : j < (L a) := Nat.lt_of_not_le (fun h => c1 ((nI_leI (a := (L a)) (b := j) (by omega) (by omega)).mpr h))
      refine lv_iload hx hb dMo_same_68 (lv_at hl 4 rfl) ?_
      refine lv_if_eq (tgt := 127) hx hb dMo_same_70 (by decide) (fun c2 => ?_) (fun c2 => ?_)
      · rw [zSj_z hj c2] at hl
        exact kk ls (lv_sub hl [4] rfl)
      · have hnn : L a = L d := zSj_nn c2
        refine lv_iload_n hx hb dMo_same_73 rfl (lv_at hl 1 rfl) ?_
        refine lv_if_eq (tgt := 97) hx hb dMo_same_74 (by decide) (fun c3 => ?_) (fun c3 => ?_)
        · have mc3 : b1 = 0 := (nI_eq (a := b1) (b := 0) (by omega) (by omega)).mp c3
          refine lv_aload_n hx hb dMo_same_97 rfl (lv_at hl 0 rfl) ?_
          refine lv_iload_n hx hb dMo_same_98 rfl (lv_at hl 2 rfl) ?_
          refine lv_iload hx hb dMo_same_99 (lv_at hl 5 rfl) ?_
          refine nz_vi (As := [.int (nI a), .int (nI j)]) (rest := []) S (c_Mo_cell l D cA T hT k0 C L O c0 a ha j (by omega)) kMo_40 ⟨rfl, rfl, Nat.le_of_ble_eq_true rfl, Nat.le_of_ble_eq_true rfl⟩ ⟨Nat.zero_le _, Nat.zero_le _⟩ moP.bl (mo_ob hK hP) (moP.to hP hK) rfl hl.1 rfl (Nat.le_of_ble_eq_true rfl) dMo_same_101 (fun r4 er4 => ?_)
          subst er4
          refine lv_aload_n hx hb dMo_same_104 rfl (lv_at hl 0 rfl) ?_
          refine lv_iload_n hx hb dMo_same_105 rfl (lv_at hl 3 rfl) ?_
          refine lv_iload hx hb dMo_same_106 (lv_at hl 5 rfl) ?_
          refine nz_vi (As := [.int (nI d), .int (nI j)]) (rest := [.int (nI (mR C a j))]) S (c_Mo_cell l D cA T hT k0 C L O c0 d hd j (by omega)) kMo_40 ⟨rfl, rfl, Nat.le_of_ble_eq_true rfl, Nat.le_of_ble_eq_true rfl⟩ ⟨Nat.zero_le _, Nat.zero_le _⟩ moP.bl (mo_ob hK hP) (moP.to hP hK) rfl hl.1 rfl (Nat.le_of_ble_eq_true rfl) dMo_same_108 (fun r5 er5 => ?_)
          subst er5
          refine lv_icmp_ne (tgt := 118) hx hb dMo_same_111 (by decide) (fun c6 => ?_) (fun c6 => ?_)
          · refine lv_iconst (v := 0) hx hb dMo_same_118 (by decide) ?_
            refine nz_eqi (y := nI (zSj b1 (mR C a) (mR C d) (L a) (L d) (j + 1))) (congrArg nI (zSj_s (r := 0) c2 (Or.inl rfl) (by rw [if_neg (by omega)]; exact ⟨fun z => absurd z (by decide), fun z => absurd (congrArg nI z) c6⟩))) ?_
            refine lv_istore (lv' := [(4, .int (nI (zSj b1 (mR C a) (mR C d) (L a) (L d) (j + 1)))), (0, .ref (T 0)), (1, .int (nI b1)), (2, .int (nI a)), (3, .int (nI d)), (5, .int (nI j))]) hx hb dMo_same_119 hl (by decide) rfl (fun ls hl => ?_)
            refine lv_iinc (v := nI (j + 1)) (lv' := [(5, .int (nI (j + 1))), (4, .int (nI (zSj b1 (mR C a) (mR C d) (L a) (L d) (j + 1)))), (0, .ref (T 0)), (1, .int (nI b1)), (2, .int (nI a)), (3, .int (nI d))]) hx hb dMo_same_121 hl (k := 5) rfl (nI_1 j) (by decide) rfl (fun ls hl => ?_)
            refine lv_goto (tgt := 57) hx hb dMo_same_124 (by decide) ?_
            exact ih (j + 1) (by omega) (by omega) (Or.inr hnn) ls (lv_sub hl [2, 3, 4, 5, 1, 0] rfl)
          · refine lv_iconst (v := 1) hx hb dMo_same_114 (by decide) ?_
            refine lv_goto (tgt := 119) hx hb dMo_same_115 (by decide) ?_
            refine nz_eqi (y := nI (zSj b1 (mR C a) (mR C d) (L a) (L d) (j + 1))) (congrArg nI (zSj_s (r := 1) c2 (Or.inr rfl) (by rw [if_neg (by omega)]; exact ⟨fun _ => (nI_eq (by have := ok.1 (64 * a + j); show C (64 * a + j) < _; omega) (by have := ok.1 (64 * d + j); show C (64 * d + j) < _; omega)).mp c6, fun _ => rfl⟩))) ?_
            refine lv_istore (lv' := [(4, .int (nI (zSj b1 (mR C a) (mR C d) (L a) (L d) (j + 1)))), (0, .ref (T 0)), (1, .int (nI b1)), (2, .int (nI a)), (3, .int (nI d)), (5, .int (nI j))]) hx hb dMo_same_119 hl (by decide) rfl (fun ls hl => ?_)
            refine lv_iinc (v := nI (j + 1)) (lv' := [(5, .int (nI (j + 1))), (4, .int (nI (zSj b1 (mR C a) (mR C d) (L a) (L d) (j + 1)))), (0, .ref (T 0)), (1, .int (nI b1)), (2, .int (nI a)), (3, .int (nI d))]) hx hb dMo_same_121 hl (k := 5) rfl (nI_1 j) (by decide) rfl (fun ls hl => ?_)
            refine lv_goto (tgt := 57) hx hb dMo_same_124 (by decide) ?_
            exact ih (j + 1) (by omega) (by omega) (Or.inr hnn) ls (lv_sub hl [2, 3, 4, 5, 1, 0] rfl)
        · have mc3 : ¬ b1 = 0 := fun h => c3 ((nI_eq (a := b1) (b := 0) (by omega) (by omega)).mpr h)
          refine lv_aload_n hx hb dMo_same_77 rfl (lv_at hl 0 rfl) ?_
          refine lv_iload_n hx hb dMo_same_78 rfl (lv_at hl 2 rfl) ?_
          refine lv_iload hx hb dMo_same_79 (lv_at hl 5 rfl) ?_
          refine nz_vi (As := [.int (nI a), .int (nI j)]) (rest := []) S (c_Mo_cell l D cA T hT k0 C L O c0 a ha j (by omega)) kMo_40 ⟨rfl, rfl, Nat.le_of_ble_eq_true rfl, Nat.le_of_ble_eq_true rfl⟩ ⟨Nat.zero_le _, Nat.zero_le _⟩ moP.bl (mo_ob hK hP) (moP.to hP hK) rfl hl.1 rfl (Nat.le_of_ble_eq_true rfl) dMo_same_81 (fun r7 er7 => ?_)
          subst er7
          refine lv_aload_n hx hb dMo_same_84 rfl (lv_at hl 0 rfl) ?_
          refine lv_iload_n hx hb dMo_same_85 rfl (lv_at hl 3 rfl) ?_
          refine lv_iload hx hb dMo_same_86 (lv_at hl 5 rfl) ?_
          refine nz_vi (As := [.int (nI d), .int (nI j)]) (rest := [.int (nI (mR C a j))]) S (c_Mo_cell l D cA T hT k0 C L O c0 d hd j (by omega)) kMo_40 ⟨rfl, rfl, Nat.le_of_ble_eq_true rfl, Nat.le_of_ble_eq_true rfl⟩ ⟨Nat.zero_le _, Nat.zero_le _⟩ moP.bl (mo_ob hK hP) (moP.to hP hK) rfl hl.1 rfl (Nat.le_of_ble_eq_true rfl) dMo_same_88 (fun r8 er8 => ?_)
          subst er8
          refine nz_si (As := [.int (nI (mR C a j)), .int (nI (mR C d j))]) (rest := []) S (c_Mo_goes l (mR C a j) (ok.1 _) (mR C d j) (ok.1 _)) kMo_99 ⟨rfl, rfl, Nat.le_of_ble_eq_true rfl, Nat.le_of_ble_eq_true rfl⟩ ⟨Nat.zero_le _, Nat.zero_le _⟩ (fun _ _ _ _ h => h) (fun _ _ _ => trivial) rfl hl.1 rfl (Nat.le_of_ble_eq_true rfl) dMo_same_91 (fun r9 er9 => ?_)
          subst er9
          refine lv_goto (tgt := 119) hx hb dMo_same_94 (by decide) ?_
          refine nz_eqi (y := nI (zSj b1 (mR C a) (mR C d) (L a) (L d) (j + 1))) (congrArg nI (zSj_s c2 (zMatch_01 _ _) (by rw [if_pos (by omega)]))) ?_
          refine lv_istore (lv' := [(4, .int (nI (zSj b1 (mR C a) (mR C d) (L a) (L d) (j + 1)))), (0, .ref (T 0)), (1, .int (nI b1)), (2, .int (nI a)), (3, .int (nI d)), (5, .int (nI j))]) hx hb dMo_same_119 hl (by decide) rfl (fun ls hl => ?_)
          refine lv_iinc (v := nI (j + 1)) (lv' := [(5, .int (nI (j + 1))), (4, .int (nI (zSj b1 (mR C a) (mR C d) (L a) (L d) (j + 1)))), (0, .ref (T 0)), (1, .int (nI b1)), (2, .int (nI a)), (3, .int (nI d))]) hx hb dMo_same_121 hl (k := 5) rfl (nI_1 j) (by decide) rfl (fun ls hl => ?_)
          refine lv_goto (tgt := 57) hx hb dMo_same_124 (by decide) ?_
          exact ih (j + 1) (by omega) (by omega) (Or.inr hnn) ls (lv_sub hl [2, 3, 4, 5, 1, 0] rfl)
set_option maxHeartbeats 4000000 in
set_option maxRecDepth 100000 in
theorem c_Mo_same (l : Launch) (D : va_G) (cA : ClassId) (T : Nat → Nat) (hT : moT T) (k0 : Int32) (C L O : Nat → Nat) (c0 : Nat) (ok : moOk C L O) (b1 : Nat) (hb1 : b1 < 2) (x2 x3 : Int32) : Met l yMo_same (Cond.code yMo_same bMo_same 6 (some .boolean) :: nzG) ({ frames := 2, cells := 0, slots := 0, locals := 41 }) (va_Pc [.ref (T 0), .int (nI b1), .int x2, .int x3] (moP D cA (moW cA T k0 C L O c0))) (va_Qi (fun r (_ : Unit) => (kPl2 x2 x3) = 0 → r = nI (zSame b1 (mR C (ix x2)) (mR C (ix x3)) (L (ix x2)) (L (ix x3)))) (fun _ t => moB D cA T C L O c0 (kPl2 x2 x3) t) (moA T)) 0 0 (moA T) := by
  refine nz_of (own := RM) (by decide) rfl ?_
  intro p e s m args below meth c S hr hlocks _ hv9
  obtain ⟨rfl, hP, hK⟩ := hv9
  have hS : va_S (moA T) s.heap s.heap [] := va_S.rf
  have hx := S.1
  have hb := S.2.1
  refine nz_entry (vs := [.ref (T 0), .int (nI b1), .int x2, .int x3]) (n := 6) (lv := [(0, .ref (T 0)), (1, .int (nI b1)), (2, .int x2), (3, .int x3)]) (Nat.le_of_ble_eq_true rfl) rfl (fun ls hl => ?_)
  refine lv_aload_n hx hb dMo_same_0 rfl (lv_at hl 0 rfl) ?_
  refine lv_iload_n hx hb dMo_same_1 rfl (lv_at hl 2 rfl) ?_
  refine nz_si (As := [.int x2]) (rest := [.ref (T 0)]) S (c_Mo_none l x2) kMo_33 ⟨rfl, rfl, Nat.le_of_ble_eq_true rfl, Nat.le_of_ble_eq_true rfl⟩ ⟨Nat.zero_le _, Nat.zero_le _⟩ (fun _ _ _ _ h => h) (fun _ _ _ => trivial) rfl hl.1 rfl (Nat.le_of_ble_eq_true rfl) dMo_same_2 (fun r1 er1 => ?_)
  subst er1
  refine lv_if_ne (tgt := 15) hx hb dMo_same_5 (by decide) (fun c2 => ?_) (fun c2 => ?_)
  · have bc2 := ifn_y c2
    refine lv_iconst (v := 1) hx hb dMo_same_15 (by decide) ?_
    refine lv_goto (tgt := 20) hx hb dMo_same_16 (by decide) ?_
    refine mo_putk (k1 := 1) S hT hK hP hS dMo_same_20 (fun H locs hP hS => ?_)
    have hk0 : kPl2 x2 x3 = 1 := by unfold kPl2; rw [if_pos (Or.inl bc2)]
    refine lv_aload_n hx hb dMo_same_23 rfl (lv_at hl 0 rfl) ?_
    refine mo_getk S hK hP dMo_same_24 ?_
    refine lv_if_le (tgt := 32) hx hb dMo_same_27 (by decide) (fun c3 => absurd c3 (by decide)) (fun _ => ?_)
    refine lv_iconst (v := 0) hx hb dMo_same_30 (by decide) ?_
    exact W.zret (v := 0) hx hb hr rfl (fun t ht hW => ⟨⟨(0), (), rfl, fun h => absurd h (by rw [hk0]; decide), moB_of (by rw [hk0]; exact hP) ht⟩, hS.F ht⟩) hS.2.2 dMo_same_31
  · have bc2 := ifn_n c2
    obtain ⟨a, ha, rfl⟩ := plB_not bc2
    have ea : ix (nI a) = a := ix_nI (by omega)
    have hLa := ok.2.1 a
    refine lv_iload_n hx hb dMo_same_8 rfl (lv_at hl 3 rfl) ?_
    refine nz_si (As := [.int x3]) (rest := [.ref (T 0)]) S (c_Mo_none l x3) kMo_33 ⟨rfl, rfl, Nat.le_of_ble_eq_true rfl, Nat.le_of_ble_eq_true rfl⟩ ⟨Nat.zero_le _, Nat.zero_le _⟩ (fun _ _ _ _ h => h) (fun _ _ _ => trivial) rfl hl.1 rfl (Nat.le_of_ble_eq_true rfl) dMo_same_9 (fun r4 er4 => ?_)
    subst er4
    refine lv_if_eq (tgt := 19) hx hb dMo_same_12 (by decide) (fun c5 => ?_) (fun c5 => ?_)
    · have bc5 := ifn_n c5
      obtain ⟨d, hd, rfl⟩ := plB_not bc5
      have ed : ix (nI d) = d := ix_nI (by omega)
      have hLd := ok.2.1 d
      refine lv_iconst (v := 0) hx hb dMo_same_19 (by decide) ?_
      refine mo_putk (k1 := 0) S hT hK hP hS dMo_same_20 (fun H locs hP hS => ?_)
      have hk0 : kPl2 (nI a) (nI d) = 0 := by unfold kPl2; rw [if_neg (fun h => h.elim bc2 bc5)]
      have hLa := ok.2.1 a
      have hLd := ok.2.1 d
      refine lv_aload_n hx hb dMo_same_23 rfl (lv_at hl 0 rfl) ?_
      refine mo_getk S hK hP dMo_same_24 ?_
      refine lv_if_le (tgt := 32) hx hb dMo_same_27 (by decide) (fun _ => ?_) (fun c6 => absurd (by decide) c6)
      refine lv_aload_n hx hb dMo_same_32 rfl (lv_at hl 0 rfl) ?_
      refine mo_getL S hK hP dMo_same_33 ?_
      refine lv_iload_n hx hb dMo_same_36 rfl (lv_at hl 2 rfl) ?_
      refine mo_ldL (j := a) S hK hP ha dMo_same_37 ?_
      refine lv_aload_n hx hb dMo_same_38 rfl (lv_at hl 0 rfl) ?_
      refine mo_getL S hK hP dMo_same_39 ?_
      refine lv_iload_n hx hb dMo_same_42 rfl (lv_at hl 3 rfl) ?_
      refine mo_ldL (j := d) S hK hP hd dMo_same_43 ?_
      refine lv_icmp_ne (tgt := 51) hx hb dMo_same_44 (by decide) (fun c7 => ?_) (fun c7 => ?_)
      · have mc7 : ¬ (L a) = (L d) := fun h => c7 ((nI_eq (a := (L a)) (b := (L d)) (by omega) (by omega)).mpr h)
        refine lv_iconst (v := 0) hx hb dMo_same_51 (by decide) ?_
        refine nz_eqi (y := nI (zSj b1 (mR C a) (mR C d) (L a) (L d) 0)) (zSj_0n mc7) ?_
        refine lv_istore (lv' := [(4, .int (nI (zSj b1 (mR C a) (mR C d) (L a) (L d) 0))), (0, .ref (T 0)), (1, .int (nI b1)), (2, .int (nI a)), (3, .int (nI d))]) hx hb dMo_same_52 hl (by decide) rfl (fun ls hl => ?_)
        refine lv_iconst (v := 0) hx hb dMo_same_54 (by decide) ?_
        refine lv_istore (lv' := [(5, .int 0), (4, .int (nI (zSj b1 (mR C a) (mR C d) (L a) (L d) 0))), (0, .ref (T 0)), (1, .int (nI b1)), (2, .int (nI a)), (3, .int (nI d))]) hx hb dMo_same_55 hl (by decide) rfl (fun ls hl => ?_)
        refine lpM_same l D cA T hT 0 C L O c0 ok b1 hb1 a ha d hd _ _ S hK hP (fun ls hl => ?_) (L a + 1) 0 (by omega) (by omega) (Or.inl rfl) ls (lv_sub hl [2, 3, 4, 5, 1, 0] rfl)
        refine lv_iload hx hb dMo_same_127 (lv_at hl 0 rfl) ?_
        exact W.zret (v := nI (zSame b1 (mR C a) (mR C d) (L a) (L d))) hx hb hr (zn_ok _ (zSj_01 _ _ _ _ _ _)) (fun t ht hW => ⟨⟨nI (zSame b1 (mR C a) (mR C d) (L a) (L d)), (), rfl, fun _ => by rw [ea, ed], moB_of (by rw [hk0]; exact hP) ht⟩, hS.F ht⟩) hS.2.2 dMo_same_129
      · have mc7 : (L a) = (L d) := (nI_eq (a := (L a)) (b := (L d)) (by omega) (by omega)).mp c7
        refine lv_iconst (v := 1) hx hb dMo_same_47 (by decide) ?_
        refine lv_goto (tgt := 52) hx hb dMo_same_48 (by decide) ?_
        refine nz_eqi (y := nI (zSj b1 (mR C a) (mR C d) (L a) (L d) 0)) (zSj_0y mc7) ?_
        refine lv_istore (lv' := [(4, .int (nI (zSj b1 (mR C a) (mR C d) (L a) (L d) 0))), (0, .ref (T 0)), (1, .int (nI b1)), (2, .int (nI a)), (3, .int (nI d))]) hx hb dMo_same_52 hl (by decide) rfl (fun ls hl => ?_)
        refine lv_iconst (v := 0) hx hb dMo_same_54 (by decide) ?_
        refine lv_istore (lv' := [(5, .int 0), (4, .int (nI (zSj b1 (mR C a) (mR C d) (L a) (L d) 0))), (0, .ref (T 0)), (1, .int (nI b1)), (2, .int (nI a)), (3, .int (nI d))]) hx hb dMo_same_55 hl (by decide) rfl (fun ls hl => ?_)
        refine lpM_same l D cA T hT 0 C L O c0 ok b1 hb1 a ha d hd _ _ S hK hP (fun ls hl => ?_) (L a + 1) 0 (by omega) (by omega) (Or.inl rfl) ls (lv_sub hl [2, 3, 4, 5, 1, 0] rfl)
        refine lv_iload hx hb dMo_same_127 (lv_at hl 0 rfl) ?_
        exact W.zret (v := nI (zSame b1 (mR C a) (mR C d) (L a) (L d))) hx hb hr (zn_ok _ (zSj_01 _ _ _ _ _ _)) (fun t ht hW => ⟨⟨nI (zSame b1 (mR C a) (mR C d) (L a) (L d)), (), rfl, fun _ => by rw [ea, ed], moB_of (by rw [hk0]; exact hP) ht⟩, hS.F ht⟩) hS.2.2 dMo_same_129
    · have bc5 := ifn_y c5
      refine lv_iconst (v := 1) hx hb dMo_same_15 (by decide) ?_
      refine lv_goto (tgt := 20) hx hb dMo_same_16 (by decide) ?_
      refine mo_putk (k1 := 1) S hT hK hP hS dMo_same_20 (fun H locs hP hS => ?_)
      have hk0 : kPl2 (nI a) x3 = 1 := by unfold kPl2; rw [if_pos (Or.inr bc5)]
      refine lv_aload_n hx hb dMo_same_23 rfl (lv_at hl 0 rfl) ?_
      refine mo_getk S hK hP dMo_same_24 ?_
      refine lv_if_le (tgt := 32) hx hb dMo_same_27 (by decide) (fun c8 => absurd c8 (by decide)) (fun _ => ?_)
      refine lv_iconst (v := 0) hx hb dMo_same_30 (by decide) ?_
      exact W.zret (v := 0) hx hb hr rfl (fun t ht hW => ⟨⟨(0), (), rfl, fun h => absurd h (by rw [hk0]; decide), moB_of (by rw [hk0]; exact hP) ht⟩, hS.F ht⟩) hS.2.2 dMo_same_31
set_option maxHeartbeats 4000000 in
set_option maxRecDepth 100000 in
theorem lpM_all {p : Program} {e : Env} {s : State} {m : MethodId} {args : Array Value} {below : List Frame} {meth : Method} {c : Code} {Q : State → Prop} (l : Launch) (D : va_G) (cA : ClassId) (T : Nat → Nat) (hT : moT T) (k0 : Int32) (C L O : Nat → Nat) (c0 : Nat) (ok : moOk C L O) (o : Nat) (ho : o < 4) (a : Nat) (ha : a < 16) (H : Heap) (locs : List Loc) (S : CallFix p m c bMo_all 5 s args nzG RM) (hK : va_K D vwCl (moTy cA) s) (hP : va_P D vwCl (moW cA T k0 C L O c0) H) (kk : ∀ (ls : Array Slot), lv_has ls 5 [(0, .ref (T 0)), (1, .int (nI o)), (2, .int (nI a)), (3, .int (nI (zAf o (mR C a) (L a)))), (4, .int (nI (L a)))] → W p l e ({ frames := 3, cells := 0, slots := 0, locals := 61 }) s m args below meth c H locs 0 0 Q (F0 m 145 ls [])) : ∀ (fuel j : Nat), j ≤ L a → L a < j + fuel → ∀ (ls : Array Slot), lv_has ls 5 [(0, .ref (T 0)), (1, .int (nI o)), (2, .int (nI a)), (3, .int (nI (zAf o (mR C a) j))), (4, .int (nI j))] → W p l e ({ frames := 3, cells := 0, slots := 0, locals := 61 }) s m args below meth c H locs 0 0 Q (F0 m 60 ls []) := by
  have hx := S.1
  have hb := S.2.1
  intro fuel
  induction fuel with
  | zero =>
    intro j hj hfu
    exact absurd hfu (by omega)
  | succ fuel ih =>
    intro j hj hfu ls hl
    have hLa := ok.2.1 a
    refine lv_iload hx hb dMo_all_60 (lv_at hl 4 rfl) ?_
    refine lv_aload_n hx hb dMo_all_62 rfl (lv_at hl 0 rfl) ?_
    refine mo_getL S hK hP dMo_all_63 ?_
    refine lv_iload_n hx hb dMo_all_66 rfl (lv_at hl 2 rfl) ?_
    refine mo_ldL (j := a) S hK hP ha dMo_all_67 ?_
    refine lv_icmp_ge (tgt := 145) hx hb dMo_all_68 (by decide) (fun c1 => ?_) (fun c1 => ?_)
    · have mc1 : (L a) ≤ j := (nI_leI (a := (L a)) (b := j) (by omega) (by omega)).mp c1
      have ej9 : j = L a := by omega
      rw [ej9] at hl
      exact kk ls (lv_sub hl [0, 1, 2, 3, 4] rfl)
    · have mc1 : j < (L a) := Nat.lt_of_not_le (fun h => c1 ((nI_leI (a := (L a)) (b := j) (by omega) (by omega)).mpr h))
      rcases (show o = 0 ∨ o = 1 ∨ o = 2 ∨ o = 3 by omega) with rfl | rfl | rfl | rfl
      · refine lv_iload_n hx hb dMo_all_71 rfl (lv_at hl 1 rfl) ?_
        refine lv_if_ne (tgt := 89) hx hb dMo_all_72 (by decide) (fun c2 => absurd (by decide) c2) (fun _ => ?_)
        refine lv_iload_n hx hb dMo_all_75 rfl (lv_at hl 3 rfl) ?_
        refine lv_aload_n hx hb dMo_all_76 rfl (lv_at hl 0 rfl) ?_
        refine lv_iload_n hx hb dMo_all_77 rfl (lv_at hl 2 rfl) ?_
        refine lv_iload hx hb dMo_all_78 (lv_at hl 4 rfl) ?_
        refine nz_vi (As := [.int (nI a), .int (nI j)]) (rest := [.int (nI (zAf 0 (mR C a) j))]) S (c_Mo_cell l D cA T hT k0 C L O c0 a ha j (by omega)) kMo_40 ⟨rfl, rfl, Nat.le_of_ble_eq_true rfl, Nat.le_of_ble_eq_true rfl⟩ ⟨Nat.zero_le _, Nat.zero_le _⟩ moP.bl (mo_ob hK hP) (moP.to hP hK) rfl hl.1 rfl (Nat.le_of_ble_eq_true rfl) dMo_all_80 (fun r3 er3 => ?_)
        subst er3
        refine nz_si (As := [.int (nI (zAf 0 (mR C a) j)), .int (nI (mR C a j))]) (rest := []) S (c_Mo_and l (zAf 0 (mR C a) j) (zAf_lt ho (fun k => ok.1 _) _) (mR C a j) (ok.1 _)) kMo_63 ⟨rfl, rfl, Nat.le_of_ble_eq_true rfl, Nat.le_of_ble_eq_true rfl⟩ ⟨Nat.zero_le _, Nat.zero_le _⟩ (fun _ _ _ _ h => h) (fun _ _ _ => trivial) rfl hl.1 rfl (Nat.le_of_ble_eq_true rfl) dMo_all_83 (fun r4 er4 => ?_)
        subst er4
        refine lv_goto (tgt := 138) hx hb dMo_all_86 (by decide) ?_
        refine nz_eqi (y := nI (zAf 0 (mR C a) (j + 1))) (rfl) ?_
        refine lv_istore_n (lv' := [(3, .int (nI (zAf 0 (mR C a) (j + 1)))), (0, .ref (T 0)), (1, .int 0), (2, .int (nI a)), (4, .int (nI j))]) hx hb dMo_all_138 rfl hl (by decide) rfl (fun ls hl => ?_)
        refine lv_iinc (v := nI (j + 1)) (lv' := [(4, .int (nI (j + 1))), (3, .int (nI (zAf 0 (mR C a) (j + 1)))), (0, .ref (T 0)), (1, .int 0), (2, .int (nI a))]) hx hb dMo_all_139 hl (k := 4) rfl (nI_1 j) (by decide) rfl (fun ls hl => ?_)
        refine lv_goto (tgt := 60) hx hb dMo_all_142 (by decide) ?_
        exact ih (j + 1) (by omega) (by omega) ls (lv_sub hl [2, 3, 4, 1, 0] rfl)
      · refine lv_iload_n hx hb dMo_all_71 rfl (lv_at hl 1 rfl) ?_
        refine lv_if_ne (tgt := 89) hx hb dMo_all_72 (by decide) (fun _ => ?_) (fun c5 => absurd c5 (by decide))
        refine lv_iload_n hx hb dMo_all_89 rfl (lv_at hl 1 rfl) ?_
        refine lv_iconst (v := 1) hx hb dMo_all_90 (by decide) ?_
        refine lv_icmp_ne (tgt := 108) hx hb dMo_all_91 (by decide) (fun c6 => absurd (by decide) c6) (fun _ => ?_)
        refine lv_iload_n hx hb dMo_all_94 rfl (lv_at hl 3 rfl) ?_
        refine lv_aload_n hx hb dMo_all_95 rfl (lv_at hl 0 rfl) ?_
        refine lv_iload_n hx hb dMo_all_96 rfl (lv_at hl 2 rfl) ?_
        refine lv_iload hx hb dMo_all_97 (lv_at hl 4 rfl) ?_
        refine nz_vi (As := [.int (nI a), .int (nI j)]) (rest := [.int (nI (zAf 1 (mR C a) j))]) S (c_Mo_cell l D cA T hT k0 C L O c0 a ha j (by omega)) kMo_40 ⟨rfl, rfl, Nat.le_of_ble_eq_true rfl, Nat.le_of_ble_eq_true rfl⟩ ⟨Nat.zero_le _, Nat.zero_le _⟩ moP.bl (mo_ob hK hP) (moP.to hP hK) rfl hl.1 rfl (Nat.le_of_ble_eq_true rfl) dMo_all_99 (fun r7 er7 => ?_)
        subst er7
        refine nz_si (As := [.int (nI (zAf 1 (mR C a) j)), .int (nI (mR C a j))]) (rest := []) S (c_Mo_or l (zAf 1 (mR C a) j) (zAf_lt ho (fun k => ok.1 _) _) (mR C a j) (ok.1 _)) kMo_66 ⟨rfl, rfl, Nat.le_of_ble_eq_true rfl, Nat.le_of_ble_eq_true rfl⟩ ⟨Nat.zero_le _, Nat.zero_le _⟩ (fun _ _ _ _ h => h) (fun _ _ _ => trivial) rfl hl.1 rfl (Nat.le_of_ble_eq_true rfl) dMo_all_102 (fun r8 er8 => ?_)
        subst er8
        refine lv_goto (tgt := 138) hx hb dMo_all_105 (by decide) ?_
        refine nz_eqi (y := nI (zAf 1 (mR C a) (j + 1))) (rfl) ?_
        refine lv_istore_n (lv' := [(3, .int (nI (zAf 1 (mR C a) (j + 1)))), (0, .ref (T 0)), (1, .int 1), (2, .int (nI a)), (4, .int (nI j))]) hx hb dMo_all_138 rfl hl (by decide) rfl (fun ls hl => ?_)
        refine lv_iinc (v := nI (j + 1)) (lv' := [(4, .int (nI (j + 1))), (3, .int (nI (zAf 1 (mR C a) (j + 1)))), (0, .ref (T 0)), (1, .int 1), (2, .int (nI a))]) hx hb dMo_all_139 hl (k := 4) rfl (nI_1 j) (by decide) rfl (fun ls hl => ?_)
        refine lv_goto (tgt := 60) hx hb dMo_all_142 (by decide) ?_
        exact ih (j + 1) (by omega) (by omega) ls (lv_sub hl [2, 3, 4, 1, 0] rfl)
      · refine lv_iload_n hx hb dMo_all_71 rfl (lv_at hl 1 rfl) ?_
        refine lv_if_ne (tgt := 89) hx hb dMo_all_72 (by decide) (fun _ => ?_) (fun c9 => absurd c9 (by decide))
        refine lv_iload_n hx hb dMo_all_89 rfl (lv_at hl 1 rfl) ?_
        refine lv_iconst (v := 1) hx hb dMo_all_90 (by decide) ?_
        refine lv_icmp_ne (tgt := 108) hx hb dMo_all_91 (by decide) (fun _ => ?_) (fun c10 => absurd c10 (by decide))
        refine lv_iload_n hx hb dMo_all_108 rfl (lv_at hl 1 rfl) ?_
        refine lv_iconst (v := 2) hx hb dMo_all_109 (by decide) ?_
        refine lv_icmp_ne (tgt := 127) hx hb dMo_all_110 (by decide) (fun c11 => absurd (by decide) c11) (fun _ => ?_)
        refine lv_iload_n hx hb dMo_all_113 rfl (lv_at hl 3 rfl) ?_
        refine lv_aload_n hx hb dMo_all_114 rfl (lv_at hl 0 rfl) ?_
        refine lv_iload_n hx hb dMo_all_115 rfl (lv_at hl 2 rfl) ?_
        refine lv_iload hx hb dMo_all_116 (lv_at hl 4 rfl) ?_
        refine nz_vi (As := [.int (nI a), .int (nI j)]) (rest := [.int (nI (zAf 2 (mR C a) j))]) S (c_Mo_cell l D cA T hT k0 C L O c0 a ha j (by omega)) kMo_40 ⟨rfl, rfl, Nat.le_of_ble_eq_true rfl, Nat.le_of_ble_eq_true rfl⟩ ⟨Nat.zero_le _, Nat.zero_le _⟩ moP.bl (mo_ob hK hP) (moP.to hP hK) rfl hl.1 rfl (Nat.le_of_ble_eq_true rfl) dMo_all_118 (fun r12 er12 => ?_)
        subst er12
        refine nz_si (As := [.int (nI (zAf 2 (mR C a) j)), .int (nI (mR C a j))]) (rest := []) S (c_Mo_xor l (zAf 2 (mR C a) j) (zAf_lt ho (fun k => ok.1 _) _) (mR C a j) (ok.1 _)) kMo_69 ⟨rfl, rfl, Nat.le_of_ble_eq_true rfl, Nat.le_of_ble_eq_true rfl⟩ ⟨Nat.zero_le _, Nat.zero_le _⟩ (fun _ _ _ _ h => h) (fun _ _ _ => trivial) rfl hl.1 rfl (Nat.le_of_ble_eq_true rfl) dMo_all_121 (fun r13 er13 => ?_)
        subst er13
        refine lv_goto (tgt := 138) hx hb dMo_all_124 (by decide) ?_
        refine nz_eqi (y := nI (zAf 2 (mR C a) (j + 1))) (rfl) ?_
        refine lv_istore_n (lv' := [(3, .int (nI (zAf 2 (mR C a) (j + 1)))), (0, .ref (T 0)), (1, .int 2), (2, .int (nI a)), (4, .int (nI j))]) hx hb dMo_all_138 rfl hl (by decide) rfl (fun ls hl => ?_)
        refine lv_iinc (v := nI (j + 1)) (lv' := [(4, .int (nI (j + 1))), (3, .int (nI (zAf 2 (mR C a) (j + 1)))), (0, .ref (T 0)), (1, .int 2), (2, .int (nI a))]) hx hb dMo_all_139 hl (k := 4) rfl (nI_1 j) (by decide) rfl (fun ls hl => ?_)
        refine lv_goto (tgt := 60) hx hb dMo_all_142 (by decide) ?_
        exact ih (j + 1) (by omega) (by omega) ls (lv_sub hl [2, 3, 4, 1, 0] rfl)
      · refine lv_iload_n hx hb dMo_all_71 rfl (lv_at hl 1 rfl) ?_
        refine lv_if_ne (tgt := 89) hx hb dMo_all_72 (by decide) (fun _ => ?_) (fun c14 => absurd c14 (by decide))
        refine lv_iload_n hx hb dMo_all_89 rfl (lv_at hl 1 rfl) ?_
        refine lv_iconst (v := 1) hx hb dMo_all_90 (by decide) ?_
        refine lv_icmp_ne (tgt := 108) hx hb dMo_all_91 (by decide) (fun _ => ?_) (fun c15 => absurd c15 (by decide))
        refine lv_iload_n hx hb dMo_all_108 rfl (lv_at hl 1 rfl) ?_
        refine lv_iconst (v := 2) hx hb dMo_all_109 (by decide) ?_
        refine lv_icmp_ne (tgt := 127) hx hb dMo_all_110 (by decide) (fun _ => ?_) (fun c16 => absurd c16 (by decide))
        refine lv_iload_n hx hb dMo_all_127 rfl (lv_at hl 3 rfl) ?_
        refine lv_aload_n hx hb dMo_all_128 rfl (lv_at hl 0 rfl) ?_
        refine lv_iload_n hx hb dMo_all_129 rfl (lv_at hl 2 rfl) ?_
        refine lv_iload hx hb dMo_all_130 (lv_at hl 4 rfl) ?_
        refine nz_vi (As := [.int (nI a), .int (nI j)]) (rest := [.int (nI (zAf 3 (mR C a) j))]) S (c_Mo_cell l D cA T hT k0 C L O c0 a ha j (by omega)) kMo_40 ⟨rfl, rfl, Nat.le_of_ble_eq_true rfl, Nat.le_of_ble_eq_true rfl⟩ ⟨Nat.zero_le _, Nat.zero_le _⟩ moP.bl (mo_ob hK hP) (moP.to hP hK) rfl hl.1 rfl (Nat.le_of_ble_eq_true rfl) dMo_all_132 (fun r17 er17 => ?_)
        subst er17
        refine nz_si (As := [.int (nI (zAf 3 (mR C a) j)), .int (nI (mR C a j))]) (rest := []) S (c_Mo_together l (zAf 3 (mR C a) j) (zAf_lt ho (fun k => ok.1 _) _) (mR C a j) (ok.1 _)) kMo_60 ⟨rfl, rfl, Nat.le_of_ble_eq_true rfl, Nat.le_of_ble_eq_true rfl⟩ ⟨Nat.zero_le _, Nat.zero_le _⟩ (fun _ _ _ _ h => h) (fun _ _ _ => trivial) rfl hl.1 rfl (Nat.le_of_ble_eq_true rfl) dMo_all_135 (fun r18 er18 => ?_)
        subst er18
        refine nz_eqi (y := nI (zAf 3 (mR C a) (j + 1))) (rfl) ?_
        refine lv_istore_n (lv' := [(3, .int (nI (zAf 3 (mR C a) (j + 1)))), (0, .ref (T 0)), (1, .int 3), (2, .int (nI a)), (4, .int (nI j))]) hx hb dMo_all_138 rfl hl (by decide) rfl (fun ls hl => ?_)
        refine lv_iinc (v := nI (j + 1)) (lv' := [(4, .int (nI (j + 1))), (3, .int (nI (zAf 3 (mR C a) (j + 1)))), (0, .ref (T 0)), (1, .int 3), (2, .int (nI a))]) hx hb dMo_all_139 hl (k := 4) rfl (nI_1 j) (by decide) rfl (fun ls hl => ?_)
        refine lv_goto (tgt := 60) hx hb dMo_all_142 (by decide) ?_
        exact ih (j + 1) (by omega) (by omega) ls (lv_sub hl [2, 3, 4, 1, 0] rfl)
set_option maxHeartbeats 4000000 in
set_option maxRecDepth 100000 in
theorem c_Mo_all (l : Launch) (D : va_G) (cA : ClassId) (T : Nat → Nat) (hT : moT T) (k0 : Int32) (C L O : Nat → Nat) (c0 : Nat) (ok : moOk C L O) (x1 x2 : Int32) : Met l yMo_all (Cond.code yMo_all bMo_all 5 (some .int) :: nzG) ({ frames := 3, cells := 0, slots := 0, locals := 61 }) (va_Pc [.ref (T 0), .int x1, .int x2] (moP D cA (moW cA T k0 C L O c0))) (va_Qi (fun r (_ : Unit) => (kAll x1 x2) = 0 → r = nI (zAllOf (ix x1) (mR C (ix x2)) (L (ix x2)))) (fun _ t => moB D cA T C L O c0 (kAll x1 x2) t) (moA T)) 0 0 (moA T) := by
  refine nz_of (own := RM) (by decide) rfl ?_
  intro p e s m args below meth c S hr hlocks _ hv9
  obtain ⟨rfl, hP, hK⟩ := hv9
  have hS : va_S (moA T) s.heap s.heap [] := va_S.rf
  have hx := S.1
  have hb := S.2.1
  refine nz_entry (vs := [.ref (T 0), .int x1, .int x2]) (n := 5) (lv := [(0, .ref (T 0)), (1, .int x1), (2, .int x2)]) (Nat.le_of_ble_eq_true rfl) rfl (fun ls hl => ?_)
  refine lv_aload_n hx hb dMo_all_0 rfl (lv_at hl 0 rfl) ?_
  refine lv_iload_n hx hb dMo_all_1 rfl (lv_at hl 2 rfl) ?_
  refine nz_si (As := [.int x2]) (rest := [.ref (T 0)]) S (c_Mo_none l x2) kMo_33 ⟨rfl, rfl, Nat.le_of_ble_eq_true rfl, Nat.le_of_ble_eq_true rfl⟩ ⟨Nat.zero_le _, Nat.zero_le _⟩ (fun _ _ _ _ h => h) (fun _ _ _ => trivial) rfl hl.1 rfl (Nat.le_of_ble_eq_true rfl) dMo_all_2 (fun r1 er1 => ?_)
  subst er1
  refine lv_if_eq (tgt := 12) hx hb dMo_all_5 (by decide) (fun c2 => ?_) (fun c2 => ?_)
  · have bc2 := ifn_n c2
    obtain ⟨a, ha, rfl⟩ := plB_not bc2
    have ea : ix (nI a) = a := ix_nI (by omega)
    have hLa := ok.2.1 a
    refine lv_iload_n hx hb dMo_all_12 rfl (lv_at hl 1 rfl) ?_
    refine lv_if_lt (tgt := 21) hx hb dMo_all_13 (by decide) (fun c3 => ?_) (fun c3 => ?_)
    · refine lv_iconst (v := 2) hx hb dMo_all_21 (by decide) ?_
      refine lv_goto (tgt := 26) hx hb dMo_all_22 (by decide) ?_
      refine mo_putk (k1 := 2) S hT hK hP hS dMo_all_26 (fun H locs hP hS => ?_)
      have hk0 : kAll x1 (nI a) = 2 := by unfold kAll; rw [if_neg bc2, if_pos (Or.inl c3)]
      refine lv_aload_n hx hb dMo_all_29 rfl (lv_at hl 0 rfl) ?_
      refine mo_getk S hK hP dMo_all_30 ?_
      refine lv_if_le (tgt := 38) hx hb dMo_all_33 (by decide) (fun c4 => absurd c4 (by decide)) (fun _ => ?_)
      refine lv_iconst (v := 0) hx hb dMo_all_36 (by decide) ?_
      exact W.iret (v := 0) hx hb hr (fun t ht hW => ⟨⟨(0), (), rfl, fun h => absurd h (by rw [hk0]; decide), moB_of (by rw [hk0]; exact hP) ht⟩, hS.F ht⟩) hS.2.2 dMo_all_37
    · refine lv_iload_n hx hb dMo_all_16 rfl (lv_at hl 1 rfl) ?_
      refine lv_iconst (v := 3) hx hb dMo_all_17 (by decide) ?_
      refine lv_icmp_le (tgt := 25) hx hb dMo_all_18 (by decide) (fun c5 => ?_) (fun c5 => ?_)
      · refine lv_iconst (v := 0) hx hb dMo_all_25 (by decide) ?_
        refine mo_putk (k1 := 0) S hT hK hP hS dMo_all_26 (fun H locs hP hS => ?_)
        have hk0 : kAll x1 (nI a) = 0 := by unfold kAll; rw [if_neg bc2, if_neg (fun h => h.elim c3 (fun q => Int32.not_lt.mpr c5 q))]
        have hLa := ok.2.1 a
        obtain ⟨o, ho, rfl⟩ := in_not' (N := 3) (x := x1) rfl (by decide) (fun h => h.elim c3 (fun q => Int32.not_lt.mpr c5 q))
        have eo : ix (nI o) = o := ix_nI (by omega)
        refine lv_aload_n hx hb dMo_all_29 rfl (lv_at hl 0 rfl) ?_
        refine mo_getk S hK hP dMo_all_30 ?_
        refine lv_if_le (tgt := 38) hx hb dMo_all_33 (by decide) (fun _ => ?_) (fun c6 => absurd (by decide) c6)
        refine lv_iload_n hx hb dMo_all_38 rfl (lv_at hl 1 rfl) ?_
        refine lv_if_ne (tgt := 46) hx hb dMo_all_39 (by decide) (fun c7 => ?_) (fun c7 => ?_)
        · have mc7 : ¬ o = 0 := fun h => c7 ((nI_eq (a := o) (b := 0) (by omega) (by omega)).mpr h)
          refine lv_iload_n hx hb dMo_all_46 rfl (lv_at hl 1 rfl) ?_
          refine lv_iconst (v := 3) hx hb dMo_all_47 (by decide) ?_
          refine lv_icmp_ne (tgt := 55) hx hb dMo_all_48 (by decide) (fun c8 => ?_) (fun c8 => ?_)
          · have mc8 : ¬ o = 3 := fun h => c8 ((nI_eq (a := o) (b := 3) (by omega) (by omega)).mpr h)
            refine lv_iconst (v := 2) hx hb dMo_all_55 (by decide) ?_
            refine nz_eqi (y := nI (zAf o (mR C a) 0)) (by show _ = nI (zStK o); unfold zStK; rw [if_neg mc7, if_neg mc8]; rfl) ?_
            refine lv_istore_n (lv' := [(3, .int (nI (zAf o (mR C a) 0))), (0, .ref (T 0)), (1, .int (nI o)), (2, .int (nI a))]) hx hb dMo_all_56 rfl hl (by decide) rfl (fun ls hl => ?_)
            refine lv_iconst (v := 0) hx hb dMo_all_57 (by decide) ?_
            refine lv_istore (lv' := [(4, .int 0), (3, .int (nI (zAf o (mR C a) 0))), (0, .ref (T 0)), (1, .int (nI o)), (2, .int (nI a))]) hx hb dMo_all_58 hl (by decide) rfl (fun ls hl => ?_)
            refine lpM_all l D cA T hT 0 C L O c0 ok o (by omega) a ha _ _ S hK hP (fun ls hl => ?_) (L a + 1) 0 (by omega) (by omega) ls (lv_sub hl [2, 3, 4, 1, 0] rfl)
            refine lv_iload_n hx hb dMo_all_145 rfl (lv_at hl 3 rfl) ?_
            exact W.iret (v := nI (zAf o (mR C a) (L a))) hx hb hr (fun t ht hW => ⟨⟨nI (zAf o (mR C a) (L a)), (), rfl, fun _ => by rw [eo, ea, zAf_N o (by omega)], moB_of (by rw [hk0]; exact hP) ht⟩, hS.F ht⟩) hS.2.2 dMo_all_146
          · have mc8 : o = 3 := (nI_eq (a := o) (b := 3) (by omega) (by omega)).mp c8
            refine lv_iconst (v := 4) hx hb dMo_all_51 (by decide) ?_
            refine lv_goto (tgt := 56) hx hb dMo_all_52 (by decide) ?_
            refine nz_eqi (y := nI (zAf o (mR C a) 0)) (by show _ = nI (zStK o); unfold zStK; rw [if_neg mc7, if_pos mc8]; rfl) ?_
            refine lv_istore_n (lv' := [(3, .int (nI (zAf o (mR C a) 0))), (0, .ref (T 0)), (1, .int (nI o)), (2, .int (nI a))]) hx hb dMo_all_56 rfl hl (by decide) rfl (fun ls hl => ?_)
            refine lv_iconst (v := 0) hx hb dMo_all_57 (by decide) ?_
            refine lv_istore (lv' := [(4, .int 0), (3, .int (nI (zAf o (mR C a) 0))), (0, .ref (T 0)), (1, .int (nI o)), (2, .int (nI a))]) hx hb dMo_all_58 hl (by decide) rfl (fun ls hl => ?_)
            refine lpM_all l D cA T hT 0 C L O c0 ok o (by omega) a ha _ _ S hK hP (fun ls hl => ?_) (L a + 1) 0 (by omega) (by omega) ls (lv_sub hl [2, 3, 4, 1, 0] rfl)
            refine lv_iload_n hx hb dMo_all_145 rfl (lv_at hl 3 rfl) ?_
            exact W.iret (v := nI (zAf o (mR C a) (L a))) hx hb hr (fun t ht hW => ⟨⟨nI (zAf o (mR C a) (L a)), (), rfl, fun _ => by rw [eo, ea, zAf_N o (by omega)], moB_of (by rw [hk0]; exact hP) ht⟩, hS.F ht⟩) hS.2.2 dMo_all_146
        · have mc7 : o = 0 := (nI_eq (a := o) (b := 0) (by omega) (by omega)).mp c7
          refine lv_iconst (v := 3) hx hb dMo_all_42 (by decide) ?_
          refine lv_goto (tgt := 56) hx hb dMo_all_43 (by decide) ?_
          refine nz_eqi (y := nI (zAf o (mR C a) 0)) (by show _ = nI (zStK o); unfold zStK; rw [if_pos mc7]; rfl) ?_
          refine lv_istore_n (lv' := [(3, .int (nI (zAf o (mR C a) 0))), (0, .ref (T 0)), (1, .int (nI o)), (2, .int (nI a))]) hx hb dMo_all_56 rfl hl (by decide) rfl (fun ls hl => ?_)
          refine lv_iconst (v := 0) hx hb dMo_all_57 (by decide) ?_
          refine lv_istore (lv' := [(4, .int 0), (3, .int (nI (zAf o (mR C a) 0))), (0, .ref (T 0)), (1, .int (nI o)), (2, .int (nI a))]) hx hb dMo_all_58 hl (by decide) rfl (fun ls hl => ?_)
          refine lpM_all l D cA T hT 0 C L O c0 ok o (by omega) a ha _ _ S hK hP (fun ls hl => ?_) (L a + 1) 0 (by omega) (by omega) ls (lv_sub hl [2, 3, 4, 1, 0] rfl)
          refine lv_iload_n hx hb dMo_all_145 rfl (lv_at hl 3 rfl) ?_
          exact W.iret (v := nI (zAf o (mR C a) (L a))) hx hb hr (fun t ht hW => ⟨⟨nI (zAf o (mR C a) (L a)), (), rfl, fun _ => by rw [eo, ea, zAf_N o (by omega)], moB_of (by rw [hk0]; exact hP) ht⟩, hS.F ht⟩) hS.2.2 dMo_all_146
      · refine lv_iconst (v := 2) hx hb dMo_all_21 (by decide) ?_
        refine lv_goto (tgt := 26) hx hb dMo_all_22 (by decide) ?_
        refine mo_putk (k1 := 2) S hT hK hP hS dMo_all_26 (fun H locs hP hS => ?_)
        have hk0 : kAll x1 (nI a) = 2 := by unfold kAll; rw [if_neg bc2, if_pos (Or.inr (Int32.not_le.mp c5))]
        refine lv_aload_n hx hb dMo_all_29 rfl (lv_at hl 0 rfl) ?_
        refine mo_getk S hK hP dMo_all_30 ?_
        refine lv_if_le (tgt := 38) hx hb dMo_all_33 (by decide) (fun c9 => absurd c9 (by decide)) (fun _ => ?_)
        refine lv_iconst (v := 0) hx hb dMo_all_36 (by decide) ?_
        exact W.iret (v := 0) hx hb hr (fun t ht hW => ⟨⟨(0), (), rfl, fun h => absurd h (by rw [hk0]; decide), moB_of (by rw [hk0]; exact hP) ht⟩, hS.F ht⟩) hS.2.2 dMo_all_37
  · have bc2 := ifn_y c2
    refine lv_iconst (v := 1) hx hb dMo_all_8 (by decide) ?_
    refine lv_goto (tgt := 26) hx hb dMo_all_9 (by decide) ?_
    refine mo_putk (k1 := 1) S hT hK hP hS dMo_all_26 (fun H locs hP hS => ?_)
    have hk0 : kAll x1 x2 = 1 := by unfold kAll; rw [if_pos bc2]
    refine lv_aload_n hx hb dMo_all_29 rfl (lv_at hl 0 rfl) ?_
    refine mo_getk S hK hP dMo_all_30 ?_
    refine lv_if_le (tgt := 38) hx hb dMo_all_33 (by decide) (fun c10 => absurd c10 (by decide)) (fun _ => ?_)
    refine lv_iconst (v := 0) hx hb dMo_all_36 (by decide) ?_
    exact W.iret (v := 0) hx hb hr (fun t ht hW => ⟨⟨(0), (), rfl, fun h => absurd h (by rw [hk0]; decide), moB_of (by rw [hk0]; exact hP) ht⟩, hS.F ht⟩) hS.2.2 dMo_all_37
set_option maxHeartbeats 4000000 in
set_option maxRecDepth 100000 in
theorem lpM_value {p : Program} {e : Env} {s : State} {m : MethodId} {args : Array Value} {below : List Frame} {meth : Method} {c : Code} {Q : State → Prop} (l : Launch) (D : va_G) (cA : ClassId) (T : Nat → Nat) (hT : moT T) (k0 : Int32) (C L O : Nat → Nat) (c0 : Nat) (ok : moOk C L O) (a : Nat) (ha : a < 16) (b1 : Nat) (hb1 : b1 < 2) (H : Heap) (locs : List Loc) (S : CallFix p m c bMo_value 9 s args nzG RM) (hK : va_K D vwCl (moTy cA) s) (hP : va_P D vwCl (moW cA T k0 C L O c0) H) (kk : ∀ (ls : Array Slot), lv_has ls 9 [(0, .ref (T 0)), (1, .int (nI a)), (2, .int (nI b1)), (3, .long (lN (zVv b1 (mR C a) (L a) (L a)))), (5, .long (lN (2 ^ (L a)))), (7, .int (nI (L a)))] → W p l e ({ frames := 1, cells := 0, slots := 0, locals := 22 }) s m args below meth c H locs 0 0 Q (F0 m 87 ls [])) : ∀ (fuel j : Nat), j ≤ L a → L a < j + fuel → ∀ (ls : Array Slot), lv_has ls 9 [(0, .ref (T 0)), (1, .int (nI a)), (2, .int (nI b1)), (3, .long (lN (zVv b1 (mR C a) (L a) j))), (5, .long (lN (2 ^ j))), (7, .int (nI j))] → W p l e ({ frames := 1, cells := 0, slots := 0, locals := 22 }) s m args below meth c H locs 0 0 Q (F0 m 8 ls []) := by
  have hx := S.1
  have hb := S.2.1
  intro fuel
  induction fuel with
  | zero =>
    intro j hj hfu
    exact absurd hfu (by omega)
  | succ fuel ih =>
    intro j hj hfu ls hl
    have hLa := ok.2.1 a
    refine lv_iload hx hb dMo_value_8 (lv_at hl 5 rfl) ?_
    refine lv_aload_n hx hb dMo_value_10 rfl (lv_at hl 0 rfl) ?_
    refine mo_getL S hK hP dMo_value_11 ?_
    refine lv_iload_n hx hb dMo_value_14 rfl (lv_at hl 1 rfl) ?_
    refine mo_ldL (j := a) S hK hP ha dMo_value_15 ?_
    refine lv_icmp_ge (tgt := 87) hx hb dMo_value_16 (by decide) (fun c1 => ?_) (fun c1 => ?_)
    · have mc1 : (L a) ≤ j := (nI_leI (a := (L a)) (b := j) (by omega) (by omega)).mp c1
      have ej9 : j = L a := by omega
      rw [ej9] at hl
      exact kk ls (lv_sub hl [0, 1, 2, 3, 4, 5] rfl)
    · have mc1 : j < (L a) := Nat.lt_of_not_le (fun h => c1 ((nI_leI (a := (L a)) (b := j) (by omega) (by omega)).mpr h))
      have m16 : j < L a := mc1
      refine lv_iload hx hb dMo_value_19 (lv_at hl 5 rfl) ?_
      refine lv_aload_n hx hb dMo_value_21 rfl (lv_at hl 0 rfl) ?_
      refine mo_getL S hK hP dMo_value_22 ?_
      refine lv_iload_n hx hb dMo_value_25 rfl (lv_at hl 1 rfl) ?_
      refine mo_ldL (j := a) S hK hP ha dMo_value_26 ?_
      refine lv_iconst (v := 1) hx hb dMo_value_27 (by decide) ?_
      refine lv_isub hx hb dMo_value_28 ?_
      refine nz_eqi (show nI (L a) - nI 1 = nI (L a - 1) from pk_sub (by omega)) ?_
      refine lv_icmp_ne (tgt := 36) hx hb dMo_value_29 (by decide) (fun c2 => ?_) (fun c2 => ?_)
      · have mc2 : ¬ j = (L a - 1) := fun h => c2 ((nI_eq (a := j) (b := (L a - 1)) (by omega) (by omega)).mpr h)
        refine lv_iconst (v := 0) hx hb dMo_value_36 (by decide) ?_
        refine lv_istore (lv' := [(8, .int 0), (0, .ref (T 0)), (1, .int (nI a)), (2, .int (nI b1)), (3, .long (lN (zVv b1 (mR C a) (L a) j))), (5, .long (lN (2 ^ j))), (7, .int (nI j))]) hx hb dMo_value_37 hl (by decide) rfl (fun ls hl => ?_)
        refine lv_aload_n hx hb dMo_value_39 rfl (lv_at hl 1 rfl) ?_
        refine lv_iload_n hx hb dMo_value_40 rfl (lv_at hl 2 rfl) ?_
        refine lv_iload hx hb dMo_value_41 (lv_at hl 6 rfl) ?_
        refine nz_vi (As := [.int (nI a), .int (nI j)]) (rest := []) S (c_Mo_cell l D cA T hT k0 C L O c0 a ha j (by omega)) kMo_40 ⟨rfl, rfl, Nat.le_of_ble_eq_true rfl, Nat.le_of_ble_eq_true rfl⟩ ⟨Nat.zero_le _, Nat.zero_le _⟩ moP.bl (mo_ob hK hP) (moP.to hP hK) rfl hl.1 rfl (Nat.le_of_ble_eq_true rfl) dMo_value_43 (fun r3 er3 => ?_)
        subst er3
        refine nz_si (As := [.int (nI (mR C a j))]) (rest := []) S (c_Mo_isHigh l (mR C a j) (ok.1 _)) kMo_27 ⟨rfl, rfl, Nat.le_of_ble_eq_true rfl, Nat.le_of_ble_eq_true rfl⟩ ⟨Nat.zero_le _, Nat.zero_le _⟩ (fun _ _ _ _ h => h) (fun _ _ _ => trivial) rfl hl.1 rfl (Nat.le_of_ble_eq_true rfl) dMo_value_46 (fun r4 er4 => ?_)
        subst er4
        refine lv_if_eq (tgt := 73) hx hb dMo_value_49 (by decide) (fun c5 => ?_) (fun c5 => ?_)
        · rw [show zVv b1 (mR C a) (L a) j = zVv b1 (mR C a) (L a) (j + 1) by rw [zVv_lt m16, zVv_n (f := mR C a) (j := j) (zH_n (ok.1 _) c5)]] at hl
          refine lv_ldc2 (v := 2) hx hb S.2.2.2.1 (S.2.2.2.2 _ kMo_c51) dMo_value_73 ?_
          refine lv_lload hx hb dMo_value_76 (lv_at hl 5 rfl) ?_
          refine lv_lmul hx hb dMo_value_78 ?_
          refine nz_eql (lN_2p j) ?_
          refine lv_lstore (lv' := [(5, .long (lN (2 ^ (j + 1)))), (8, .int 0), (0, .ref (T 0)), (1, .int (nI a)), (2, .int (nI b1)), (3, .long (lN (zVv b1 (mR C a) (L a) (j + 1)))), (7, .int (nI j))]) hx hb dMo_value_79 hl (by decide) rfl (fun ls hl => ?_)
          refine lv_iinc (v := nI (j + 1)) (lv' := [(7, .int (nI (j + 1))), (5, .long (lN (2 ^ (j + 1)))), (8, .int 0), (0, .ref (T 0)), (1, .int (nI a)), (2, .int (nI b1)), (3, .long (lN (zVv b1 (mR C a) (L a) (j + 1))))]) hx hb dMo_value_81 hl (k := 6) rfl (nI_1 j) (by decide) rfl (fun ls hl => ?_)
          refine lv_goto (tgt := 8) hx hb dMo_value_84 (by decide) ?_
          exact ih (j + 1) (by omega) (by omega) ls (lv_sub hl [3, 4, 5, 6, 1, 0] rfl)
        · refine lv_iload_n hx hb dMo_value_52 rfl (lv_at hl 3 rfl) ?_
          refine lv_if_eq (tgt := 68) hx hb dMo_value_53 (by decide) (fun c6 => ?_) (fun c6 => ?_)
          · have mc6 : b1 = 0 := (nI_eq (a := b1) (b := 0) (by omega) (by omega)).mp c6
            refine lv_lload_n hx hb dMo_value_68 rfl (lv_at hl 4 rfl) ?_
            refine lv_lload hx hb dMo_value_69 (lv_at hl 5 rfl) ?_
            refine lv_ladd hx hb dMo_value_71 ?_
            refine nz_eql (y := lN (zVv b1 (mR C a) (L a) (j + 1))) (by rw [zVv_lt m16, zVv_p (f := mR C a) (j := j) (zH_y (ok.1 _) c5) (Or.inl mc6)]; exact lN_add _ _) ?_
            refine lv_lstore_n (lv' := [(3, .long (lN (zVv b1 (mR C a) (L a) (j + 1)))), (8, .int 0), (0, .ref (T 0)), (1, .int (nI a)), (2, .int (nI b1)), (5, .long (lN (2 ^ j))), (7, .int (nI j))]) hx hb dMo_value_72 rfl hl (by decide) rfl (fun ls hl => ?_)
            refine lv_ldc2 (v := 2) hx hb S.2.2.2.1 (S.2.2.2.2 _ kMo_c51) dMo_value_73 ?_
            refine lv_lload hx hb dMo_value_76 (lv_at hl 5 rfl) ?_
            refine lv_lmul hx hb dMo_value_78 ?_
            refine nz_eql (lN_2p j) ?_
            refine lv_lstore (lv' := [(5, .long (lN (2 ^ (j + 1)))), (3, .long (lN (zVv b1 (mR C a) (L a) (j + 1)))), (8, .int 0), (0, .ref (T 0)), (1, .int (nI a)), (2, .int (nI b1)), (7, .int (nI j))]) hx hb dMo_value_79 hl (by decide) rfl (fun ls hl => ?_)
            refine lv_iinc (v := nI (j + 1)) (lv' := [(7, .int (nI (j + 1))), (5, .long (lN (2 ^ (j + 1)))), (3, .long (lN (zVv b1 (mR C a) (L a) (j + 1)))), (8, .int 0), (0, .ref (T 0)), (1, .int (nI a)), (2, .int (nI b1))]) hx hb dMo_value_81 hl (k := 6) rfl (nI_1 j) (by decide) rfl (fun ls hl => ?_)
            refine lv_goto (tgt := 8) hx hb dMo_value_84 (by decide) ?_
            exact ih (j + 1) (by omega) (by omega) ls (lv_sub hl [4, 5, 6, 2, 1, 0] rfl)
          · have mc6 : ¬ b1 = 0 := fun h => c6 ((nI_eq (a := b1) (b := 0) (by omega) (by omega)).mpr h)
            refine lv_iload hx hb dMo_value_56 (lv_at hl 0 rfl) ?_
            refine lv_if_eq (tgt := 68) hx hb dMo_value_58 (by decide) (fun _ => ?_) (fun c7 => absurd (by decide) c7)
            refine lv_lload_n hx hb dMo_value_68 rfl (lv_at hl 4 rfl) ?_
            refine lv_lload hx hb dMo_value_69 (lv_at hl 5 rfl) ?_
            refine lv_ladd hx hb dMo_value_71 ?_
            refine nz_eql (y := lN (zVv b1 (mR C a) (L a) (j + 1))) (by rw [zVv_lt m16, zVv_p (f := mR C a) (j := j) (zH_y (ok.1 _) c5) (Or.inr mc2)]; exact lN_add _ _) ?_
            refine lv_lstore_n (lv' := [(3, .long (lN (zVv b1 (mR C a) (L a) (j + 1)))), (8, .int 0), (0, .ref (T 0)), (1, .int (nI a)), (2, .int (nI b1)), (5, .long (lN (2 ^ j))), (7, .int (nI j))]) hx hb dMo_value_72 rfl hl (by decide) rfl (fun ls hl => ?_)
            refine lv_ldc2 (v := 2) hx hb S.2.2.2.1 (S.2.2.2.2 _ kMo_c51) dMo_value_73 ?_
            refine lv_lload hx hb dMo_value_76 (lv_at hl 5 rfl) ?_
            refine lv_lmul hx hb dMo_value_78 ?_
            refine nz_eql (lN_2p j) ?_
            refine lv_lstore (lv' := [(5, .long (lN (2 ^ (j + 1)))), (3, .long (lN (zVv b1 (mR C a) (L a) (j + 1)))), (8, .int 0), (0, .ref (T 0)), (1, .int (nI a)), (2, .int (nI b1)), (7, .int (nI j))]) hx hb dMo_value_79 hl (by decide) rfl (fun ls hl => ?_)
            refine lv_iinc (v := nI (j + 1)) (lv' := [(7, .int (nI (j + 1))), (5, .long (lN (2 ^ (j + 1)))), (3, .long (lN (zVv b1 (mR C a) (L a) (j + 1)))), (8, .int 0), (0, .ref (T 0)), (1, .int (nI a)), (2, .int (nI b1))]) hx hb dMo_value_81 hl (k := 6) rfl (nI_1 j) (by decide) rfl (fun ls hl => ?_)
            refine lv_goto (tgt := 8) hx hb dMo_value_84 (by decide) ?_
            exact ih (j + 1) (by omega) (by omega) ls (lv_sub hl [4, 5, 6, 2, 1, 0] rfl)
      · have mc2 : j = (L a - 1) := (nI_eq (a := j) (b := (L a - 1)) (by omega) (by omega)).mp c2
        refine lv_iconst (v := 1) hx hb dMo_value_32 (by decide) ?_
        refine lv_goto (tgt := 37) hx hb dMo_value_33 (by decide) ?_
        refine lv_istore (lv' := [(8, .int 1), (0, .ref (T 0)), (1, .int (nI a)), (2, .int (nI b1)), (3, .long (lN (zVv b1 (mR C a) (L a) j))), (5, .long (lN (2 ^ j))), (7, .int (nI j))]) hx hb dMo_value_37 hl (by decide) rfl (fun ls hl => ?_)
        refine lv_aload_n hx hb dMo_value_39 rfl (lv_at hl 1 rfl) ?_
        refine lv_iload_n hx hb dMo_value_40 rfl (lv_at hl 2 rfl) ?_
        refine lv_iload hx hb dMo_value_41 (lv_at hl 6 rfl) ?_
        refine nz_vi (As := [.int (nI a), .int (nI j)]) (rest := []) S (c_Mo_cell l D cA T hT k0 C L O c0 a ha j (by omega)) kMo_40 ⟨rfl, rfl, Nat.le_of_ble_eq_true rfl, Nat.le_of_ble_eq_true rfl⟩ ⟨Nat.zero_le _, Nat.zero_le _⟩ moP.bl (mo_ob hK hP) (moP.to hP hK) rfl hl.1 rfl (Nat.le_of_ble_eq_true rfl) dMo_value_43 (fun r8 er8 => ?_)
        subst er8
        refine nz_si (As := [.int (nI (mR C a j))]) (rest := []) S (c_Mo_isHigh l (mR C a j) (ok.1 _)) kMo_27 ⟨rfl, rfl, Nat.le_of_ble_eq_true rfl, Nat.le_of_ble_eq_true rfl⟩ ⟨Nat.zero_le _, Nat.zero_le _⟩ (fun _ _ _ _ h => h) (fun _ _ _ => trivial) rfl hl.1 rfl (Nat.le_of_ble_eq_true rfl) dMo_value_46 (fun r9 er9 => ?_)
        subst er9
        refine lv_if_eq (tgt := 73) hx hb dMo_value_49 (by decide) (fun c10 => ?_) (fun c10 => ?_)
        · rw [show zVv b1 (mR C a) (L a) j = zVv b1 (mR C a) (L a) (j + 1) by rw [zVv_lt m16, zVv_n (f := mR C a) (j := j) (zH_n (ok.1 _) c10)]] at hl
          refine lv_ldc2 (v := 2) hx hb S.2.2.2.1 (S.2.2.2.2 _ kMo_c51) dMo_value_73 ?_
          refine lv_lload hx hb dMo_value_76 (lv_at hl 5 rfl) ?_
          refine lv_lmul hx hb dMo_value_78 ?_
          refine nz_eql (lN_2p j) ?_
          refine lv_lstore (lv' := [(5, .long (lN (2 ^ (j + 1)))), (8, .int 1), (0, .ref (T 0)), (1, .int (nI a)), (2, .int (nI b1)), (3, .long (lN (zVv b1 (mR C a) (L a) (j + 1)))), (7, .int (nI j))]) hx hb dMo_value_79 hl (by decide) rfl (fun ls hl => ?_)
          refine lv_iinc (v := nI (j + 1)) (lv' := [(7, .int (nI (j + 1))), (5, .long (lN (2 ^ (j + 1)))), (8, .int 1), (0, .ref (T 0)), (1, .int (nI a)), (2, .int (nI b1)), (3, .long (lN (zVv b1 (mR C a) (L a) (j + 1))))]) hx hb dMo_value_81 hl (k := 6) rfl (nI_1 j) (by decide) rfl (fun ls hl => ?_)
          refine lv_goto (tgt := 8) hx hb dMo_value_84 (by decide) ?_
          exact ih (j + 1) (by omega) (by omega) ls (lv_sub hl [3, 4, 5, 6, 1, 0] rfl)
        · refine lv_iload_n hx hb dMo_value_52 rfl (lv_at hl 3 rfl) ?_
          refine lv_if_eq (tgt := 68) hx hb dMo_value_53 (by decide) (fun c11 => ?_) (fun c11 => ?_)
          · have mc11 : b1 = 0 := (nI_eq (a := b1) (b := 0) (by omega) (by omega)).mp c11
            refine lv_lload_n hx hb dMo_value_68 rfl (lv_at hl 4 rfl) ?_
            refine lv_lload hx hb dMo_value_69 (lv_at hl 5 rfl) ?_
            refine lv_ladd hx hb dMo_value_71 ?_
            refine nz_eql (y := lN (zVv b1 (mR C a) (L a) (j + 1))) (by rw [zVv_lt m16, zVv_p (f := mR C a) (j := j) (zH_y (ok.1 _) c10) (Or.inl mc11)]; exact lN_add _ _) ?_
            refine lv_lstore_n (lv' := [(3, .long (lN (zVv b1 (mR C a) (L a) (j + 1)))), (8, .int 1), (0, .ref (T 0)), (1, .int (nI a)), (2, .int (nI b1)), (5, .long (lN (2 ^ j))), (7, .int (nI j))]) hx hb dMo_value_72 rfl hl (by decide) rfl (fun ls hl => ?_)
            refine lv_ldc2 (v := 2) hx hb S.2.2.2.1 (S.2.2.2.2 _ kMo_c51) dMo_value_73 ?_
            refine lv_lload hx hb dMo_value_76 (lv_at hl 5 rfl) ?_
            refine lv_lmul hx hb dMo_value_78 ?_
            refine nz_eql (lN_2p j) ?_
            refine lv_lstore (lv' := [(5, .long (lN (2 ^ (j + 1)))), (3, .long (lN (zVv b1 (mR C a) (L a) (j + 1)))), (8, .int 1), (0, .ref (T 0)), (1, .int (nI a)), (2, .int (nI b1)), (7, .int (nI j))]) hx hb dMo_value_79 hl (by decide) rfl (fun ls hl => ?_)
            refine lv_iinc (v := nI (j + 1)) (lv' := [(7, .int (nI (j + 1))), (5, .long (lN (2 ^ (j + 1)))), (3, .long (lN (zVv b1 (mR C a) (L a) (j + 1)))), (8, .int 1), (0, .ref (T 0)), (1, .int (nI a)), (2, .int (nI b1))]) hx hb dMo_value_81 hl (k := 6) rfl (nI_1 j) (by decide) rfl (fun ls hl => ?_)
            refine lv_goto (tgt := 8) hx hb dMo_value_84 (by decide) ?_
            exact ih (j + 1) (by omega) (by omega) ls (lv_sub hl [4, 5, 6, 2, 1, 0] rfl)
          · have mc11 : ¬ b1 = 0 := fun h => c11 ((nI_eq (a := b1) (b := 0) (by omega) (by omega)).mpr h)
            refine lv_iload hx hb dMo_value_56 (lv_at hl 0 rfl) ?_
            refine lv_if_eq (tgt := 68) hx hb dMo_value_58 (by decide) (fun c12 => absurd c12 (by decide)) (fun _ => ?_)
            refine lv_lload_n hx hb dMo_value_61 rfl (lv_at hl 4 rfl) ?_
            refine lv_lload hx hb dMo_value_62 (lv_at hl 5 rfl) ?_
            refine lv_lsub hx hb dMo_value_64 ?_
            refine nz_eql (y := lN (zVv b1 (mR C a) (L a) (j + 1))) (by rw [zVv_lt m16, zVv_l (f := mR C a) (j := j) (zH_y (ok.1 _) c10) (by omega) mc2 m16]; exact lN_sb (by omega)) ?_
            refine lv_goto (tgt := 72) hx hb dMo_value_65 (by decide) ?_
            refine lv_lstore_n (lv' := [(3, .long (lN (zVv b1 (mR C a) (L a) (j + 1)))), (8, .int 1), (0, .ref (T 0)), (1, .int (nI a)), (2, .int (nI b1)), (5, .long (lN (2 ^ j))), (7, .int (nI j))]) hx hb dMo_value_72 rfl hl (by decide) rfl (fun ls hl => ?_)
            refine lv_ldc2 (v := 2) hx hb S.2.2.2.1 (S.2.2.2.2 _ kMo_c51) dMo_value_73 ?_
            refine lv_lload hx hb dMo_value_76 (lv_at hl 5 rfl) ?_
            refine lv_lmul hx hb dMo_value_78 ?_
            refine nz_eql (lN_2p j) ?_
            refine lv_lstore (lv' := [(5, .long (lN (2 ^ (j + 1)))), (3, .long (lN (zVv b1 (mR C a) (L a) (j + 1)))), (8, .int 1), (0, .ref (T 0)), (1, .int (nI a)), (2, .int (nI b1)), (7, .int (nI j))]) hx hb dMo_value_79 hl (by decide) rfl (fun ls hl => ?_)
            refine lv_iinc (v := nI (j + 1)) (lv' := [(7, .int (nI (j + 1))), (5, .long (lN (2 ^ (j + 1)))), (3, .long (lN (zVv b1 (mR C a) (L a) (j + 1)))), (8, .int 1), (0, .ref (T 0)), (1, .int (nI a)), (2, .int (nI b1))]) hx hb dMo_value_81 hl (k := 6) rfl (nI_1 j) (by decide) rfl (fun ls hl => ?_)
            refine lv_goto (tgt := 8) hx hb dMo_value_84 (by decide) ?_
            exact ih (j + 1) (by omega) (by omega) ls (lv_sub hl [4, 5, 6, 2, 1, 0] rfl)
set_option maxHeartbeats 4000000 in
set_option maxRecDepth 100000 in
theorem c_Mo_value (l : Launch) (D : va_G) (cA : ClassId) (T : Nat → Nat) (hT : moT T) (k0 : Int32) (C L O : Nat → Nat) (c0 : Nat) (ok : moOk C L O) (a : Nat) (ha : a < 16) (b1 : Nat) (hb1 : b1 < 2) : Met l yMo_value (Cond.code yMo_value bMo_value 9 (some .long) :: nzG) ({ frames := 1, cells := 0, slots := 0, locals := 22 }) (va_Pc [.ref (T 0), .int (nI a), .int (nI b1)] (moP D cA (moW cA T k0 C L O c0))) (vp_Sl (fun r => r = lN (zLong b1 (mR C a) (L a)))) 0 0 (fun _ => False) := by
  refine nz_of (own := RM) (by decide) rfl ?_
  intro p e s m args below meth c S hr hlocks _ hv9
  obtain ⟨rfl, hP, hK⟩ := hv9
  have hS : va_S (moA T) s.heap s.heap [] := va_S.rf
  have hx := S.1
  have hb := S.2.1
  refine nz_entry (vs := [.ref (T 0), .int (nI a), .int (nI b1)]) (n := 9) (lv := [(0, .ref (T 0)), (1, .int (nI a)), (2, .int (nI b1))]) (Nat.le_of_ble_eq_true rfl) rfl (fun ls hl => ?_)
  have hLa := ok.2.1 a
  refine lv_lconst (v := 0) hx hb dMo_value_0 (by decide) ?_
  refine lv_lstore_n (lv' := [(3, .long 0), (0, .ref (T 0)), (1, .int (nI a)), (2, .int (nI b1))]) hx hb dMo_value_1 rfl hl (by decide) rfl (fun ls hl => ?_)
  refine lv_lconst (v := 1) hx hb dMo_value_2 (by decide) ?_
  refine lv_lstore (lv' := [(5, .long 1), (3, .long 0), (0, .ref (T 0)), (1, .int (nI a)), (2, .int (nI b1))]) hx hb dMo_value_3 hl (by decide) rfl (fun ls hl => ?_)
  refine lv_iconst (v := 0) hx hb dMo_value_5 (by decide) ?_
  refine lv_istore (lv' := [(7, .int 0), (5, .long 1), (3, .long 0), (0, .ref (T 0)), (1, .int (nI a)), (2, .int (nI b1))]) hx hb dMo_value_6 hl (by decide) rfl (fun ls hl => ?_)
  rw [show (0 : Int64) = lN (zVv b1 (mR C a) (L a) 0) by rw [show zVv b1 (mR C a) (L a) 0 = 0 by unfold zVv; rw [if_neg (fun q => by omega)]; rfl]; rfl, show (1 : Int64) = lN (2 ^ 0) from rfl] at hl
  refine lpM_value l D cA T hT k0 C L O c0 ok a ha b1 hb1 _ _ S hK hP (fun ls hl => ?_) (L a + 1) 0 (by omega) (by omega) ls (lv_sub hl [3, 4, 5, 2, 1, 0] rfl)
  refine lv_lload_n hx hb dMo_value_87 rfl (lv_at hl 3 rfl) ?_
  exact W.lret (v := lN (zVv b1 (mR C a) (L a) (L a))) hx hb hr (fun t ht hW => ⟨_, rfl, by rw [zVv_N hLa hb1], ht⟩) (fun q h => nomatch h) dMo_value_88
set_option maxHeartbeats 4000000 in
set_option maxRecDepth 100000 in
theorem c_Mo_numberOf (l : Launch) (D : va_G) (cA : ClassId) (T : Nat → Nat) (hT : moT T) (k0 : Int32) (C L O : Nat → Nat) (c0 : Nat) (ok : moOk C L O) (x1 : Int32) (b1 : Nat) (hb1 : b1 < 2) : Met l yMo_numberOf (Cond.code yMo_numberOf bMo_numberOf 3 (some .long) :: nzG) ({ frames := 3, cells := 0, slots := 0, locals := 63 }) (va_Pc [.ref (T 0), .int x1, .int (nI b1)] (moP D cA (moW cA T k0 C L O c0))) (va_Ql (fun r (_ : Unit) => (kNumberOf L (mR C) x1) = 0 → r = lN (zLong b1 (mR C (ix x1)) (L (ix x1)))) (fun _ t => moB D cA T C L O c0 (kNumberOf L (mR C) x1) t) (moA T)) 0 0 (moA T) := by
  refine nz_of (own := RM) (by decide) rfl ?_
  intro p e s m args below meth c S hr hlocks _ hv9
  obtain ⟨rfl, hP, hK⟩ := hv9
  have hS : va_S (moA T) s.heap s.heap [] := va_S.rf
  have hx := S.1
  have hb := S.2.1
  refine nz_entry (vs := [.ref (T 0), .int x1, .int (nI b1)]) (n := 3) (lv := [(0, .ref (T 0)), (1, .int x1), (2, .int (nI b1))]) (Nat.le_of_ble_eq_true rfl) rfl (fun ls hl => ?_)
  refine lv_aload_n hx hb dMo_numberOf_0 rfl (lv_at hl 0 rfl) ?_
  refine lv_iload_n hx hb dMo_numberOf_1 rfl (lv_at hl 1 rfl) ?_
  refine nz_si (As := [.int x1]) (rest := [.ref (T 0)]) S (c_Mo_none l x1) kMo_33 ⟨rfl, rfl, Nat.le_of_ble_eq_true rfl, Nat.le_of_ble_eq_true rfl⟩ ⟨Nat.zero_le _, Nat.zero_le _⟩ (fun _ _ _ _ h => h) (fun _ _ _ => trivial) rfl hl.1 rfl (Nat.le_of_ble_eq_true rfl) dMo_numberOf_2 (fun r1 er1 => ?_)
  subst er1
  refine lv_if_eq (tgt := 12) hx hb dMo_numberOf_5 (by decide) (fun c2 => ?_) (fun c2 => ?_)
  · have bc2 := ifn_n c2
    obtain ⟨u, hu, rfl⟩ := plB_not bc2
    have eu : ix (nI u) = u := ix_nI (by omega)
    have hLu := ok.2.1 u
    refine lv_aload_n hx hb dMo_numberOf_12 rfl (lv_at hl 0 rfl) ?_
    refine mo_getL S hK hP dMo_numberOf_13 ?_
    refine lv_iload_n hx hb dMo_numberOf_16 rfl (lv_at hl 1 rfl) ?_
    refine mo_ldL (j := u) S hK hP hu dMo_numberOf_17 ?_
    refine lv_if_le (tgt := 33) hx hb dMo_numberOf_18 (by decide) (fun c3 => ?_) (fun c3 => ?_)
    · have mc3 : (L u) ≤ 0 := (nI_leI (a := (L u)) (b := 0) (by omega) (by omega)).mp c3
      refine lv_iconst (v := 0) hx hb dMo_numberOf_33 (by decide) ?_
      refine mo_putk (k1 := 0) S hT hK hP hS dMo_numberOf_34 (fun H locs hP hS => ?_)
      have hk0 : kNumberOf L (mR C) (nI u) = 0 := by unfold kNumberOf; rw [if_neg bc2, eu, if_pos (zAll_of0 mc3)]
      refine lv_aload_n hx hb dMo_numberOf_37 rfl (lv_at hl 0 rfl) ?_
      refine mo_getk S hK hP dMo_numberOf_38 ?_
      refine lv_if_le (tgt := 48) hx hb dMo_numberOf_41 (by decide) (fun _ => ?_) (fun c4 => absurd (by decide) c4)
      refine lv_aload_n hx hb dMo_numberOf_48 rfl (lv_at hl 0 rfl) ?_
      refine lv_iload_n hx hb dMo_numberOf_49 rfl (lv_at hl 1 rfl) ?_
      refine lv_iload_n hx hb dMo_numberOf_50 rfl (lv_at hl 2 rfl) ?_
      refine nz_vl (As := [.int (nI u), .int (nI b1)]) (rest := []) S (c_Mo_value l D cA T hT 0 C L O c0 ok u hu b1 hb1) kMo_56 ⟨rfl, rfl, Nat.le_of_ble_eq_true rfl, Nat.le_of_ble_eq_true rfl⟩ ⟨Nat.zero_le _, Nat.zero_le _⟩ moP.bl (mo_ob hK hP) (moP.to hP hK) rfl hl.1 rfl (Nat.le_of_ble_eq_true rfl) dMo_numberOf_51 (fun r5 er5 => ?_)
      subst er5
      exact W.lret (v := lN (zLong b1 (mR C u) (L u))) hx hb hr (fun t ht hW => ⟨⟨lN (zLong b1 (mR C u) (L u)), (), rfl, fun _ => by rw [eu], moB_of (by rw [hk0]; exact hP) ht⟩, hS.F ht⟩) hS.2.2 dMo_numberOf_54
    · have mc3 : 0 < (L u) := Nat.lt_of_not_le (fun h => c3 ((nI_leI (a := (L u)) (b := 0) (by omega) (by omega)).mpr h))
      refine lv_aload_n hx hb dMo_numberOf_21 rfl (lv_at hl 0 rfl) ?_
      refine lv_iload_n hx hb dMo_numberOf_22 rfl (lv_at hl 1 rfl) ?_
      refine nz_vi (As := [.int (nI u)]) (rest := [.ref (T 0)]) S (c_Mo_clear l D cA T hT k0 C L O c0 ok u hu) kMo_53 ⟨rfl, rfl, Nat.le_of_ble_eq_true rfl, Nat.le_of_ble_eq_true rfl⟩ ⟨Nat.zero_le _, Nat.zero_le _⟩ moP.bl (mo_ob hK hP) (moP.to hP hK) rfl hl.1 rfl (Nat.le_of_ble_eq_true rfl) dMo_numberOf_23 (fun r6 er6 => ?_)
      subst er6
      refine lv_if_ne (tgt := 33) hx hb dMo_numberOf_26 (by decide) (fun c7 => ?_) (fun c7 => ?_)
      · refine lv_iconst (v := 0) hx hb dMo_numberOf_33 (by decide) ?_
        refine mo_putk (k1 := 0) S hT hK hP hS dMo_numberOf_34 (fun H locs hP hS => ?_)
        have hk0 : kNumberOf L (mR C) (nI u) = 0 := by unfold kNumberOf; rw [if_neg bc2, eu, if_pos (zCnt_all (zCnt_y c7))]
        refine lv_aload_n hx hb dMo_numberOf_37 rfl (lv_at hl 0 rfl) ?_
        refine mo_getk S hK hP dMo_numberOf_38 ?_
        refine lv_if_le (tgt := 48) hx hb dMo_numberOf_41 (by decide) (fun _ => ?_) (fun c8 => absurd (by decide) c8)
        refine lv_aload_n hx hb dMo_numberOf_48 rfl (lv_at hl 0 rfl) ?_
        refine lv_iload_n hx hb dMo_numberOf_49 rfl (lv_at hl 1 rfl) ?_
        refine lv_iload_n hx hb dMo_numberOf_50 rfl (lv_at hl 2 rfl) ?_
        refine nz_vl (As := [.int (nI u), .int (nI b1)]) (rest := []) S (c_Mo_value l D cA T hT 0 C L O c0 ok u hu b1 hb1) kMo_56 ⟨rfl, rfl, Nat.le_of_ble_eq_true rfl, Nat.le_of_ble_eq_true rfl⟩ ⟨Nat.zero_le _, Nat.zero_le _⟩ moP.bl (mo_ob hK hP) (moP.to hP hK) rfl hl.1 rfl (Nat.le_of_ble_eq_true rfl) dMo_numberOf_51 (fun r9 er9 => ?_)
        subst er9
        exact W.lret (v := lN (zLong b1 (mR C u) (L u))) hx hb hr (fun t ht hW => ⟨⟨lN (zLong b1 (mR C u) (L u)), (), rfl, fun _ => by rw [eu], moB_of (by rw [hk0]; exact hP) ht⟩, hS.F ht⟩) hS.2.2 dMo_numberOf_54
      · refine lv_iconst (v := 2) hx hb dMo_numberOf_29 (by decide) ?_
        refine lv_goto (tgt := 34) hx hb dMo_numberOf_30 (by decide) ?_
        refine mo_putk (k1 := 2) S hT hK hP hS dMo_numberOf_34 (fun H locs hP hS => ?_)
        have hk0 : kNumberOf L (mR C) (nI u) = 2 := by unfold kNumberOf; rw [if_neg bc2, eu, if_neg (zCnt_nall (zCnt_n c7) mc3)]
        refine lv_aload_n hx hb dMo_numberOf_37 rfl (lv_at hl 0 rfl) ?_
        refine mo_getk S hK hP dMo_numberOf_38 ?_
        refine lv_if_le (tgt := 48) hx hb dMo_numberOf_41 (by decide) (fun c10 => absurd c10 (by decide)) (fun _ => ?_)
        refine lv_lconst (v := 0) hx hb dMo_numberOf_44 (by decide) ?_
        refine lv_goto (tgt := 54) hx hb dMo_numberOf_45 (by decide) ?_
        exact W.lret (v := 0) hx hb hr (fun t ht hW => ⟨⟨(0), (), rfl, fun h => absurd h (by rw [hk0]; decide), moB_of (by rw [hk0]; exact hP) ht⟩, hS.F ht⟩) hS.2.2 dMo_numberOf_54
  · have bc2 := ifn_y c2
    refine lv_iconst (v := 1) hx hb dMo_numberOf_8 (by decide) ?_
    refine lv_goto (tgt := 34) hx hb dMo_numberOf_9 (by decide) ?_
    refine mo_putk (k1 := 1) S hT hK hP hS dMo_numberOf_34 (fun H locs hP hS => ?_)
    have hk0 : kNumberOf L (mR C) x1 = 1 := if_pos bc2
    refine lv_aload_n hx hb dMo_numberOf_37 rfl (lv_at hl 0 rfl) ?_
    refine mo_getk S hK hP dMo_numberOf_38 ?_
    refine lv_if_le (tgt := 48) hx hb dMo_numberOf_41 (by decide) (fun c11 => absurd c11 (by decide)) (fun _ => ?_)
    refine lv_lconst (v := 0) hx hb dMo_numberOf_44 (by decide) ?_
    refine lv_goto (tgt := 54) hx hb dMo_numberOf_45 (by decide) ?_
    exact W.lret (v := 0) hx hb hr (fun t ht hW => ⟨⟨(0), (), rfl, fun h => absurd h (by rw [hk0]; decide), moB_of (by rw [hk0]; exact hP) ht⟩, hS.F ht⟩) hS.2.2 dMo_numberOf_54
