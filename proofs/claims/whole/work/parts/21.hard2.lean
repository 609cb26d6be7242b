set_option maxHeartbeats 4000000 in
set_option maxRecDepth 100000 in
theorem cN_change (l : Launch) (hfl : l.flags = pinnedFlags ++ [noTraceFlag]) (D : va_G) (cA cW : ClassId) (T : Nat → Nat) (hT : nvT T) (n : Nat → Nat) (g : Nat → Nat → Nat) (ok : nvOk n g) (x1 x2 x3 : Int32) : ny_Met l yN_change (Cond.code yN_change bN_change 4 none :: nzG) ({ frames := 7, cells := 1, slots := 6, locals := 110 }) (va_Pc [.ref (T 0), .int x1, .int x2, .int x3] (nmP D cA cW (nvW cA cW T n g))) (nxQ (fun v st t => v = none ∧ (kChange x1 x2 x3) = 0 ∧ (fun H9 : Heap => ∃ n9 g9, nvU 16 n g (ix x3) (n (ix x2)) (fChange (ix x1) (g (ix x2)) (n (ix x2))) n9 g9 ∧ va_P D vwCl (nvW cA cW T n9 g9) H9) t.heap ∧ va_F (nvA T) st t) (exK exI (kChange x1 x2 x3))) 0 0 1 6 (nvA T) := by
  refine nz_ofT (own := RN) (by decide) rfl ?_
  intro p e s m args below meth c S hr hlocks hno hv9
  obtain ⟨rfl, hP, hK, hX⟩ := hv9
  have hob0 := nv_ob0 hK hP
  have hS : va_S (nvA T) s.heap s.heap [] := va_S.rf
  have hx := S.1
  have hb := S.2.1
  refine nz_entry (vs := [.ref (T 0), .int x1, .int x2, .int x3]) (n := 4) (lv := [(0, .ref (T 0)), (1, .int x1), (2, .int x2), (3, .int x3)]) (Nat.le_of_ble_eq_true rfl) rfl (fun ls hl => ?_)
  refine lv_iload_n hx hb dN_change_0 rfl (lv_at hl 2 rfl) ?_
  refine nx_sv (As := [.int x2]) (rest := []) (post := ¬ plB x2) (exc := fun E => plB x2 ∧ E = eIO) S (cN_requirePlace l hfl x2) kN_20 ⟨rfl, rfl, Nat.le_of_ble_eq_true rfl, Nat.le_of_ble_eq_true rfl⟩ ⟨Nat.le_of_ble_eq_true rfl, Nat.le_of_ble_eq_true rfl⟩ nmX.bl (hX.at rfl) rfl hl.1 rfl (Nat.le_of_ble_eq_true rfl) dN_change_1 hno hlocks (fun E h => exK_of (k := 1) (if_pos (Or.inl h.1)) (by decide) h.2) (fun q1 => ?_)
  refine lv_iload_n hx hb dN_change_4 rfl (lv_at hl 3 rfl) ?_
  refine nx_sv (As := [.int x3]) (rest := []) (post := ¬ plB x3) (exc := fun E => plB x3 ∧ E = eIO) S (cN_requirePlace l hfl x3) kN_20 ⟨rfl, rfl, Nat.le_of_ble_eq_true rfl, Nat.le_of_ble_eq_true rfl⟩ ⟨Nat.le_of_ble_eq_true rfl, Nat.le_of_ble_eq_true rfl⟩ nmX.bl (hX.at rfl) rfl hl.1 rfl (Nat.le_of_ble_eq_true rfl) dN_change_5 hno hlocks (fun E h => exK_of (k := 1) (if_pos (Or.inr h.1)) (by decide) h.2) (fun q2 => ?_)
  obtain ⟨a, ha, rfl⟩ := plB_not q1
  have ea : ix (nI a) = a := ix_nI (by omega)
  obtain ⟨u, hu, rfl⟩ := plB_not q2
  have eu : ix (nI u) = u := ix_nI (by omega)
  refine lv_iload_n hx hb dN_change_8 rfl (lv_at hl 1 rfl) ?_
  refine lv_if_lt (tgt := 18) hx hb dN_change_9 (by decide) (fun c3 => ?_) (fun c3 => ?_)
  · exact nm_throw (E := eIA) (tx := "no such kind of change") (ik := 64) (is := 85) (ic := 68) S hfl hX (by decide) (by decide +kernel) kcl_64 kin_eIA (by decide) kat_eIA hl.1 ⟨(Nat.le_of_ble_eq_true rfl), (Nat.le_of_ble_eq_true rfl), (Nat.le_of_ble_eq_true rfl), (Nat.le_of_ble_eq_true rfl)⟩ (Nat.le_of_ble_eq_true rfl) hlocks hno dN_change_18 dN_change_21 dN_change_22 dN_change_24 dN_change_27 (fun t q hW h => ⟨eIA, exK_of (k := 2) (by unfold kChange; rw [if_neg (fun h => h.elim q1 q2), if_pos (Or.inl c3)]) (by decide) rfl, h⟩)
  · refine lv_iload_n hx hb dN_change_12 rfl (lv_at hl 1 rfl) ?_
    refine lv_bipush (v := 6) hx hb dN_change_13 (by decide) ?_
    refine lv_icmp_le (tgt := 28) hx hb dN_change_15 (by decide) (fun c4 => ?_) (fun c4 => ?_)
    · have hkd : ¬ (x1 < 0 ∨ 6 < x1) := fun h => h.elim c3 (fun q => Int32.not_lt.mpr c4 q)
      have hk0 : kChange x1 (nI a) (nI u) = 0 := by unfold kChange; rw [if_neg (fun h => h.elim q1 q2), if_neg hkd]
      obtain ⟨o, ho, rfl⟩ := in_not' (N := 6) rfl (by decide) hkd
      have eo : ix (nI o) = o := ix_nI (by omega)
      refine lv_iload_n hx hb dN_change_28 rfl (lv_at hl 1 rfl) ?_
      refine lv_iconst (v := 4) hx hb dN_change_29 (by decide) ?_
      refine lv_icmp_gt (tgt := 47) hx hb dN_change_30 (by decide) (fun c5 => ?_) (fun c5 => ?_)
      · have mc5 : 4 < o := (nI_ltI (a := 4) (b := o) (by omega) (by omega)).mp c5
        refine lv_aload_n hx hb dN_change_47 rfl (lv_at hl 0 rfl) ?_
        refine lv_iload_n hx hb dN_change_48 rfl (lv_at hl 1 rfl) ?_
        refine lv_aload_n hx hb dN_change_49 rfl (lv_at hl 0 rfl) ?_
        refine nm_getP S hK hP dN_change_50 ?_
        refine lv_iload_n hx hb dN_change_53 rfl (lv_at hl 2 rfl) ?_
        refine nm_ald (j := a) hx hb hK hP ha dN_change_54 ?_
        refine nm_callB (B := fun H9 : Heap => ∃ n9 g9, nvU 17 n g 16 (n a) (fChange o (g a) (n a)) n9 g9 ∧ va_P D vwCl (nvW cA cW T n9 g9) H9) (As := [.int (nI o), .ref (T (2 + a))]) (rest := []) S (cN_changeNumber l D cA cW T hT n g ok o (by omega) a ha) kN_91 ⟨rfl, rfl, Nat.le_of_ble_eq_true rfl, Nat.le_of_ble_eq_true rfl⟩ ⟨Nat.zero_le _, Nat.zero_le _⟩ hob0 hP hK hX rfl hl.1 rfl (Nat.le_of_ble_eq_true rfl) dN_change_55 (fun H locs hB hS => ?_)
        obtain ⟨n1, g1, u1, hP⟩ := hB
        refine lv_aload_n hx hb dN_change_58 rfl (lv_at hl 0 rfl) ?_
        refine nm_getP S hK hP dN_change_59 ?_
        refine lv_iload_n hx hb dN_change_62 rfl (lv_at hl 3 rfl) ?_
        refine nm_ald (j := u) hx hb hK hP hu dN_change_63 ?_
        refine lv_aload_n hx hb dN_change_64 rfl (lv_at hl 0 rfl) ?_
        refine nm_getA S hK hP dN_change_65 ?_
        refine nv_call (As := [.ref (T (2 + 16))]) (rest := []) S (c_Word_copy l D cA cW T hT n1 g1 u (Nat.lt_succ_of_lt hu) 16 (by decide) (by omega) (u1.2.2.2.1 16)) kN_81 ⟨rfl, rfl, Nat.le_of_ble_eq_true rfl, Nat.le_of_ble_eq_true rfl⟩ ⟨Nat.zero_le _, Nat.zero_le _⟩ (nv_ob hK hP (Nat.lt_succ_of_lt hu)) hP hK hS rfl hl.1 rfl (Nat.le_of_ble_eq_true rfl) dN_change_68 (fun H locs hP hS => ?_)
        refine ny_ret ?_
        exact W.vret hx hb hr (fun t ht hW => ⟨rfl, hk0, ⟨va_up n1 u (n1 16), va_up g1 u (pov (g1 16) (g1 u) 0 (n1 16)), by rw [eu]; exact nvU_eq (nvU_fin u1 hu) (by rw [ea]) (by rw [ea, eo]; exact fun _ _ => rfl), by rw [ht]; exact hP⟩, hS.F ht⟩) hS.2.2 dN_change_71
      · have mc5 : o ≤ 4 := Nat.le_of_not_lt (fun h => c5 ((nI_ltI (a := 4) (b := o) (by omega) (by omega)).mpr h))
        refine lv_aload_n hx hb dN_change_33 rfl (lv_at hl 0 rfl) ?_
        refine lv_iload_n hx hb dN_change_34 rfl (lv_at hl 1 rfl) ?_
        refine lv_aload_n hx hb dN_change_35 rfl (lv_at hl 0 rfl) ?_
        refine nm_getP S hK hP dN_change_36 ?_
        refine lv_iload_n hx hb dN_change_39 rfl (lv_at hl 2 rfl) ?_
        refine nm_ald (j := a) hx hb hK hP ha dN_change_40 ?_
        refine nm_callB (B := fun H9 : Heap => ∃ n9 g9, nvU 17 n g 16 (n a) (fChange o (g a) (n a)) n9 g9 ∧ va_P D vwCl (nvW cA cW T n9 g9) H9) (As := [.int (nI o), .ref (T (2 + a))]) (rest := []) S (cN_changeElements l D cA cW T hT n g ok o (by omega) a ha) kN_87 ⟨rfl, rfl, Nat.le_of_ble_eq_true rfl, Nat.le_of_ble_eq_true rfl⟩ ⟨Nat.zero_le _, Nat.zero_le _⟩ hob0 hP hK hX rfl hl.1 rfl (Nat.le_of_ble_eq_true rfl) dN_change_41 (fun H locs hB hS => ?_)
        obtain ⟨n1, g1, u1, hP⟩ := hB
        refine lv_goto (tgt := 58) hx hb dN_change_44 (by decide) ?_
        refine lv_aload_n hx hb dN_change_58 rfl (lv_at hl 0 rfl) ?_
        refine nm_getP S hK hP dN_change_59 ?_
        refine lv_iload_n hx hb dN_change_62 rfl (lv_at hl 3 rfl) ?_
        refine nm_ald (j := u) hx hb hK hP hu dN_change_63 ?_
        refine lv_aload_n hx hb dN_change_64 rfl (lv_at hl 0 rfl) ?_
        refine nm_getA S hK hP dN_change_65 ?_
        refine nv_call (As := [.ref (T (2 + 16))]) (rest := []) S (c_Word_copy l D cA cW T hT n1 g1 u (Nat.lt_succ_of_lt hu) 16 (by decide) (by omega) (u1.2.2.2.1 16)) kN_81 ⟨rfl, rfl, Nat.le_of_ble_eq_true rfl, Nat.le_of_ble_eq_true rfl⟩ ⟨Nat.zero_le _, Nat.zero_le _⟩ (nv_ob hK hP (Nat.lt_succ_of_lt hu)) hP hK hS rfl hl.1 rfl (Nat.le_of_ble_eq_true rfl) dN_change_68 (fun H locs hP hS => ?_)
        refine ny_ret ?_
        exact W.vret hx hb hr (fun t ht hW => ⟨rfl, hk0, ⟨va_up n1 u (n1 16), va_up g1 u (pov (g1 16) (g1 u) 0 (n1 16)), by rw [eu]; exact nvU_eq (nvU_fin u1 hu) (by rw [ea]) (by rw [ea, eo]; exact fun _ _ => rfl), by rw [ht]; exact hP⟩, hS.F ht⟩) hS.2.2 dN_change_71
    · exact nm_throw (E := eIA) (tx := "no such kind of change") (ik := 64) (is := 85) (ic := 68) S hfl hX (by decide) (by decide +kernel) kcl_64 kin_eIA (by decide) kat_eIA hl.1 ⟨(Nat.le_of_ble_eq_true rfl), (Nat.le_of_ble_eq_true rfl), (Nat.le_of_ble_eq_true rfl), (Nat.le_of_ble_eq_true rfl)⟩ (Nat.le_of_ble_eq_true rfl) hlocks hno dN_change_18 dN_change_21 dN_change_22 dN_change_24 dN_change_27 (fun t q hW h => ⟨eIA, exK_of (k := 2) (by unfold kChange; rw [if_neg (fun h => h.elim q1 q2), if_pos (Or.inr (Int32.not_le.mp c4))]) (by decide) rfl, h⟩)
set_option maxHeartbeats 4000000 in
set_option maxRecDepth 100000 in
theorem cN_moveBy (l : Launch) (D : va_G) (cA cW : ClassId) (T : Nat → Nat) (hT : nvT T) (n : Nat → Nat) (g : Nat → Nat → Nat) (ok : nvOk n g) (o : Nat) (ho : o ≤ 4) (x2 : Int32) (hbd : -1000 ≤ x2.toInt ∧ x2.toInt ≤ 1000) (v : Nat) (hv : v < 9) (a : Nat) (ha : a < 16) : Met l yN_moveBy (Cond.code yN_moveBy bN_moveBy 5 none :: nzG) ({ frames := 2, cells := 0, slots := 0, locals := 48 }) (va_Pc [.ref (T 0), .int (nI o), .int x2, .int (nI v), .ref (T (2 + a))] (nmP D cA cW (nvW cA cW T n g))) (va_Qv (fun _ : Unit => True) (fun _ t => (fun H9 : Heap => ∃ n9 g9, nvU 17 n g 16 (n a) (fShift o x2.toInt v (g a) (n a)) n9 g9 ∧ va_P D vwCl (nvW cA cW T n9 g9) H9) t.heap) (nvA T)) 0 0 (nvA T) := by
  refine nz_of (own := RN) (by decide) rfl ?_
  intro p e s m args below meth c S hr hlocks _ hv9
  obtain ⟨rfl, hP, hK, hX⟩ := hv9
  have hob0 := nv_ob0 hK hP
  have hS : va_S (nvA T) s.heap s.heap [] := va_S.rf
  have hx := S.1
  have hb := S.2.1
  refine nz_entry (vs := [.ref (T 0), .int (nI o), .int x2, .int (nI v), .ref (T (2 + a))]) (n := 5) (lv := [(0, .ref (T 0)), (1, .int (nI o)), (2, .int x2), (3, .int (nI v)), (4, .ref (T (2 + a)))]) (Nat.le_of_ble_eq_true rfl) rfl (fun ls hl => ?_)
  have hng := ineg_toInt hbd.1
  refine lv_iload_n hx hb dN_moveBy_0 rfl (lv_at hl 1 rfl) ?_
  rcases (show o = 0 ∨ o = 1 ∨ o = 2 ∨ o = 3 ∨ o = 4 by omega) with rfl | rfl | rfl | rfl | rfl
  · refine lv_tableIn (tgt := 32) hx hb dN_moveBy_1 (by decide) (by decide) rfl (by decide) ?_
    refine lv_aload_n hx hb dN_moveBy_32 rfl (lv_at hl 0 rfl) ?_
    refine lv_iload_n hx hb dN_moveBy_33 rfl (lv_at hl 2 rfl) ?_
    refine lv_iload_n hx hb dN_moveBy_34 rfl (lv_at hl 3 rfl) ?_
    refine lv_aload hx hb dN_moveBy_35 (lv_at hl 4 rfl) ?_
    refine nm_callB (B := fun H9 : Heap => ∃ n9 g9, nvU 17 n g 16 (n a) (fMove (x2.toInt) v (g a) (n a)) n9 g9 ∧ va_P D vwCl (nvW cA cW T n9 g9) H9) (As := [.int x2, .int (nI v), .ref (T (2 + a))]) (rest := []) S (cN_move l D cA cW T hT n g ok x2 (x2.toInt) rfl (by omega) v hv a ha) kN_197 ⟨rfl, rfl, Nat.le_of_ble_eq_true rfl, Nat.le_of_ble_eq_true rfl⟩ ⟨Nat.zero_le _, Nat.zero_le _⟩ hob0 hP hK hX rfl hl.1 rfl (Nat.le_of_ble_eq_true rfl) dN_moveBy_37 (fun H locs hB hS => ?_)
    obtain ⟨n1, g1, u1, hP⟩ := hB
    refine lv_goto (tgt := 97) hx hb dN_moveBy_40 (by decide) ?_
    exact W.vret hx hb hr (fun t ht hW => ⟨⟨(), rfl, trivial, n1, g1, nvU_eq u1 rfl (fun _ _ => rfl), by rw [ht]; exact hP⟩, hS.F ht⟩) hS.2.2 dN_moveBy_97
  · refine lv_tableIn (tgt := 43) hx hb dN_moveBy_1 (by decide) (by decide) rfl (by decide) ?_
    refine lv_aload_n hx hb dN_moveBy_43 rfl (lv_at hl 0 rfl) ?_
    refine lv_iload_n hx hb dN_moveBy_44 rfl (lv_at hl 2 rfl) ?_
    refine lv_ineg hx hb dN_moveBy_45 ?_
    refine lv_iload_n hx hb dN_moveBy_46 rfl (lv_at hl 3 rfl) ?_
    refine lv_aload hx hb dN_moveBy_47 (lv_at hl 4 rfl) ?_
    refine nm_callB (B := fun H9 : Heap => ∃ n9 g9, nvU 17 n g 16 (n a) (fMove (-x2.toInt) v (g a) (n a)) n9 g9 ∧ va_P D vwCl (nvW cA cW T n9 g9) H9) (As := [.int (-x2), .int (nI v), .ref (T (2 + a))]) (rest := []) S (cN_move l D cA cW T hT n g ok (-x2) (-x2.toInt) hng (by omega) v hv a ha) kN_197 ⟨rfl, rfl, Nat.le_of_ble_eq_true rfl, Nat.le_of_ble_eq_true rfl⟩ ⟨Nat.zero_le _, Nat.zero_le _⟩ hob0 hP hK hX rfl hl.1 rfl (Nat.le_of_ble_eq_true rfl) dN_moveBy_49 (fun H locs hB hS => ?_)
    obtain ⟨n1, g1, u1, hP⟩ := hB
    refine lv_goto (tgt := 97) hx hb dN_moveBy_52 (by decide) ?_
    exact W.vret hx hb hr (fun t ht hW => ⟨⟨(), rfl, trivial, n1, g1, nvU_eq u1 rfl (fun _ _ => rfl), by rw [ht]; exact hP⟩, hS.F ht⟩) hS.2.2 dN_moveBy_97
  · refine lv_tableIn (tgt := 55) hx hb dN_moveBy_1 (by decide) (by decide) rfl (by decide) ?_
    refine lv_aload_n hx hb dN_moveBy_55 rfl (lv_at hl 0 rfl) ?_
    refine lv_iload_n hx hb dN_moveBy_56 rfl (lv_at hl 2 rfl) ?_
    refine lv_ineg hx hb dN_moveBy_57 ?_
    refine lv_iload_n hx hb dN_moveBy_58 rfl (lv_at hl 2 rfl) ?_
    refine lv_if_ge (tgt := 66) hx hb dN_moveBy_59 (by decide) (fun c1 => ?_) (fun c1 => ?_)
    · refine lv_aload hx hb dN_moveBy_66 (lv_at hl 4 rfl) ?_
      refine nz_vi (As := []) (rest := [.int (-x2), .ref (T 0)]) S (c_Word_last l D cA cW T hT n g a (Nat.lt_succ_of_lt ha) (ok.1 a)) kN_102 ⟨rfl, rfl, Nat.le_of_ble_eq_true rfl, Nat.le_of_ble_eq_true rfl⟩ ⟨Nat.zero_le _, Nat.zero_le _⟩ nvP.bl (nv_ob hK hP (Nat.lt_succ_of_lt ha)) (nvP.to hP hK) rfl hl.1 rfl (Nat.le_of_ble_eq_true rfl) dN_moveBy_68 (fun r2 er2 => ?_)
      subst er2
      refine lv_aload hx hb dN_moveBy_71 (lv_at hl 4 rfl) ?_
      refine nm_callB (B := fun H9 : Heap => ∃ n9 g9, nvU 17 n g 16 (n a) (fMove (-x2.toInt) (zLast (g a) (n a)) (g a) (n a)) n9 g9 ∧ va_P D vwCl (nvW cA cW T n9 g9) H9) (As := [.int (-x2), .int (nI (zLast (g a) (n a))), .ref (T (2 + a))]) (rest := []) S (cN_move l D cA cW T hT n g ok (-x2) (-x2.toInt) hng (by omega) (zLast (g a) (n a)) (zLast_lt (ok.2 a) _) a ha) kN_197 ⟨rfl, rfl, Nat.le_of_ble_eq_true rfl, Nat.le_of_ble_eq_true rfl⟩ ⟨Nat.zero_le _, Nat.zero_le _⟩ hob0 hP hK hX rfl hl.1 rfl (Nat.le_of_ble_eq_true rfl) dN_moveBy_73 (fun H locs hB hS => ?_)
      obtain ⟨n1, g1, u1, hP⟩ := hB
      refine lv_goto (tgt := 97) hx hb dN_moveBy_76 (by decide) ?_
      exact W.vret hx hb hr (fun t ht hW => ⟨⟨(), rfl, trivial, n1, g1, nvU_eq u1 rfl (fun _ _ => by unfold fShift; rw [if_neg (by decide), if_neg (by decide), if_pos rfl, if_neg (show ¬ x2.toInt < 0 from fun q => Int32.not_lt.mpr c1 (Int32.lt_iff_toInt_lt.mpr q))]), by rw [ht]; exact hP⟩, hS.F ht⟩) hS.2.2 dN_moveBy_97
    · refine lv_iconst (v := 2) hx hb dN_moveBy_62 (by decide) ?_
      refine lv_goto (tgt := 71) hx hb dN_moveBy_63 (by decide) ?_
      refine lv_aload hx hb dN_moveBy_71 (lv_at hl 4 rfl) ?_
      refine nm_callB (B := fun H9 : Heap => ∃ n9 g9, nvU 17 n g 16 (n a) (fMove (-x2.toInt) 2 (g a) (n a)) n9 g9 ∧ va_P D vwCl (nvW cA cW T n9 g9) H9) (As := [.int (-x2), .int 2, .ref (T (2 + a))]) (rest := []) S (cN_move l D cA cW T hT n g ok (-x2) (-x2.toInt) hng (by omega) 2 (by decide) a ha) kN_197 ⟨rfl, rfl, Nat.le_of_ble_eq_true rfl, Nat.le_of_ble_eq_true rfl⟩ ⟨Nat.zero_le _, Nat.zero_le _⟩ hob0 hP hK hX rfl hl.1 rfl (Nat.le_of_ble_eq_true rfl) dN_moveBy_73 (fun H locs hB hS => ?_)
      obtain ⟨n1, g1, u1, hP⟩ := hB
      refine lv_goto (tgt := 97) hx hb dN_moveBy_76 (by decide) ?_
      exact W.vret hx hb hr (fun t ht hW => ⟨⟨(), rfl, trivial, n1, g1, nvU_eq u1 rfl (fun _ _ => by unfold fShift; rw [if_neg (by decide), if_neg (by decide), if_pos rfl, if_pos (show x2.toInt < 0 from Int32.lt_iff_toInt_lt.mp (Int32.not_le.mp c1))]), by rw [ht]; exact hP⟩, hS.F ht⟩) hS.2.2 dN_moveBy_97
  · refine lv_tableIn (tgt := 79) hx hb dN_moveBy_1 (by decide) (by decide) rfl (by decide) ?_
    refine lv_aload_n hx hb dN_moveBy_79 rfl (lv_at hl 0 rfl) ?_
    refine lv_iload_n hx hb dN_moveBy_80 rfl (lv_at hl 2 rfl) ?_
    refine lv_aload hx hb dN_moveBy_81 (lv_at hl 4 rfl) ?_
    refine nm_callB (B := fun H9 : Heap => ∃ n9 g9, nvU 17 n g 16 (n a) (fRound (x2.toInt) (g a) (n a)) n9 g9 ∧ va_P D vwCl (nvW cA cW T n9 g9) H9) (As := [.int x2, .ref (T (2 + a))]) (rest := []) S (cN_turnRound l D cA cW T hT n g ok x2 (x2.toInt) rfl (by omega) a ha) kN_201 ⟨rfl, rfl, Nat.le_of_ble_eq_true rfl, Nat.le_of_ble_eq_true rfl⟩ ⟨Nat.zero_le _, Nat.zero_le _⟩ hob0 hP hK hX rfl hl.1 rfl (Nat.le_of_ble_eq_true rfl) dN_moveBy_83 (fun H locs hB hS => ?_)
    obtain ⟨n1, g1, u1, hP⟩ := hB
    refine lv_goto (tgt := 97) hx hb dN_moveBy_86 (by decide) ?_
    exact W.vret hx hb hr (fun t ht hW => ⟨⟨(), rfl, trivial, n1, g1, nvU_eq u1 rfl (fun _ _ => rfl), by rw [ht]; exact hP⟩, hS.F ht⟩) hS.2.2 dN_moveBy_97
  · refine lv_tableOut (tgt := 89) hx hb dN_moveBy_1 (by decide) (by decide) ?_
    refine lv_aload_n hx hb dN_moveBy_89 rfl (lv_at hl 0 rfl) ?_
    refine lv_iload_n hx hb dN_moveBy_90 rfl (lv_at hl 2 rfl) ?_
    refine lv_ineg hx hb dN_moveBy_91 ?_
    refine lv_aload hx hb dN_moveBy_92 (lv_at hl 4 rfl) ?_
    refine nm_callB (B := fun H9 : Heap => ∃ n9 g9, nvU 17 n g 16 (n a) (fRound (-x2.toInt) (g a) (n a)) n9 g9 ∧ va_P D vwCl (nvW cA cW T n9 g9) H9) (As := [.int (-x2), .ref (T (2 + a))]) (rest := []) S (cN_turnRound l D cA cW T hT n g ok (-x2) (-x2.toInt) hng (by omega) a ha) kN_201 ⟨rfl, rfl, Nat.le_of_ble_eq_true rfl, Nat.le_of_ble_eq_true rfl⟩ ⟨Nat.zero_le _, Nat.zero_le _⟩ hob0 hP hK hX rfl hl.1 rfl (Nat.le_of_ble_eq_true rfl) dN_moveBy_94 (fun H locs hB hS => ?_)
    obtain ⟨n1, g1, u1, hP⟩ := hB
    exact W.vret hx hb hr (fun t ht hW => ⟨⟨(), rfl, trivial, n1, g1, nvU_eq u1 rfl (fun _ _ => rfl), by rw [ht]; exact hP⟩, hS.F ht⟩) hS.2.2 dN_moveBy_97
set_option maxHeartbeats 4000000 in
set_option maxRecDepth 100000 in
theorem cN_shift (l : Launch) (hfl : l.flags = pinnedFlags ++ [noTraceFlag]) (D : va_G) (cA cW : ClassId) (T : Nat → Nat) (hT : nvT T) (n : Nat → Nat) (g : Nat → Nat → Nat) (ok : nvOk n g) (x1 x2 x3 x4 x5 : Int32) : ny_Met l yN_shift (Cond.code yN_shift bN_shift 6 none :: nzG) ({ frames := 7, cells := 1, slots := 6, locals := 110 }) (va_Pc [.ref (T 0), .int x1, .int x2, .int x3, .int x4, .int x5] (nmP D cA cW (nvW cA cW T n g))) (nxQ (fun v st t => v = none ∧ (kShift x1 x2 x3 x4 x5) = 0 ∧ (fun H9 : Heap => ∃ n9 g9, nvU 16 n g (ix x5) (n (ix x4)) (fShift (ix x1) x2.toInt (ix x3) (g (ix x4)) (n (ix x4))) n9 g9 ∧ va_P D vwCl (nvW cA cW T n9 g9) H9) t.heap ∧ va_F (nvA T) st t) (exK exI (kShift x1 x2 x3 x4 x5))) 0 0 1 6 (nvA T) := by
  refine nz_ofT (own := RN) (by decide) rfl ?_
  intro p e s m args below meth c S hr hlocks hno hv9
  obtain ⟨rfl, hP, hK, hX⟩ := hv9
  have hob0 := nv_ob0 hK hP
  have hS : va_S (nvA T) s.heap s.heap [] := va_S.rf
  have hx := S.1
  have hb := S.2.1
  refine nz_entry (vs := [.ref (T 0), .int x1, .int x2, .int x3, .int x4, .int x5]) (n := 6) (lv := [(0, .ref (T 0)), (1, .int x1), (2, .int x2), (3, .int x3), (4, .int x4), (5, .int x5)]) (Nat.le_of_ble_eq_true rfl) rfl (fun ls hl => ?_)
  refine lv_iload hx hb dN_shift_0 (lv_at hl 4 rfl) ?_
  refine nx_sv (As := [.int x4]) (rest := []) (post := ¬ plB x4) (exc := fun E => plB x4 ∧ E = eIO) S (cN_requirePlace l hfl x4) kN_20 ⟨rfl, rfl, Nat.le_of_ble_eq_true rfl, Nat.le_of_ble_eq_true rfl⟩ ⟨Nat.le_of_ble_eq_true rfl, Nat.le_of_ble_eq_true rfl⟩ nmX.bl (hX.at rfl) rfl hl.1 rfl (Nat.le_of_ble_eq_true rfl) dN_shift_2 hno hlocks (fun E h => exK_of (k := 1) (if_pos (Or.inl h.1)) (by decide) h.2) (fun q1 => ?_)
  refine lv_iload hx hb dN_shift_5 (lv_at hl 5 rfl) ?_
  refine nx_sv (As := [.int x5]) (rest := []) (post := ¬ plB x5) (exc := fun E => plB x5 ∧ E = eIO) S (cN_requirePlace l hfl x5) kN_20 ⟨rfl, rfl, Nat.le_of_ble_eq_true rfl, Nat.le_of_ble_eq_true rfl⟩ ⟨Nat.le_of_ble_eq_true rfl, Nat.le_of_ble_eq_true rfl⟩ nmX.bl (hX.at rfl) rfl hl.1 rfl (Nat.le_of_ble_eq_true rfl) dN_shift_7 hno hlocks (fun E h => exK_of (k := 1) (if_pos (Or.inr h.1)) (by decide) h.2) (fun q2 => ?_)
  refine lv_iload_n hx hb dN_shift_10 rfl (lv_at hl 3 rfl) ?_
  refine nx_sv (As := [.int x3]) (rest := []) (post := ¬ valB x3) (exc := fun E => valB x3 ∧ E = eIA) S (cN_requireValue l hfl x3) kN_27 ⟨rfl, rfl, Nat.le_of_ble_eq_true rfl, Nat.le_of_ble_eq_true rfl⟩ ⟨Nat.le_of_ble_eq_true rfl, Nat.le_of_ble_eq_true rfl⟩ nmX.bl (hX.at rfl) rfl hl.1 rfl (Nat.le_of_ble_eq_true rfl) dN_shift_11 hno hlocks (fun E h => exK_of (k := 2) (by unfold kShift; rw [if_neg (fun h => h.elim q1 q2), if_pos (Or.inl h.1)]) (by decide) h.2) (fun q3 => ?_)
  obtain ⟨a, ha, rfl⟩ := plB_not q1
  have ea : ix (nI a) = a := ix_nI (by omega)
  obtain ⟨u, hu, rfl⟩ := plB_not q2
  have eu : ix (nI u) = u := ix_nI (by omega)
  refine lv_iload_n hx hb dN_shift_14 rfl (lv_at hl 1 rfl) ?_
  refine lv_if_lt (tgt := 23) hx hb dN_shift_15 (by decide) (fun c4 => ?_) (fun c4 => ?_)
  · exact nm_throw (E := eIA) (tx := "no such kind of shift") (ik := 64) (is := 94) (ic := 68) S hfl hX (by decide) (by decide +kernel) kcl_64 kin_eIA (by decide) kat_eIA hl.1 ⟨(Nat.le_of_ble_eq_true rfl), (Nat.le_of_ble_eq_true rfl), (Nat.le_of_ble_eq_true rfl), (Nat.le_of_ble_eq_true rfl)⟩ (Nat.le_of_ble_eq_true rfl) hlocks hno dN_shift_23 dN_shift_26 dN_shift_27 dN_shift_29 dN_shift_32 (fun t q hW h => ⟨eIA, exK_of (k := 2) (by unfold kShift; rw [if_neg (fun h => h.elim q1 q2), if_pos (Or.inr (Or.inl (Or.inl c4)))]) (by decide) rfl, h⟩)
  · refine lv_iload_n hx hb dN_shift_18 rfl (lv_at hl 1 rfl) ?_
    refine lv_iconst (v := 4) hx hb dN_shift_19 (by decide) ?_
    refine lv_icmp_le (tgt := 33) hx hb dN_shift_20 (by decide) (fun c5 => ?_) (fun c5 => ?_)
    · refine lv_iload_n hx hb dN_shift_33 rfl (lv_at hl 2 rfl) ?_
      refine lv_sipush (v := (-1000)) hx hb dN_shift_34 (by decide) ?_
      refine lv_icmp_lt (tgt := 47) hx hb dN_shift_37 (by decide) (fun c6 => ?_) (fun c6 => ?_)
      · exact nm_throw (E := eIA) (tx := "a shift goes by -1000 to 1000") (ik := 64) (is := 96) (ic := 68) S hfl hX (by decide) (by decide +kernel) kcl_64 kin_eIA (by decide) kat_eIA hl.1 ⟨(Nat.le_of_ble_eq_true rfl), (Nat.le_of_ble_eq_true rfl), (Nat.le_of_ble_eq_true rfl), (Nat.le_of_ble_eq_true rfl)⟩ (Nat.le_of_ble_eq_true rfl) hlocks hno dN_shift_47 dN_shift_50 dN_shift_51 dN_shift_53 dN_shift_56 (fun t q hW h => ⟨eIA, exK_of (k := 2) (by unfold kShift; rw [if_neg (fun h => h.elim q1 q2), if_pos (Or.inr (Or.inr (Or.inl c6)))]) (by decide) rfl, h⟩)
      · refine lv_iload_n hx hb dN_shift_40 rfl (lv_at hl 2 rfl) ?_
        refine lv_sipush (v := 1000) hx hb dN_shift_41 (by decide) ?_
        refine lv_icmp_le (tgt := 57) hx hb dN_shift_44 (by decide) (fun c7 => ?_) (fun c7 => ?_)
        · have hbd := sh_bd c6 (Int32.not_lt.mpr c7)
          have hkd : ¬ (x1 < 0 ∨ 4 < x1) := fun h => h.elim c4 (fun q => Int32.not_lt.mpr c5 q)
          have hk0 : kShift x1 x2 x3 (nI a) (nI u) = 0 := by unfold kShift; rw [if_neg (fun h => h.elim q1 q2), if_neg (fun h => h.elim q3 (fun h => h.elim hkd (fun h => h.elim c6 (fun q => Int32.not_lt.mpr c7 q))))]
          obtain ⟨v, hv, rfl⟩ := valB_not q3
          have ev : ix (nI v) = v := ix_nI (by omega)
          obtain ⟨o, ho, rfl⟩ := in_not' (N := 4) rfl (by decide) hkd
          have eo : ix (nI o) = o := ix_nI (by omega)
          refine lv_aload_n hx hb dN_shift_57 rfl (lv_at hl 0 rfl) ?_
          refine lv_iload_n hx hb dN_shift_58 rfl (lv_at hl 1 rfl) ?_
          refine lv_iload_n hx hb dN_shift_59 rfl (lv_at hl 2 rfl) ?_
          refine lv_iload_n hx hb dN_shift_60 rfl (lv_at hl 3 rfl) ?_
          refine lv_aload_n hx hb dN_shift_61 rfl (lv_at hl 0 rfl) ?_
          refine nm_getP S hK hP dN_shift_62 ?_
          refine lv_iload hx hb dN_shift_65 (lv_at hl 4 rfl) ?_
          refine nm_ald (j := a) hx hb hK hP ha dN_shift_67 ?_
          refine nm_callB (B := fun H9 : Heap => ∃ n9 g9, nvU 17 n g 16 (n a) (fShift o x2.toInt v (g a) (n a)) n9 g9 ∧ va_P D vwCl (nvW cA cW T n9 g9) H9) (As := [.int (nI o), .int x2, .int (nI v), .ref (T (2 + a))]) (rest := []) S (cN_moveBy l D cA cW T hT n g ok o (by omega) x2 hbd v hv a ha) kN_98 ⟨rfl, rfl, Nat.le_of_ble_eq_true rfl, Nat.le_of_ble_eq_true rfl⟩ ⟨Nat.zero_le _, Nat.zero_le _⟩ hob0 hP hK hX rfl hl.1 rfl (Nat.le_of_ble_eq_true rfl) dN_shift_68 (fun H locs hB hS => ?_)
          obtain ⟨n1, g1, u1, hP⟩ := hB
          refine lv_aload_n hx hb dN_shift_71 rfl (lv_at hl 0 rfl) ?_
          refine nm_getP S hK hP dN_shift_72 ?_
          refine lv_iload hx hb dN_shift_75 (lv_at hl 5 rfl) ?_
          refine nm_ald (j := u) hx hb hK hP hu dN_shift_77 ?_
          refine lv_aload_n hx hb dN_shift_78 rfl (lv_at hl 0 rfl) ?_
          refine nm_getA S hK hP dN_shift_79 ?_
          refine nv_call (As := [.ref (T (2 + 16))]) (rest := []) S (c_Word_copy l D cA cW T hT n1 g1 u (Nat.lt_succ_of_lt hu) 16 (by decide) (by omega) (u1.2.2.2.1 16)) kN_81 ⟨rfl, rfl, Nat.le_of_ble_eq_true rfl, Nat.le_of_ble_eq_true rfl⟩ ⟨Nat.zero_le _, Nat.zero_le _⟩ (nv_ob hK hP (Nat.lt_succ_of_lt hu)) hP hK hS rfl hl.1 rfl (Nat.le_of_ble_eq_true rfl) dN_shift_82 (fun H locs hP hS => ?_)
          refine ny_ret ?_
          exact W.vret hx hb hr (fun t ht hW => ⟨rfl, hk0, ⟨va_up n1 u (n1 16), va_up g1 u (pov (g1 16) (g1 u) 0 (n1 16)), by rw [eu]; exact nvU_eq (nvU_fin u1 hu) (by rw [ea]) (by rw [ea, ev, eo]; exact fun _ _ => rfl), by rw [ht]; exact hP⟩, hS.F ht⟩) hS.2.2 dN_shift_85
        · exact nm_throw (E := eIA) (tx := "a shift goes by -1000 to 1000") (ik := 64) (is := 96) (ic := 68) S hfl hX (by decide) (by decide +kernel) kcl_64 kin_eIA (by decide) kat_eIA hl.1 ⟨(Nat.le_of_ble_eq_true rfl), (Nat.le_of_ble_eq_true rfl), (Nat.le_of_ble_eq_true rfl), (Nat.le_of_ble_eq_true rfl)⟩ (Nat.le_of_ble_eq_true rfl) hlocks hno dN_shift_47 dN_shift_50 dN_shift_51 dN_shift_53 dN_shift_56 (fun t q hW h => ⟨eIA, exK_of (k := 2) (by unfold kShift; rw [if_neg (fun h => h.elim q1 q2), if_pos (Or.inr (Or.inr (Or.inr (Int32.not_le.mp c7))))]) (by decide) rfl, h⟩)
    · exact nm_throw (E := eIA) (tx := "no such kind of shift") (ik := 64) (is := 94) (ic := 68) S hfl hX (by decide) (by decide +kernel) kcl_64 kin_eIA (by decide) kat_eIA hl.1 ⟨(Nat.le_of_ble_eq_true rfl), (Nat.le_of_ble_eq_true rfl), (Nat.le_of_ble_eq_true rfl), (Nat.le_of_ble_eq_true rfl)⟩ (Nat.le_of_ble_eq_true rfl) hlocks hno dN_shift_23 dN_shift_26 dN_shift_27 dN_shift_29 dN_shift_32 (fun t q hW h => ⟨eIA, exK_of (k := 2) (by unfold kShift; rw [if_neg (fun h => h.elim q1 q2), if_pos (Or.inr (Or.inl (Or.inr (Int32.not_le.mp c5))))]) (by decide) rfl, h⟩)
set_option maxHeartbeats 4000000 in
set_option maxRecDepth 100000 in
theorem lpN_same {p : Program} {e : Env} {s : State} {m : MethodId} {args : Array Value} {below : List Frame} {meth : Method} {c : Code} {Q : State → Prop} (l : Launch) (D : va_G) (cA cW : ClassId) (T : Nat → Nat) (hT : nvT T) (n : Nat → Nat) (g : Nat → Nat → Nat) (ok : nvOk n g) (b1 : Nat) (hb1 : b1 < 2) (a : Nat) (ha : a < 16) (d : Nat) (hd : d < 16) (hnn : n a = n d) (S : CallFix p m c bN_same 9 s args nzG RN) (hX : nmX s) (hK : va_K D vwCl (nvTy cA cW) s) (hP : va_P D vwCl (nvW cA cW T n g) s.heap) (k0 : ∀ (ls : Array Slot), (0 : Int32) = nI (zSame b1 (g a) (g d) (n a) (n d)) → W p l e ({ frames := 7, cells := 1, slots := 6, locals := 110 }) s m args below meth c s.heap [] 0 0 Q (F0 m 96 ls [])) (k1 : ∀ (ls : Array Slot), (1 : Int32) = nI (zSame b1 (g a) (g d) (n a) (n d)) → W p l e ({ frames := 7, cells := 1, slots := 6, locals := 110 }) s m args below meth c s.heap [] 0 0 Q (F0 m 104 ls [])) : ∀ (fuel k : Nat), k ≤ n a → n a < k + fuel → (∀ j, j < k → (if b1 = 1 then zMatch (g a j) (g d j) = 1 else g a j = g d j)) → ∀ (ls : Array Slot), lv_has ls 9 [(0, .ref (T 0)), (1, .int (nI b1)), (4, .ref (T (2 + a))), (5, .ref (T (2 + d))), (6, .int (nI k))] → W p l e ({ frames := 7, cells := 1, slots := 6, locals := 110 }) s m args below meth c s.heap [] 0 0 Q (F0 m 42 ls []) := by
  have hx := S.1
  have hb := S.2.1
  have hna := ok.1 a
  intro fuel
  induction fuel with
  | zero =>
    intro k hk hfu
    exact absurd hfu (by omega)
  | succ fuel ih =>
    intro k hk hfu hall ls hl
    refine lv_iload hx hb dN_same_42 (lv_at hl 4 rfl) ?_
    refine lv_aload hx hb dN_same_44 (lv_at hl 2 rfl) ?_
    refine nm_getS S hX hK hP (Nat.lt_succ_of_lt ha) dN_same_46 ?_
    refine lv_icmp_ge (tgt := 104) hx hb dN_same_49 (by decide) (fun c1 => ?_) (fun c1 => ?_)
    · have mc1 : (n a) ≤ k := (nI_leI (a := (n a)) (b := k) (by omega) (by omega)).mp c1
      exact k1 ls (zSame_1 ⟨hnn, fun j hj => hall j (by omega)⟩)
    · have mc1 : k < (n a) := Nat.lt_of_not_le (fun h => c1 ((nI_leI (a := (n a)) (b := k) (by omega) (by omega)).mpr h))
      refine lv_aload hx hb dN_same_52 (lv_at hl 2 rfl) ?_
      refine nm_getE S hX hK hP (Nat.lt_succ_of_lt ha) dN_same_54 ?_
      refine lv_iload hx hb dN_same_57 (lv_at hl 4 rfl) ?_
      refine nv_ald (k := k) hx hb hK hP (Nat.lt_succ_of_lt ha) (by omega) dN_same_59 ?_
      refine lv_istore (lv' := [(7, .int (nI (g a k))), (0, .ref (T 0)), (1, .int (nI b1)), (4, .ref (T (2 + a))), (5, .ref (T (2 + d))), (6, .int (nI k))]) hx hb dN_same_60 hl (by decide) rfl (fun ls hl => ?_)
      refine lv_aload hx hb dN_same_62 (lv_at hl 4 rfl) ?_
      refine nm_getE S hX hK hP (Nat.lt_succ_of_lt hd) dN_same_64 ?_
      refine lv_iload hx hb dN_same_67 (lv_at hl 5 rfl) ?_
      refine nv_ald (k := k) hx hb hK hP (Nat.lt_succ_of_lt hd) (by omega) dN_same_69 ?_
      refine lv_istore (lv' := [(8, .int (nI (g d k))), (7, .int (nI (g a k))), (0, .ref (T 0)), (1, .int (nI b1)), (4, .ref (T (2 + a))), (5, .ref (T (2 + d))), (6, .int (nI k))]) hx hb dN_same_70 hl (by decide) rfl (fun ls hl => ?_)
      refine lv_iload_n hx hb dN_same_72 rfl (lv_at hl 3 rfl) ?_
      refine lv_if_eq (tgt := 89) hx hb dN_same_73 (by decide) (fun c2 => ?_) (fun c2 => ?_)
      · have mc2 : b1 = 0 := (nI_eq (a := b1) (b := 0) (by omega) (by omega)).mp c2
        refine lv_iload hx hb dN_same_89 (lv_at hl 1 rfl) ?_
        refine lv_iload hx hb dN_same_91 (lv_at hl 0 rfl) ?_
        refine lv_icmp_eq (tgt := 98) hx hb dN_same_93 (by decide) (fun c3 => ?_) (fun c3 => ?_)
        · refine lv_iinc (v := nI (k + 1)) (lv' := [(6, .int (nI (k + 1))), (8, .int (nI (g d k))), (7, .int (nI (g a k))), (0, .ref (T 0)), (1, .int (nI b1)), (4, .ref (T (2 + a))), (5, .ref (T (2 + d)))]) hx hb dN_same_98 hl (k := 6) rfl (nI_1 k) (by decide) rfl (fun ls hl => ?_)
          refine lv_goto (tgt := 42) hx hb dN_same_101 (by decide) ?_
          refine ih (k + 1) (by omega) (by omega) (fun j hj => ?_) ls (lv_sub hl [3, 4, 5, 6, 0] rfl)
          by_cases hjk : j < k
          · exact hall j hjk
          · obtain rfl : j = k := by omega
            exact (by rw [if_neg (by omega)]; exact (nI_eq (by have := ok.2 a j; omega) (by have := ok.2 d j; omega)).mp c3)
        · exact k0 ls (zSame_0 (fun q => by have := q.2 k (by omega); rw [if_neg (by omega)] at this; exact c3 (by rw [this])))
      · have mc2 : ¬ b1 = 0 := fun h => c2 ((nI_eq (a := b1) (b := 0) (by omega) (by omega)).mpr h)
        refine lv_iload hx hb dN_same_76 (lv_at hl 1 rfl) ?_
        refine lv_iload hx hb dN_same_78 (lv_at hl 0 rfl) ?_
        refine nz_si (As := [.int (nI (g a k)), .int (nI (g d k))]) (rest := []) S (c_Wire_goTogether l (g a k) (ok.2 a k) (g d k) (ok.2 d k)) kN_128 ⟨rfl, rfl, Nat.le_of_ble_eq_true rfl, Nat.le_of_ble_eq_true rfl⟩ ⟨Nat.zero_le _, Nat.zero_le _⟩ (fun _ _ _ _ h => h) (fun _ _ _ => trivial) rfl hl.1 rfl (Nat.le_of_ble_eq_true rfl) dN_same_80 (fun r4 er4 => ?_)
        subst er4
        refine lv_if_ne (tgt := 98) hx hb dN_same_83 (by decide) (fun c5 => ?_) (fun c5 => ?_)
        · refine lv_iinc (v := nI (k + 1)) (lv' := [(6, .int (nI (k + 1))), (8, .int (nI (g d k))), (7, .int (nI (g a k))), (0, .ref (T 0)), (1, .int (nI b1)), (4, .ref (T (2 + a))), (5, .ref (T (2 + d)))]) hx hb dN_same_98 hl (k := 6) rfl (nI_1 k) (by decide) rfl (fun ls hl => ?_)
          refine lv_goto (tgt := 42) hx hb dN_same_101 (by decide) ?_
          refine ih (k + 1) (by omega) (by omega) (fun j hj => ?_) ls (lv_sub hl [3, 4, 5, 6, 0] rfl)
          by_cases hjk : j < k
          · exact hall j hjk
          · obtain rfl : j = k := by omega
            exact (by rw [if_pos (by omega)]; exact (by decide +kernel : ∀ p, p < 9 → ∀ q, q < 9 → ¬ nI (zMatch p q) = 0 → zMatch p q = 1) _ (ok.2 a j) _ (ok.2 d j) c5)
        · refine lv_goto (tgt := 96) hx hb dN_same_86 (by decide) ?_
          exact k0 ls (zSame_0 (fun q => by have := q.2 k (by omega); rw [if_pos (by omega)] at this; rw [this] at c5; exact absurd c5 (by decide)))
set_option maxHeartbeats 4000000 in
set_option maxRecDepth 100000 in
theorem cN_same (l : Launch) (hfl : l.flags = pinnedFlags ++ [noTraceFlag]) (D : va_G) (cA cW : ClassId) (T : Nat → Nat) (hT : nvT T) (n : Nat → Nat) (g : Nat → Nat → Nat) (ok : nvOk n g) (b1 : Nat) (hb1 : b1 < 2) (x2 x3 : Int32) : ny_Met l yN_same (Cond.code yN_same bN_same 9 (some .boolean) :: nzG) ({ frames := 7, cells := 1, slots := 6, locals := 110 }) (va_Pc [.ref (T 0), .int (nI b1), .int x2, .int x3] (nmP D cA cW (nvW cA cW T n g))) (nxQ (fun v st t => (kPl2 x2 x3) = 0 ∧ v = some (.int (nI (zSame b1 (g (ix x2)) (g (ix x3)) (n (ix x2)) (n (ix x3))))) ∧ t.heap = st.heap) (exK exI (kPl2 x2 x3))) 0 0 1 6 (fun _ => False) := by
  refine nz_ofT (own := RN) (by decide) rfl ?_
  intro p e s m args below meth c S hr hlocks hno hv9
  obtain ⟨rfl, hP, hK, hX⟩ := hv9
  have hob0 := nv_ob0 hK hP
  have hS : va_S (nvA T) s.heap s.heap [] := va_S.rf
  have hx := S.1
  have hb := S.2.1
  refine nz_entry (vs := [.ref (T 0), .int (nI b1), .int x2, .int x3]) (n := 9) (lv := [(0, .ref (T 0)), (1, .int (nI b1)), (2, .int x2), (3, .int x3)]) (Nat.le_of_ble_eq_true rfl) rfl (fun ls hl => ?_)
  refine lv_iload_n hx hb dN_same_0 rfl (lv_at hl 2 rfl) ?_
  refine nx_sv (As := [.int x2]) (rest := []) (post := ¬ plB x2) (exc := fun E => plB x2 ∧ E = eIO) S (cN_requirePlace l hfl x2) kN_20 ⟨rfl, rfl, Nat.le_of_ble_eq_true rfl, Nat.le_of_ble_eq_true rfl⟩ ⟨Nat.le_of_ble_eq_true rfl, Nat.le_of_ble_eq_true rfl⟩ nmX.bl (hX.at rfl) rfl hl.1 rfl (Nat.le_of_ble_eq_true rfl) dN_same_1 hno hlocks (fun E h => exK_of (k := 1) (if_pos (Or.inl h.1)) (by decide) h.2) (fun q1 => ?_)
  refine lv_iload_n hx hb dN_same_4 rfl (lv_at hl 3 rfl) ?_
  refine nx_sv (As := [.int x3]) (rest := []) (post := ¬ plB x3) (exc := fun E => plB x3 ∧ E = eIO) S (cN_requirePlace l hfl x3) kN_20 ⟨rfl, rfl, Nat.le_of_ble_eq_true rfl, Nat.le_of_ble_eq_true rfl⟩ ⟨Nat.le_of_ble_eq_true rfl, Nat.le_of_ble_eq_true rfl⟩ nmX.bl (hX.at rfl) rfl hl.1 rfl (Nat.le_of_ble_eq_true rfl) dN_same_5 hno hlocks (fun E h => exK_of (k := 1) (if_pos (Or.inr h.1)) (by decide) h.2) (fun q2 => ?_)
  have hk0 : kPl2 x2 x3 = 0 := if_neg (fun h => h.elim q1 q2)
  obtain ⟨a, ha, rfl⟩ := plB_not q1
  have ea : ix (nI a) = a := ix_nI (by omega)
  obtain ⟨d, hd, rfl⟩ := plB_not q2
  have ed : ix (nI d) = d := ix_nI (by omega)
  have hna := ok.1 a
  have hnd := ok.1 d
  refine lv_aload_n hx hb dN_same_8 rfl (lv_at hl 0 rfl) ?_
  refine nm_getP S hK hP dN_same_9 ?_
  refine lv_iload_n hx hb dN_same_12 rfl (lv_at hl 2 rfl) ?_
  refine nm_ald (j := a) hx hb hK hP ha dN_same_13 ?_
  refine lv_astore (lv' := [(4, .ref (T (2 + a))), (0, .ref (T 0)), (1, .int (nI b1)), (2, .int (nI a)), (3, .int (nI d))]) hx hb dN_same_14 hl (by decide) rfl (fun ls hl => ?_)
  refine lv_aload_n hx hb dN_same_16 rfl (lv_at hl 1 rfl) ?_
  refine nm_getP S hK hP dN_same_17 ?_
  refine lv_iload_n hx hb dN_same_20 rfl (lv_at hl 4 rfl) ?_
  refine nm_ald (j := d) hx hb hK hP hd dN_same_21 ?_
  refine lv_astore (lv' := [(5, .ref (T (2 + d))), (4, .ref (T (2 + a))), (0, .ref (T 0)), (1, .int (nI b1)), (2, .int (nI a)), (3, .int (nI d))]) hx hb dN_same_22 hl (by decide) rfl (fun ls hl => ?_)
  refine lv_aload hx hb dN_same_24 (lv_at hl 1 rfl) ?_
  refine nm_getS S hX hK hP (Nat.lt_succ_of_lt ha) dN_same_26 ?_
  refine lv_aload hx hb dN_same_29 (lv_at hl 0 rfl) ?_
  refine nm_getS S hX hK hP (Nat.lt_succ_of_lt hd) dN_same_31 ?_
  refine lv_icmp_eq (tgt := 39) hx hb dN_same_34 (by decide) (fun c3 => ?_) (fun c3 => ?_)
  · have mc3 : (n a) = (n d) := (nI_eq (a := (n a)) (b := (n d)) (by omega) (by omega)).mp c3
    refine lv_iconst (v := 0) hx hb dN_same_39 (by decide) ?_
    refine lv_istore (lv' := [(6, .int 0), (5, .ref (T (2 + d))), (4, .ref (T (2 + a))), (0, .ref (T 0)), (1, .int (nI b1)), (2, .int (nI a)), (3, .int (nI d))]) hx hb dN_same_40 hl (by decide) rfl (fun ls hl => ?_)
    refine lpN_same l D cA cW T hT n g ok b1 hb1 a ha d hd mc3 S hX hK hP (fun ls e0 => ?_) (fun ls e1 => ?_) (n a + 1) 0 (by omega) (by omega) (fun j hj => absurd hj (by omega)) ls (lv_sub hl [3, 4, 2, 1, 0] rfl)
    · refine lv_iconst (v := 0) hx hb dN_same_96 (by decide) ?_
      refine ny_ret ?_
      exact W.zret (v := 0) hx hb hr rfl (fun t ht hW => ⟨hk0, by rw [ea, ed]; exact congrArg some (congrArg Value.int (e0)), ht⟩) (fun q h => nomatch h) dN_same_97
    · refine lv_iconst (v := 1) hx hb dN_same_104 (by decide) ?_
      refine ny_ret ?_
      exact W.zret (v := 1) hx hb hr rfl (fun t ht hW => ⟨hk0, by rw [ea, ed]; exact congrArg some (congrArg Value.int (e1)), ht⟩) (fun q h => nomatch h) dN_same_105
  · have mc3 : ¬ (n a) = (n d) := fun h => c3 ((nI_eq (a := (n a)) (b := (n d)) (by omega) (by omega)).mpr h)
    refine lv_iconst (v := 0) hx hb dN_same_37 (by decide) ?_
    refine ny_ret ?_
    exact W.zret (v := 0) hx hb hr rfl (fun t ht hW => ⟨hk0, by rw [ea, ed]; exact congrArg some (congrArg Value.int (zSame_0 (fun q => mc3 q.1))), ht⟩) (fun q h => nomatch h) dN_same_38
