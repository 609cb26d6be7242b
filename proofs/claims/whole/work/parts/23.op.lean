set_option maxHeartbeats 4000000 in
set_option maxRecDepth 100000 in
theorem cN_calculate (l : Launch) (hfl : l.flags = pinnedFlags ++ [noTraceFlag]) (D : va_G) (cA cW : ClassId) (T : Nat → Nat) (hT : nvT T) (n : Nat → Nat) (g : Nat → Nat → Nat) (ok : nvOk n g) (o : Nat) (ho : 7 ≤ o ∧ o ≤ 12) (b1 : Nat) (hb1 : b1 < 2) (a : Nat) (ha : a < 16) (d : Nat) (hd : d < 16) : ny_Met l yN_calculate (Cond.code yN_calculate bN_calculate 10 none :: nzG) ({ frames := 7, cells := 1, slots := 6, locals := 110 }) (va_Pc [.ref (T 0), .int (nI o), .int (nI b1), .ref (T (2 + a)), .ref (T (2 + d))] (nmP D cA cW (nvW cA cW T n g))) (nxQ (fun v st t => v = none ∧ kCalc o b1 (g a) (n a) (g d) (n d) = 0 ∧ (fun H9 : Heap => ∃ n9 g9, nvU 17 n g 16 (nCalc o (g a) (n a) (g d) (n d)) (fCalc o b1 (g a) (n a) (g d) (n d)) n9 g9 ∧ va_P D vwCl (nvW cA cW T n9 g9) H9) t.heap ∧ va_F (nvA T) st t) (exK exI (kCalc o b1 (g a) (n a) (g d) (n d)))) 0 0 1 6 (nvA T) := by
  refine nz_ofT (own := RN) (by decide) rfl ?_
  intro p e s m args below meth c S hr hlocks hno hv9
  obtain ⟨rfl, hP, hK, hX⟩ := hv9
  have hob0 := nv_ob0 hK hP
  have hS : va_S (nvA T) s.heap s.heap [] := va_S.rf
  have hx := S.1
  have hb := S.2.1
  refine nz_entry (vs := [.ref (T 0), .int (nI o), .int (nI b1), .ref (T (2 + a)), .ref (T (2 + d))]) (n := 10) (lv := [(0, .ref (T 0)), (1, .int (nI o)), (2, .int (nI b1)), (3, .ref (T (2 + a))), (4, .ref (T (2 + d)))]) (Nat.le_of_ble_eq_true rfl) rfl (fun ls hl => ?_)
  have hna := ok.1 a
  have hnd := ok.1 d
  have hz0 := zLen_le o hna hnd
  have hp64 := zLong_lt b1 (g a) hna
  have hq64 := zLong_lt b1 (g d) hnd
  refine lv_iload_n hx hb dN_calculate_0 rfl (lv_at hl 1 rfl) ?_
  refine lv_aload_n hx hb dN_calculate_1 rfl (lv_at hl 3 rfl) ?_
  refine nm_getS S hX hK hP (Nat.lt_succ_of_lt ha) dN_calculate_2 ?_
  refine lv_aload hx hb dN_calculate_5 (lv_at hl 4 rfl) ?_
  refine nm_getS S hX hK hP (Nat.lt_succ_of_lt hd) dN_calculate_7 ?_
  refine nz_si (As := [.int (nI o), .int (nI (n a)), .int (nI (n d))]) (rest := []) S (cN_lengthOfResult l o ho (n a) (n d) hna hnd) kN_160 ⟨rfl, rfl, Nat.le_of_ble_eq_true rfl, Nat.le_of_ble_eq_true rfl⟩ ⟨Nat.zero_le _, Nat.zero_le _⟩ (fun _ _ _ _ h => h) (fun _ _ _ => trivial) rfl hl.1 rfl (Nat.le_of_ble_eq_true rfl) dN_calculate_10 (fun r1 er1 => ?_)
  subst er1
  refine lv_istore (lv' := [(5, .int (nI (zLen o (n a) (n d)))), (0, .ref (T 0)), (1, .int (nI o)), (2, .int (nI b1)), (3, .ref (T (2 + a))), (4, .ref (T (2 + d)))]) hx hb dN_calculate_13 hl (by decide) rfl (fun ls hl => ?_)
  refine lv_iload hx hb dN_calculate_15 (lv_at hl 0 rfl) ?_
  refine nx_sv (As := [.int (nI (zLen o (n a) (n d)))]) (rest := []) (post := ¬ lenB (nI (zLen o (n a) (n d)))) (exc := fun E => lenB (nI (zLen o (n a) (n d))) ∧ E = eIA) S (cN_requireLength l hfl (nI (zLen o (n a) (n d)))) kN_24 ⟨rfl, rfl, Nat.le_of_ble_eq_true rfl, Nat.le_of_ble_eq_true rfl⟩ ⟨Nat.le_of_ble_eq_true rfl, Nat.le_of_ble_eq_true rfl⟩ nmX.bl (hX.at rfl) rfl hl.1 rfl (Nat.le_of_ble_eq_true rfl) dN_calculate_17 hno hlocks (fun E h => exK_of (k := 2) (if_pos (lenB_of (by omega) h.1)) (by decide) h.2) (fun q2 => ?_)
  have hz : zLen o (n a) (n d) ≤ 64 := lenB_no (by omega) q2
  refine lv_aload_n hx hb dN_calculate_20 rfl (lv_at hl 4 rfl) ?_
  refine nz_vi (As := []) (rest := []) S (c_Word_counts l D cA cW T hT n g a (Nat.lt_succ_of_lt ha) ok.2 (ok.1 a)) kN_121 ⟨rfl, rfl, Nat.le_of_ble_eq_true rfl, Nat.le_of_ble_eq_true rfl⟩ ⟨Nat.zero_le _, Nat.zero_le _⟩ nvP.bl (nv_ob hK hP (Nat.lt_succ_of_lt ha)) (nvP.to hP hK) rfl hl.1 rfl (Nat.le_of_ble_eq_true rfl) dN_calculate_21 (fun r3 er3 => ?_)
  subst er3
  refine lv_if_eq (tgt := 35) hx hb dN_calculate_24 (by decide) (fun c4 => ?_) (fun c4 => ?_)
  · refine lv_aload_n hx hb dN_calculate_35 rfl (lv_at hl 1 rfl) ?_
    refine nm_getA S hK hP dN_calculate_36 ?_
    refine lv_aload_n hx hb dN_calculate_39 rfl (lv_at hl 4 rfl) ?_
    refine nm_getS S hX hK hP (Nat.lt_succ_of_lt ha) dN_calculate_40 ?_
    refine lv_if_eq (tgt := 54) hx hb dN_calculate_43 (by decide) (fun c5 => ?_) (fun c5 => ?_)
    · have mc5 : (n a) = 0 := (nI_eq (a := (n a)) (b := 0) (by omega) (by omega)).mp c5
      refine lv_iconst (v := 0) hx hb dN_calculate_54 (by decide) ?_
      refine lv_goto (tgt := 60) hx hb dN_calculate_55 (by decide) ?_
      refine lv_iconst (v := 1) hx hb dN_calculate_60 (by decide) ?_
      refine nv_call (As := [.int 0, .int 1]) (rest := []) S (c_Word_become l D cA cW T hT n g 16 (by decide) 0 (by omega) 1) kN_30 ⟨rfl, rfl, Nat.le_of_ble_eq_true rfl, Nat.le_of_ble_eq_true rfl⟩ ⟨Nat.zero_le _, Nat.zero_le _⟩ (nv_ob hK hP (by decide)) hP hK hS rfl hl.1 rfl (Nat.le_of_ble_eq_true rfl) dN_calculate_61 (fun H locs hP hS => ?_)
      refine ny_ret ?_
      exact W.vret hx hb hr (fun t ht hW => ⟨rfl, (by unfold kCalc; rw [if_neg (by omega), if_neg (fun q => zCnt_n c4 q.1)]), ⟨_, _, nvU_eq (nvU_lay (F := fun _ => 1) (N := 0) ok (by omega) (fun _ _ => (by decide : (1 : Nat) < 9))) (by unfold nCalc; rw [if_neg (fun q => zCnt_n c4 q.1), if_pos (by omega)]) (fun k _ => by unfold fCalc; rw [if_neg (fun q => zCnt_n c4 q.1)]), by rw [ht]; exact hP⟩, hS.F ht⟩) hS.2.2 dN_calculate_64
    · have mc5 : ¬ (n a) = 0 := fun h => c5 ((nI_eq (a := (n a)) (b := 0) (by omega) (by omega)).mpr h)
      refine lv_aload hx hb dN_calculate_46 (lv_at hl 5 rfl) ?_
      refine nm_getS S hX hK hP (Nat.lt_succ_of_lt hd) dN_calculate_48 ?_
      refine lv_if_ne (tgt := 58) hx hb dN_calculate_51 (by decide) (fun c6 => ?_) (fun c6 => ?_)
      · have mc6 : ¬ (n d) = 0 := fun h => c6 ((nI_eq (a := (n d)) (b := 0) (by omega) (by omega)).mpr h)
        refine lv_iload hx hb dN_calculate_58 (lv_at hl 0 rfl) ?_
        refine lv_iconst (v := 1) hx hb dN_calculate_60 (by decide) ?_
        refine nv_call (As := [.int (nI (zLen o (n a) (n d))), .int 1]) (rest := []) S (c_Word_become l D cA cW T hT n g 16 (by decide) (zLen o (n a) (n d)) (by omega) 1) kN_30 ⟨rfl, rfl, Nat.le_of_ble_eq_true rfl, Nat.le_of_ble_eq_true rfl⟩ ⟨Nat.zero_le _, Nat.zero_le _⟩ (nv_ob hK hP (by decide)) hP hK hS rfl hl.1 rfl (Nat.le_of_ble_eq_true rfl) dN_calculate_61 (fun H locs hP hS => ?_)
        refine ny_ret ?_
        exact W.vret hx hb hr (fun t ht hW => ⟨rfl, (by unfold kCalc; rw [if_neg (by omega), if_neg (fun q => zCnt_n c4 q.1)]), ⟨_, _, nvU_eq (nvU_lay (F := fun _ => 1) (N := (zLen o (n a) (n d))) ok (by omega) (fun _ _ => (by decide : (1 : Nat) < 9))) (by unfold nCalc; rw [if_neg (fun q => zCnt_n c4 q.1), if_neg (by omega)]) (fun k _ => by unfold fCalc; rw [if_neg (fun q => zCnt_n c4 q.1)]), by rw [ht]; exact hP⟩, hS.F ht⟩) hS.2.2 dN_calculate_64
      · have mc6 : (n d) = 0 := (nI_eq (a := (n d)) (b := 0) (by omega) (by omega)).mp c6
        refine lv_iconst (v := 0) hx hb dN_calculate_54 (by decide) ?_
        refine lv_goto (tgt := 60) hx hb dN_calculate_55 (by decide) ?_
        refine lv_iconst (v := 1) hx hb dN_calculate_60 (by decide) ?_
        refine nv_call (As := [.int 0, .int 1]) (rest := []) S (c_Word_become l D cA cW T hT n g 16 (by decide) 0 (by omega) 1) kN_30 ⟨rfl, rfl, Nat.le_of_ble_eq_true rfl, Nat.le_of_ble_eq_true rfl⟩ ⟨Nat.zero_le _, Nat.zero_le _⟩ (nv_ob hK hP (by decide)) hP hK hS rfl hl.1 rfl (Nat.le_of_ble_eq_true rfl) dN_calculate_61 (fun H locs hP hS => ?_)
        refine ny_ret ?_
        exact W.vret hx hb hr (fun t ht hW => ⟨rfl, (by unfold kCalc; rw [if_neg (by omega), if_neg (fun q => zCnt_n c4 q.1)]), ⟨_, _, nvU_eq (nvU_lay (F := fun _ => 1) (N := 0) ok (by omega) (fun _ _ => (by decide : (1 : Nat) < 9))) (by unfold nCalc; rw [if_neg (fun q => zCnt_n c4 q.1), if_pos (by omega)]) (fun k _ => by unfold fCalc; rw [if_neg (fun q => zCnt_n c4 q.1)]), by rw [ht]; exact hP⟩, hS.F ht⟩) hS.2.2 dN_calculate_64
  · refine lv_aload hx hb dN_calculate_27 (lv_at hl 5 rfl) ?_
    refine nz_vi (As := []) (rest := []) S (c_Word_counts l D cA cW T hT n g d (Nat.lt_succ_of_lt hd) ok.2 (ok.1 d)) kN_121 ⟨rfl, rfl, Nat.le_of_ble_eq_true rfl, Nat.le_of_ble_eq_true rfl⟩ ⟨Nat.zero_le _, Nat.zero_le _⟩ nvP.bl (nv_ob hK hP (Nat.lt_succ_of_lt hd)) (nvP.to hP hK) rfl hl.1 rfl (Nat.le_of_ble_eq_true rfl) dN_calculate_29 (fun r7 er7 => ?_)
    subst er7
    refine lv_if_ne (tgt := 65) hx hb dN_calculate_32 (by decide) (fun c8 => ?_) (fun c8 => ?_)
    · refine lv_aload_n hx hb dN_calculate_65 rfl (lv_at hl 4 rfl) ?_
      refine lv_iload_n hx hb dN_calculate_66 rfl (lv_at hl 3 rfl) ?_
      refine nz_vl (As := [.int (nI b1)]) (rest := []) S (c_Word_asLong l D cA cW T hT n g a (Nat.lt_succ_of_lt ha) ok.2 (ok.1 a) b1 hb1) kN_60 ⟨rfl, rfl, Nat.le_of_ble_eq_true rfl, Nat.le_of_ble_eq_true rfl⟩ ⟨Nat.zero_le _, Nat.zero_le _⟩ nvP.bl (nv_ob hK hP (Nat.lt_succ_of_lt ha)) (nvP.to hP hK) rfl hl.1 rfl (Nat.le_of_ble_eq_true rfl) dN_calculate_67 (fun r9 er9 => ?_)
      subst er9
      refine lv_lstore (lv' := [(6, .long (lN (zLong b1 (g a) (n a)))), (5, .int (nI (zLen o (n a) (n d)))), (0, .ref (T 0)), (1, .int (nI o)), (2, .int (nI b1)), (3, .ref (T (2 + a))), (4, .ref (T (2 + d)))]) hx hb dN_calculate_70 hl (by decide) rfl (fun ls hl => ?_)
      refine lv_aload hx hb dN_calculate_72 (lv_at hl 6 rfl) ?_
      refine lv_iload_n hx hb dN_calculate_74 rfl (lv_at hl 4 rfl) ?_
      refine nz_vl (As := [.int (nI b1)]) (rest := []) S (c_Word_asLong l D cA cW T hT n g d (Nat.lt_succ_of_lt hd) ok.2 (ok.1 d) b1 hb1) kN_60 ⟨rfl, rfl, Nat.le_of_ble_eq_true rfl, Nat.le_of_ble_eq_true rfl⟩ ⟨Nat.zero_le _, Nat.zero_le _⟩ nvP.bl (nv_ob hK hP (Nat.lt_succ_of_lt hd)) (nvP.to hP hK) rfl hl.1 rfl (Nat.le_of_ble_eq_true rfl) dN_calculate_75 (fun r10 er10 => ?_)
      subst er10
      refine lv_lstore (lv' := [(8, .long (lN (zLong b1 (g d) (n d)))), (6, .long (lN (zLong b1 (g a) (n a)))), (5, .int (nI (zLen o (n a) (n d)))), (0, .ref (T 0)), (1, .int (nI o)), (2, .int (nI b1)), (3, .ref (T (2 + a))), (4, .ref (T (2 + d)))]) hx hb dN_calculate_78 hl (by decide) rfl (fun ls hl => ?_)
      refine lv_iload_n hx hb dN_calculate_80 rfl (lv_at hl 4 rfl) ?_
      refine lv_bipush (v := 10) hx hb dN_calculate_81 (by decide) ?_
      refine lv_icmp_ge (tgt := 104) hx hb dN_calculate_83 (by decide) (fun c11 => ?_) (fun c11 => ?_)
      · have mc11 : 10 ≤ o := (nI_leI (a := 10) (b := o) (by omega) (by omega)).mp c11
        refine lv_lload hx hb dN_calculate_104 (lv_at hl 0 rfl) ?_
        refine lv_lconst (v := 0) hx hb dN_calculate_106 (by decide) ?_
        refine W.lcmp hx hb dN_calculate_107 ?_
        refine lv_if_ne (tgt := 121) hx hb dN_calculate_108 (by decide) (fun c12 => ?_) (fun c12 => ?_)
        · refine lv_aload_n hx hb dN_calculate_121 rfl (lv_at hl 3 rfl) ?_
          refine nm_getA S hK hP dN_calculate_122 ?_
          refine lv_iload hx hb dN_calculate_125 (lv_at hl 2 rfl) ?_
          refine lv_iload_n hx hb dN_calculate_127 rfl (lv_at hl 5 rfl) ?_
          refine lv_if_eq (tgt := 142) hx hb dN_calculate_128 (by decide) (fun c13 => ?_) (fun c13 => ?_)
          · have mc13 : b1 = 0 := (nI_eq (a := b1) (b := 0) (by omega) (by omega)).mp c13
            refine lv_iload_n hx hb dN_calculate_142 rfl (lv_at hl 4 rfl) ?_
            refine lv_lload hx hb dN_calculate_143 (lv_at hl 1 rfl) ?_
            refine lv_lload hx hb dN_calculate_145 (lv_at hl 0 rfl) ?_
            refine nz_sl (As := [.int (nI o), .long (lN (zLong b1 (g a) (n a))), .long (lN (zLong b1 (g d) (n d)))]) (rest := [.int (nI (zLen o (n a) (n d))), .ref (T (2 + 16))]) S (cN_divideUnsigned l o (by omega) (zLong b1 (g a) (n a)) (zLong b1 (g d) (n d)) hp64 (Nat.pos_of_ne_zero (fun q => c12 ((lcmp_z hq64).mpr q))) hq64) kN_175 ⟨rfl, rfl, Nat.le_of_ble_eq_true rfl, Nat.le_of_ble_eq_true rfl⟩ ⟨Nat.zero_le _, Nat.zero_le _⟩ (fun _ _ _ _ h => h) (fun _ _ _ => trivial) rfl hl.1 rfl (Nat.le_of_ble_eq_true rfl) dN_calculate_147 (fun r14 er14 => ?_)
            subst er14
            refine nz_eql (y := lN (zArith o b1 (zLong b1 (g a) (n a)) (zLong b1 (g d) (n d)))) (by rw [zArith, if_neg (show ¬ o < 10 by omega), zDiv, if_neg (show ¬ b1 = 1 by omega)]) ?_
            refine nv_call (As := [.int (nI (zLen o (n a) (n d))), .long (lN (zArith o b1 (zLong b1 (g a) (n a)) (zLong b1 (g d) (n d))))]) (rest := []) S (c_Word_hold l D cA cW T hT n g 16 (by decide) (zLen o (n a) (n d)) hz (zArith o b1 (zLong b1 (g a) (n a)) (zLong b1 (g d) (n d))) (by rw [zArith, if_neg (show ¬ o < 10 by omega)]; exact zDiv_lt hp64 (Nat.pos_of_ne_zero (fun q => c12 ((lcmp_z hq64).mpr q))) hq64)) kN_45 ⟨rfl, rfl, Nat.le_of_ble_eq_true rfl, Nat.le_of_ble_eq_true rfl⟩ ⟨Nat.zero_le _, Nat.zero_le _⟩ (nv_ob hK hP (by decide)) hP hK hS rfl hl.1 rfl (Nat.le_of_ble_eq_true rfl) dN_calculate_150 (fun H locs hP hS => ?_)
            refine ny_ret ?_
            exact W.vret hx hb hr (fun t ht hW => ⟨rfl, (by unfold kCalc; rw [if_neg (by omega), if_neg (fun q => c12 ((lcmp_z hq64).mpr q.2.2.2))]), ⟨_, _, nvU_eq (nvU_lay ok hz (fun k _ => zPut_lt _ k)) (by unfold nCalc; rw [if_pos ⟨zCnt_y c4, zCnt_y c8⟩]) (fun k _ => by unfold fCalc; rw [if_pos ⟨zCnt_y c4, zCnt_y c8⟩]), by rw [ht]; exact hP⟩, hS.F ht⟩) hS.2.2 dN_calculate_153
          · have mc13 : ¬ b1 = 0 := fun h => c13 ((nI_eq (a := b1) (b := 0) (by omega) (by omega)).mpr h)
            refine lv_iload_n hx hb dN_calculate_131 rfl (lv_at hl 4 rfl) ?_
            refine lv_lload hx hb dN_calculate_132 (lv_at hl 1 rfl) ?_
            refine lv_lload hx hb dN_calculate_134 (lv_at hl 0 rfl) ?_
            refine nz_sl (As := [.int (nI o), .long (lN (zLong b1 (g a) (n a))), .long (lN (zLong b1 (g d) (n d)))]) (rest := [.int (nI (zLen o (n a) (n d))), .ref (T (2 + 16))]) S (cN_divideSigned l o (by omega) (lN (zLong b1 (g a) (n a))) (lN (zLong b1 (g d) (n d))) (lN_n0 hq64 (fun q => c12 ((lcmp_z hq64).mpr q)))) kN_172 ⟨rfl, rfl, Nat.le_of_ble_eq_true rfl, Nat.le_of_ble_eq_true rfl⟩ ⟨Nat.zero_le _, Nat.zero_le _⟩ (fun _ _ _ _ h => h) (fun _ _ _ => trivial) rfl hl.1 rfl (Nat.le_of_ble_eq_true rfl) dN_calculate_136 (fun r15 er15 => ?_)
            subst er15
            refine nz_eql (y := lN (zArith o b1 (zLong b1 (g a) (n a)) (zLong b1 (g d) (n d)))) (by rw [zArith, if_neg (show ¬ o < 10 by omega), zDiv, if_pos (show b1 = 1 by omega), lN_zU]) ?_
            refine lv_goto (tgt := 150) hx hb dN_calculate_139 (by decide) ?_
            refine nv_call (As := [.int (nI (zLen o (n a) (n d))), .long (lN (zArith o b1 (zLong b1 (g a) (n a)) (zLong b1 (g d) (n d))))]) (rest := []) S (c_Word_hold l D cA cW T hT n g 16 (by decide) (zLen o (n a) (n d)) hz (zArith o b1 (zLong b1 (g a) (n a)) (zLong b1 (g d) (n d))) (by rw [zArith, if_neg (show ¬ o < 10 by omega)]; exact zDiv_lt hp64 (Nat.pos_of_ne_zero (fun q => c12 ((lcmp_z hq64).mpr q))) hq64)) kN_45 ⟨rfl, rfl, Nat.le_of_ble_eq_true rfl, Nat.le_of_ble_eq_true rfl⟩ ⟨Nat.zero_le _, Nat.zero_le _⟩ (nv_ob hK hP (by decide)) hP hK hS rfl hl.1 rfl (Nat.le_of_ble_eq_true rfl) dN_calculate_150 (fun H locs hP hS => ?_)
            refine ny_ret ?_
            exact W.vret hx hb hr (fun t ht hW => ⟨rfl, (by unfold kCalc; rw [if_neg (by omega), if_neg (fun q => c12 ((lcmp_z hq64).mpr q.2.2.2))]), ⟨_, _, nvU_eq (nvU_lay ok hz (fun k _ => zPut_lt _ k)) (by unfold nCalc; rw [if_pos ⟨zCnt_y c4, zCnt_y c8⟩]) (fun k _ => by unfold fCalc; rw [if_pos ⟨zCnt_y c4, zCnt_y c8⟩]), by rw [ht]; exact hP⟩, hS.F ht⟩) hS.2.2 dN_calculate_153
        · exact nm_throw (E := eAR) (tx := "division by zero") (ik := 167) (is := 169) (ic := 171) S hfl hX (by decide) (by decide +kernel) kcl_167 kin_eAR (by decide) kat_eAR hl.1 ⟨(Nat.le_of_ble_eq_true rfl), (Nat.le_of_ble_eq_true rfl), (Nat.le_of_ble_eq_true rfl), (Nat.le_of_ble_eq_true rfl)⟩ (Nat.le_of_ble_eq_true rfl) hlocks hno dN_calculate_111 dN_calculate_114 dN_calculate_115 dN_calculate_117 dN_calculate_120 (fun t q hW h => ⟨eAR, exK_of (k := 3) (by unfold kCalc; rw [if_neg (by omega), if_pos ⟨zCnt_y c4, zCnt_y c8, mc11, (lcmp_z hq64).mp c12⟩]) (by decide) rfl, h⟩)
      · have mc11 : o < 10 := Nat.lt_of_not_le (fun h => c11 ((nI_leI (a := 10) (b := o) (by omega) (by omega)).mpr h))
        refine lv_aload_n hx hb dN_calculate_86 rfl (lv_at hl 3 rfl) ?_
        refine nm_getA S hK hP dN_calculate_87 ?_
        refine lv_iload hx hb dN_calculate_90 (lv_at hl 2 rfl) ?_
        refine lv_iload_n hx hb dN_calculate_92 rfl (lv_at hl 4 rfl) ?_
        refine lv_lload hx hb dN_calculate_93 (lv_at hl 1 rfl) ?_
        refine lv_lload hx hb dN_calculate_95 (lv_at hl 0 rfl) ?_
        refine nz_sl (As := [.int (nI o), .long (lN (zLong b1 (g a) (n a))), .long (lN (zLong b1 (g d) (n d)))]) (rest := [.int (nI (zLen o (n a) (n d))), .ref (T (2 + 16))]) S (cN_sumOrProduct l o (by omega) (zLong b1 (g a) (n a)) (zLong b1 (g d) (n d)) hq64) kN_163 ⟨rfl, rfl, Nat.le_of_ble_eq_true rfl, Nat.le_of_ble_eq_true rfl⟩ ⟨Nat.zero_le _, Nat.zero_le _⟩ (fun _ _ _ _ h => h) (fun _ _ _ => trivial) rfl hl.1 rfl (Nat.le_of_ble_eq_true rfl) dN_calculate_97 (fun r16 er16 => ?_)
        subst er16
        refine nz_eql (y := lN (zArith o b1 (zLong b1 (g a) (n a)) (zLong b1 (g d) (n d)))) (by rw [zArith, if_pos (show o < 10 by omega)]) ?_
        refine nv_call (As := [.int (nI (zLen o (n a) (n d))), .long (lN (zArith o b1 (zLong b1 (g a) (n a)) (zLong b1 (g d) (n d))))]) (rest := []) S (c_Word_hold l D cA cW T hT n g 16 (by decide) (zLen o (n a) (n d)) hz (zArith o b1 (zLong b1 (g a) (n a)) (zLong b1 (g d) (n d))) (by rw [zArith, if_pos (show o < 10 by omega)]; exact zSum_lt _ _ _)) kN_45 ⟨rfl, rfl, Nat.le_of_ble_eq_true rfl, Nat.le_of_ble_eq_true rfl⟩ ⟨Nat.zero_le _, Nat.zero_le _⟩ (nv_ob hK hP (by decide)) hP hK hS rfl hl.1 rfl (Nat.le_of_ble_eq_true rfl) dN_calculate_100 (fun H locs hP hS => ?_)
        refine ny_ret ?_
        exact W.vret hx hb hr (fun t ht hW => ⟨rfl, (by unfold kCalc; rw [if_neg (by omega), if_neg (fun q => absurd q.2.2.1 (by omega))]), ⟨_, _, nvU_eq (nvU_lay ok hz (fun k _ => zPut_lt _ k)) (by unfold nCalc; rw [if_pos ⟨zCnt_y c4, zCnt_y c8⟩]) (fun k _ => by unfold fCalc; rw [if_pos ⟨zCnt_y c4, zCnt_y c8⟩]), by rw [ht]; exact hP⟩, hS.F ht⟩) hS.2.2 dN_calculate_103
    · refine lv_aload_n hx hb dN_calculate_35 rfl (lv_at hl 1 rfl) ?_
      refine nm_getA S hK hP dN_calculate_36 ?_
      refine lv_aload_n hx hb dN_calculate_39 rfl (lv_at hl 4 rfl) ?_
      refine nm_getS S hX hK hP (Nat.lt_succ_of_lt ha) dN_calculate_40 ?_
      refine lv_if_eq (tgt := 54) hx hb dN_calculate_43 (by decide) (fun c17 => ?_) (fun c17 => ?_)
      · have mc17 : (n a) = 0 := (nI_eq (a := (n a)) (b := 0) (by omega) (by omega)).mp c17
        refine lv_iconst (v := 0) hx hb dN_calculate_54 (by decide) ?_
        refine lv_goto (tgt := 60) hx hb dN_calculate_55 (by decide) ?_
        refine lv_iconst (v := 1) hx hb dN_calculate_60 (by decide) ?_
        refine nv_call (As := [.int 0, .int 1]) (rest := []) S (c_Word_become l D cA cW T hT n g 16 (by decide) 0 (by omega) 1) kN_30 ⟨rfl, rfl, Nat.le_of_ble_eq_true rfl, Nat.le_of_ble_eq_true rfl⟩ ⟨Nat.zero_le _, Nat.zero_le _⟩ (nv_ob hK hP (by decide)) hP hK hS rfl hl.1 rfl (Nat.le_of_ble_eq_true rfl) dN_calculate_61 (fun H locs hP hS => ?_)
        refine ny_ret ?_
        exact W.vret hx hb hr (fun t ht hW => ⟨rfl, (by unfold kCalc; rw [if_neg (by omega), if_neg (fun q => zCnt_n c8 q.2.1)]), ⟨_, _, nvU_eq (nvU_lay (F := fun _ => 1) (N := 0) ok (by omega) (fun _ _ => (by decide : (1 : Nat) < 9))) (by unfold nCalc; rw [if_neg (fun q => zCnt_n c8 q.2), if_pos (by omega)]) (fun k _ => by unfold fCalc; rw [if_neg (fun q => zCnt_n c8 q.2)]), by rw [ht]; exact hP⟩, hS.F ht⟩) hS.2.2 dN_calculate_64
      · have mc17 : ¬ (n a) = 0 := fun h => c17 ((nI_eq (a := (n a)) (b := 0) (by omega) (by omega)).mpr h)
        refine lv_aload hx hb dN_calculate_46 (lv_at hl 5 rfl) ?_
        refine nm_getS S hX hK hP (Nat.lt_succ_of_lt hd) dN_calculate_48 ?_
        refine lv_if_ne (tgt := 58) hx hb dN_calculate_51 (by decide) (fun c18 => ?_) (fun c18 => ?_)
        · have mc18 : ¬ (n d) = 0 := fun h => c18 ((nI_eq (a := (n d)) (b := 0) (by omega) (by omega)).mpr h)
          refine lv_iload hx hb dN_calculate_58 (lv_at hl 0 rfl) ?_
          refine lv_iconst (v := 1) hx hb dN_calculate_60 (by decide) ?_
          refine nv_call (As := [.int (nI (zLen o (n a) (n d))), .int 1]) (rest := []) S (c_Word_become l D cA cW T hT n g 16 (by decide) (zLen o (n a) (n d)) (by omega) 1) kN_30 ⟨rfl, rfl, Nat.le_of_ble_eq_true rfl, Nat.le_of_ble_eq_true rfl⟩ ⟨Nat.zero_le _, Nat.zero_le _⟩ (nv_ob hK hP (by decide)) hP hK hS rfl hl.1 rfl (Nat.le_of_ble_eq_true rfl) dN_calculate_61 (fun H locs hP hS => ?_)
          refine ny_ret ?_
          exact W.vret hx hb hr (fun t ht hW => ⟨rfl, (by unfold kCalc; rw [if_neg (by omega), if_neg (fun q => zCnt_n c8 q.2.1)]), ⟨_, _, nvU_eq (nvU_lay (F := fun _ => 1) (N := (zLen o (n a) (n d))) ok (by omega) (fun _ _ => (by decide : (1 : Nat) < 9))) (by unfold nCalc; rw [if_neg (fun q => zCnt_n c8 q.2), if_neg (by omega)]) (fun k _ => by unfold fCalc; rw [if_neg (fun q => zCnt_n c8 q.2)]), by rw [ht]; exact hP⟩, hS.F ht⟩) hS.2.2 dN_calculate_64
        · have mc18 : (n d) = 0 := (nI_eq (a := (n d)) (b := 0) (by omega) (by omega)).mp c18
          refine lv_iconst (v := 0) hx hb dN_calculate_54 (by decide) ?_
          refine lv_goto (tgt := 60) hx hb dN_calculate_55 (by decide) ?_
          refine lv_iconst (v := 1) hx hb dN_calculate_60 (by decide) ?_
          refine nv_call (As := [.int 0, .int 1]) (rest := []) S (c_Word_become l D cA cW T hT n g 16 (by decide) 0 (by omega) 1) kN_30 ⟨rfl, rfl, Nat.le_of_ble_eq_true rfl, Nat.le_of_ble_eq_true rfl⟩ ⟨Nat.zero_le _, Nat.zero_le _⟩ (nv_ob hK hP (by decide)) hP hK hS rfl hl.1 rfl (Nat.le_of_ble_eq_true rfl) dN_calculate_61 (fun H locs hP hS => ?_)
          refine ny_ret ?_
          exact W.vret hx hb hr (fun t ht hW => ⟨rfl, (by unfold kCalc; rw [if_neg (by omega), if_neg (fun q => zCnt_n c8 q.2.1)]), ⟨_, _, nvU_eq (nvU_lay (F := fun _ => 1) (N := 0) ok (by omega) (fun _ _ => (by decide : (1 : Nat) < 9))) (by unfold nCalc; rw [if_neg (fun q => zCnt_n c8 q.2), if_pos (by omega)]) (fun k _ => by unfold fCalc; rw [if_neg (fun q => zCnt_n c8 q.2)]), by rw [ht]; exact hP⟩, hS.F ht⟩) hS.2.2 dN_calculate_64
set_option maxHeartbeats 4000000 in
set_option maxRecDepth 100000 in
theorem cN_operate (l : Launch) (hfl : l.flags = pinnedFlags ++ [noTraceFlag]) (D : va_G) (cA cW : ClassId) (T : Nat → Nat) (hT : nvT T) (n : Nat → Nat) (g : Nat → Nat → Nat) (ok : nvOk n g) (x1 : Int32) (b1 : Nat) (hb1 : b1 < 2) (x3 x4 x5 : Int32) : ny_Met l yN_operate (Cond.code yN_operate bN_operate 6 none :: nzG) ({ frames := 8, cells := 1, slots := 6, locals := 139 }) (va_Pc [.ref (T 0), .int x1, .int (nI b1), .int x3, .int x4, .int x5] (nmP D cA cW (nvW cA cW T n g))) (nxQ (fun v st t => v = none ∧ (kOperate n g b1 x1 x3 x4 x5) = 0 ∧ (fun H9 : Heap => ∃ n9 g9, nvU 16 n g (ix x5) (nOp (ix x1) (g (ix x3)) (n (ix x3)) (g (ix x4)) (n (ix x4))) (fOp (ix x1) b1 (g (ix x3)) (n (ix x3)) (g (ix x4)) (n (ix x4))) n9 g9 ∧ va_P D vwCl (nvW cA cW T n9 g9) H9) t.heap ∧ va_F (nvA T) st t) (exK exI (kOperate n g b1 x1 x3 x4 x5))) 0 0 1 6 (nvA T) := by
  refine nz_ofT (own := RN) (by decide) rfl ?_
  intro p e s m args below meth c S hr hlocks hno hv9
  obtain ⟨rfl, hP, hK, hX⟩ := hv9
  have hob0 := nv_ob0 hK hP
  have hS : va_S (nvA T) s.heap s.heap [] := va_S.rf
  have hx := S.1
  have hb := S.2.1
  refine nz_entry (vs := [.ref (T 0), .int x1, .int (nI b1), .int x3, .int x4, .int x5]) (n := 6) (lv := [(0, .ref (T 0)), (1, .int x1), (2, .int (nI b1)), (3, .int x3), (4, .int x4), (5, .int x5)]) (Nat.le_of_ble_eq_true rfl) rfl (fun ls hl => ?_)
  refine lv_iload_n hx hb dN_operate_0 rfl (lv_at hl 3 rfl) ?_
  refine nx_sv (As := [.int x3]) (rest := []) (post := ¬ plB x3) (exc := fun E => plB x3 ∧ E = eIO) S (cN_requirePlace l hfl x3) kN_20 ⟨rfl, rfl, Nat.le_of_ble_eq_true rfl, Nat.le_of_ble_eq_true rfl⟩ ⟨Nat.le_of_ble_eq_true rfl, Nat.le_of_ble_eq_true rfl⟩ nmX.bl (hX.at rfl) rfl hl.1 rfl (Nat.le_of_ble_eq_true rfl) dN_operate_1 hno hlocks (fun E h => exK_of (k := 1) (if_pos (Or.inl h.1)) (by decide) h.2) (fun q1 => ?_)
  refine lv_iload hx hb dN_operate_4 (lv_at hl 4 rfl) ?_
  refine nx_sv (As := [.int x4]) (rest := []) (post := ¬ plB x4) (exc := fun E => plB x4 ∧ E = eIO) S (cN_requirePlace l hfl x4) kN_20 ⟨rfl, rfl, Nat.le_of_ble_eq_true rfl, Nat.le_of_ble_eq_true rfl⟩ ⟨Nat.le_of_ble_eq_true rfl, Nat.le_of_ble_eq_true rfl⟩ nmX.bl (hX.at rfl) rfl hl.1 rfl (Nat.le_of_ble_eq_true rfl) dN_operate_6 hno hlocks (fun E h => exK_of (k := 1) (if_pos (Or.inr (Or.inl h.1))) (by decide) h.2) (fun q2 => ?_)
  refine lv_iload hx hb dN_operate_9 (lv_at hl 5 rfl) ?_
  refine nx_sv (As := [.int x5]) (rest := []) (post := ¬ plB x5) (exc := fun E => plB x5 ∧ E = eIO) S (cN_requirePlace l hfl x5) kN_20 ⟨rfl, rfl, Nat.le_of_ble_eq_true rfl, Nat.le_of_ble_eq_true rfl⟩ ⟨Nat.le_of_ble_eq_true rfl, Nat.le_of_ble_eq_true rfl⟩ nmX.bl (hX.at rfl) rfl hl.1 rfl (Nat.le_of_ble_eq_true rfl) dN_operate_11 hno hlocks (fun E h => exK_of (k := 1) (if_pos (Or.inr (Or.inr h.1))) (by decide) h.2) (fun q3 => ?_)
  obtain ⟨a, ha, rfl⟩ := plB_not q1
  have ea : ix (nI a) = a := ix_nI (by omega)
  obtain ⟨d, hd, rfl⟩ := plB_not q2
  have ed : ix (nI d) = d := ix_nI (by omega)
  obtain ⟨u, hu, rfl⟩ := plB_not q3
  have eu : ix (nI u) = u := ix_nI (by omega)
  refine lv_iload_n hx hb dN_operate_14 rfl (lv_at hl 1 rfl) ?_
  refine lv_if_lt (tgt := 24) hx hb dN_operate_15 (by decide) (fun c4 => ?_) (fun c4 => ?_)
  · exact nm_throw (E := eIA) (tx := "no such operation") (ik := 64) (is := 66) (ic := 68) S hfl hX (by decide) (by decide +kernel) kcl_64 kin_eIA (by decide) kat_eIA hl.1 ⟨(Nat.le_of_ble_eq_true rfl), (Nat.le_of_ble_eq_true rfl), (Nat.le_of_ble_eq_true rfl), (Nat.le_of_ble_eq_true rfl)⟩ (Nat.le_of_ble_eq_true rfl) hlocks hno dN_operate_24 dN_operate_27 dN_operate_28 dN_operate_30 dN_operate_33 (fun t q hW h => ⟨eIA, exK_of (k := 2) (by unfold kOperate; rw [if_neg (fun h => h.elim q1 (fun h => h.elim q2 q3)), if_pos (Or.inl c4)]) (by decide) rfl, h⟩)
  · refine lv_iload_n hx hb dN_operate_18 rfl (lv_at hl 1 rfl) ?_
    refine lv_bipush (v := 13) hx hb dN_operate_19 (by decide) ?_
    refine lv_icmp_le (tgt := 34) hx hb dN_operate_21 (by decide) (fun c5 => ?_) (fun c5 => ?_)
    · have hkd : ¬ (x1 < 0 ∨ 13 < x1) := fun h => h.elim c4 (fun q => Int32.not_lt.mpr c5 q)
      have hk0 : kOperate n g b1 x1 (nI a) (nI d) (nI u) = kOp (ix x1) b1 (g a) (n a) (g d) (n d) := by unfold kOperate; rw [if_neg (fun h => h.elim q1 (fun h => h.elim q2 q3)), if_neg hkd, ea, ed]
      obtain ⟨o, ho, rfl⟩ := in_not' (N := 13) rfl (by decide) hkd
      have eo : ix (nI o) = o := ix_nI (by omega)
      rw [eo] at hk0
      refine lv_iload_n hx hb dN_operate_34 rfl (lv_at hl 1 rfl) ?_
      refine lv_bipush (v := 6) hx hb dN_operate_35 (by decide) ?_
      refine lv_icmp_gt (tgt := 61) hx hb dN_operate_37 (by decide) (fun c6 => ?_) (fun c6 => ?_)
      · have mc6 : 6 < o := (nI_ltI (a := 6) (b := o) (by omega) (by omega)).mp c6
        refine lv_iload_n hx hb dN_operate_61 rfl (lv_at hl 1 rfl) ?_
        refine lv_bipush (v := 13) hx hb dN_operate_62 (by decide) ?_
        refine lv_icmp_ne (tgt := 87) hx hb dN_operate_64 (by decide) (fun c7 => ?_) (fun c7 => ?_)
        · have mc7 : ¬ o = 13 := fun h => c7 ((nI_eq (a := o) (b := 13) (by omega) (by omega)).mpr h)
          refine lv_aload_n hx hb dN_operate_87 rfl (lv_at hl 0 rfl) ?_
          refine lv_iload_n hx hb dN_operate_88 rfl (lv_at hl 1 rfl) ?_
          refine lv_iload_n hx hb dN_operate_89 rfl (lv_at hl 2 rfl) ?_
          refine lv_aload_n hx hb dN_operate_90 rfl (lv_at hl 0 rfl) ?_
          refine nm_getP S hK hP dN_operate_91 ?_
          refine lv_iload_n hx hb dN_operate_94 rfl (lv_at hl 3 rfl) ?_
          refine nm_ald (j := a) hx hb hK hP ha dN_operate_95 ?_
          refine lv_aload_n hx hb dN_operate_96 rfl (lv_at hl 0 rfl) ?_
          refine nm_getP S hK hP dN_operate_97 ?_
          refine lv_iload hx hb dN_operate_100 (lv_at hl 4 rfl) ?_
          refine nm_ald (j := d) hx hb hK hP hd dN_operate_102 ?_
          refine nx_mv (B := fun H9 : Heap => ∃ n9 g9, nvU 17 n g 16 (nCalc o (g a) (n a) (g d) (n d)) (fCalc o b1 (g a) (n a) (g d) (n d)) n9 g9 ∧ va_P D vwCl (nvW cA cW T n9 g9) H9) (K := kCalc o b1 (g a) (n a) (g d) (n d) = 0) (As := [.int (nI o), .int (nI b1), .ref (T (2 + a)), .ref (T (2 + d))]) (rest := []) S (cN_calculate l hfl D cA cW T hT n g ok o (by omega) b1 hb1 a ha d hd) kN_77 ⟨rfl, rfl, Nat.le_of_ble_eq_true rfl, Nat.le_of_ble_eq_true rfl⟩ ⟨Nat.le_of_ble_eq_true rfl, Nat.le_of_ble_eq_true rfl⟩ nmP.bl hob0 (nmP.to hP hK hX) rfl hl.1 rfl (Nat.le_of_ble_eq_true rfl) dN_operate_103 hno hlocks (fun E h => ⟨by rw [hk0]; unfold kOp; rw [if_neg (show ¬ o ≤ 6 by omega), if_neg (show ¬ o = 13 by omega)]; exact h.1, by rw [hk0]; unfold kOp; rw [if_neg (show ¬ o ≤ 6 by omega), if_neg (show ¬ o = 13 by omega)]; exact h.2⟩) (fun H locs hk9 hB hS => ?_)
          obtain ⟨n1, g1, u1, hP⟩ := hB
          refine lv_aload_n hx hb dN_operate_106 rfl (lv_at hl 0 rfl) ?_
          refine nm_getP S hK hP dN_operate_107 ?_
          refine lv_iload hx hb dN_operate_110 (lv_at hl 5 rfl) ?_
          refine nm_ald (j := u) hx hb hK hP hu dN_operate_112 ?_
          refine lv_aload_n hx hb dN_operate_113 rfl (lv_at hl 0 rfl) ?_
          refine nm_getA S hK hP dN_operate_114 ?_
          refine nv_call (As := [.ref (T (2 + 16))]) (rest := []) S (c_Word_copy l D cA cW T hT n1 g1 u (Nat.lt_succ_of_lt hu) 16 (by decide) (by omega) (u1.2.2.2.1 16)) kN_81 ⟨rfl, rfl, Nat.le_of_ble_eq_true rfl, Nat.le_of_ble_eq_true rfl⟩ ⟨Nat.zero_le _, Nat.zero_le _⟩ (nv_ob hK hP (Nat.lt_succ_of_lt hu)) hP hK hS rfl hl.1 rfl (Nat.le_of_ble_eq_true rfl) dN_operate_117 (fun H locs hP hS => ?_)
          refine ny_ret ?_
          exact W.vret hx hb hr (fun t ht hW => ⟨rfl, (by rw [hk0]; unfold kOp; rw [if_neg (show ¬ o ≤ 6 by omega), if_neg (show ¬ o = 13 by omega)]; exact hk9), ⟨va_up n1 u (n1 16), va_up g1 u (pov (g1 16) (g1 u) 0 (n1 16)), by rw [eu]; exact nvU_eq (nvU_fin u1 hu) (by rw [ea, ed, eo]; unfold nOp; rw [if_neg (show ¬ o ≤ 6 by omega), if_neg (show ¬ o = 13 by omega)]) (by rw [ea, ed, eo]; unfold fOp; rw [if_neg (show ¬ o ≤ 6 by omega), if_neg (show ¬ o = 13 by omega)]; exact fun _ _ => rfl), by rw [ht]; exact hP⟩, hS.F ht⟩) hS.2.2 dN_operate_120
        · have mc7 : o = 13 := (nI_eq (a := o) (b := 13) (by omega) (by omega)).mp c7
          refine lv_aload_n hx hb dN_operate_67 rfl (lv_at hl 0 rfl) ?_
          refine lv_aload_n hx hb dN_operate_68 rfl (lv_at hl 0 rfl) ?_
          refine nm_getP S hK hP dN_operate_69 ?_
          refine lv_iload_n hx hb dN_operate_72 rfl (lv_at hl 3 rfl) ?_
          refine nm_ald (j := a) hx hb hK hP ha dN_operate_73 ?_
          refine lv_aload_n hx hb dN_operate_74 rfl (lv_at hl 0 rfl) ?_
          refine nm_getP S hK hP dN_operate_75 ?_
          refine lv_iload hx hb dN_operate_78 (lv_at hl 4 rfl) ?_
          refine nm_ald (j := d) hx hb hK hP hd dN_operate_80 ?_
          refine nx_mv (B := fun H9 : Heap => ∃ n9 g9, nvU 17 n g 16 (n a + n d) (fun k => if k < n d then g d k else g a (k - n d)) n9 g9 ∧ va_P D vwCl (nvW cA cW T n9 g9) H9) (K := n a + n d ≤ 64) (As := [.ref (T (2 + a)), .ref (T (2 + d))]) (rest := []) S (cN_setBehind l hfl D cA cW T hT n g ok a ha d hd) kN_73 ⟨rfl, rfl, Nat.le_of_ble_eq_true rfl, Nat.le_of_ble_eq_true rfl⟩ ⟨Nat.le_of_ble_eq_true rfl, Nat.le_of_ble_eq_true rfl⟩ nmP.bl hob0 (nmP.to hP hK hX) rfl hl.1 rfl (Nat.le_of_ble_eq_true rfl) dN_operate_81 hno hlocks (fun E h => exK_of (k := 2) (by rw [hk0]; unfold kOp; rw [if_neg (show ¬ o ≤ 6 by omega), if_pos mc7, if_neg h.1]) (by decide) h.2) (fun H locs hk9 hB hS => ?_)
          obtain ⟨n1, g1, u1, hP⟩ := hB
          refine lv_goto (tgt := 106) hx hb dN_operate_84 (by decide) ?_
          refine lv_aload_n hx hb dN_operate_106 rfl (lv_at hl 0 rfl) ?_
          refine nm_getP S hK hP dN_operate_107 ?_
          refine lv_iload hx hb dN_operate_110 (lv_at hl 5 rfl) ?_
          refine nm_ald (j := u) hx hb hK hP hu dN_operate_112 ?_
          refine lv_aload_n hx hb dN_operate_113 rfl (lv_at hl 0 rfl) ?_
          refine nm_getA S hK hP dN_operate_114 ?_
          refine nv_call (As := [.ref (T (2 + 16))]) (rest := []) S (c_Word_copy l D cA cW T hT n1 g1 u (Nat.lt_succ_of_lt hu) 16 (by decide) (by omega) (u1.2.2.2.1 16)) kN_81 ⟨rfl, rfl, Nat.le_of_ble_eq_true rfl, Nat.le_of_ble_eq_true rfl⟩ ⟨Nat.zero_le _, Nat.zero_le _⟩ (nv_ob hK hP (Nat.lt_succ_of_lt hu)) hP hK hS rfl hl.1 rfl (Nat.le_of_ble_eq_true rfl) dN_operate_117 (fun H locs hP hS => ?_)
          refine ny_ret ?_
          exact W.vret hx hb hr (fun t ht hW => ⟨rfl, (by rw [hk0]; unfold kOp; rw [if_neg (show ¬ o ≤ 6 by omega), if_pos mc7, if_pos hk9]), ⟨va_up n1 u (n1 16), va_up g1 u (pov (g1 16) (g1 u) 0 (n1 16)), by rw [eu]; exact nvU_eq (nvU_fin u1 hu) (by rw [ea, ed, eo]; unfold nOp; rw [if_neg (show ¬ o ≤ 6 by omega), if_pos mc7]) (by rw [ea, ed, eo]; unfold fOp; rw [if_neg (show ¬ o ≤ 6 by omega), if_pos mc7]; exact fun _ _ => rfl), by rw [ht]; exact hP⟩, hS.F ht⟩) hS.2.2 dN_operate_120
      · have mc6 : o ≤ 6 := Nat.le_of_not_lt (fun h => c6 ((nI_ltI (a := 6) (b := o) (by omega) (by omega)).mpr h))
        refine lv_aload_n hx hb dN_operate_40 rfl (lv_at hl 0 rfl) ?_
        refine lv_iload_n hx hb dN_operate_41 rfl (lv_at hl 1 rfl) ?_
        refine lv_aload_n hx hb dN_operate_42 rfl (lv_at hl 0 rfl) ?_
        refine nm_getP S hK hP dN_operate_43 ?_
        refine lv_iload_n hx hb dN_operate_46 rfl (lv_at hl 3 rfl) ?_
        refine nm_ald (j := a) hx hb hK hP ha dN_operate_47 ?_
        refine lv_aload_n hx hb dN_operate_48 rfl (lv_at hl 0 rfl) ?_
        refine nm_getP S hK hP dN_operate_49 ?_
        refine lv_iload hx hb dN_operate_52 (lv_at hl 4 rfl) ?_
        refine nm_ald (j := d) hx hb hK hP hd dN_operate_54 ?_
        refine nx_mv (B := fun H9 : Heap => ∃ n9 g9, nvU 17 n g 16 (n a) (fun k => zJoin o (g a k) (g d k)) n9 g9 ∧ va_P D vwCl (nvW cA cW T n9 g9) H9) (K := n a = n d) (As := [.int (nI o), .ref (T (2 + a)), .ref (T (2 + d))]) (rest := []) S (cN_joinElements l hfl D cA cW T hT n g ok o (by omega) a ha d hd) kN_69 ⟨rfl, rfl, Nat.le_of_ble_eq_true rfl, Nat.le_of_ble_eq_true rfl⟩ ⟨Nat.le_of_ble_eq_true rfl, Nat.le_of_ble_eq_true rfl⟩ nmP.bl hob0 (nmP.to hP hK hX) rfl hl.1 rfl (Nat.le_of_ble_eq_true rfl) dN_operate_55 hno hlocks (fun E h => exK_of (k := 2) (by rw [hk0]; unfold kOp; rw [if_pos mc6, if_neg h.1]) (by decide) h.2) (fun H locs hk9 hB hS => ?_)
        obtain ⟨n1, g1, u1, hP⟩ := hB
        refine lv_goto (tgt := 106) hx hb dN_operate_58 (by decide) ?_
        refine lv_aload_n hx hb dN_operate_106 rfl (lv_at hl 0 rfl) ?_
        refine nm_getP S hK hP dN_operate_107 ?_
        refine lv_iload hx hb dN_operate_110 (lv_at hl 5 rfl) ?_
        refine nm_ald (j := u) hx hb hK hP hu dN_operate_112 ?_
        refine lv_aload_n hx hb dN_operate_113 rfl (lv_at hl 0 rfl) ?_
        refine nm_getA S hK hP dN_operate_114 ?_
        refine nv_call (As := [.ref (T (2 + 16))]) (rest := []) S (c_Word_copy l D cA cW T hT n1 g1 u (Nat.lt_succ_of_lt hu) 16 (by decide) (by omega) (u1.2.2.2.1 16)) kN_81 ⟨rfl, rfl, Nat.le_of_ble_eq_true rfl, Nat.le_of_ble_eq_true rfl⟩ ⟨Nat.zero_le _, Nat.zero_le _⟩ (nv_ob hK hP (Nat.lt_succ_of_lt hu)) hP hK hS rfl hl.1 rfl (Nat.le_of_ble_eq_true rfl) dN_operate_117 (fun H locs hP hS => ?_)
        refine ny_ret ?_
        exact W.vret hx hb hr (fun t ht hW => ⟨rfl, (by rw [hk0]; unfold kOp; rw [if_pos mc6, if_pos hk9]), ⟨va_up n1 u (n1 16), va_up g1 u (pov (g1 16) (g1 u) 0 (n1 16)), by rw [eu]; exact nvU_eq (nvU_fin u1 hu) (by rw [ea, ed, eo]; exact (if_pos mc6).symm) (by rw [ea, ed, eo]; unfold fOp; rw [if_pos mc6]; exact fun _ _ => rfl), by rw [ht]; exact hP⟩, hS.F ht⟩) hS.2.2 dN_operate_120
    · exact nm_throw (E := eIA) (tx := "no such operation") (ik := 64) (is := 66) (ic := 68) S hfl hX (by decide) (by decide +kernel) kcl_64 kin_eIA (by decide) kat_eIA hl.1 ⟨(Nat.le_of_ble_eq_true rfl), (Nat.le_of_ble_eq_true rfl), (Nat.le_of_ble_eq_true rfl), (Nat.le_of_ble_eq_true rfl)⟩ (Nat.le_of_ble_eq_true rfl) hlocks hno dN_operate_24 dN_operate_27 dN_operate_28 dN_operate_30 dN_operate_33 (fun t q hW h => ⟨eIA, exK_of (k := 2) (by unfold kOperate; rw [if_neg (fun h => h.elim q1 (fun h => h.elim q2 q3)), if_pos (Or.inr (Int32.not_le.mp c5))]) (by decide) rfl, h⟩)
