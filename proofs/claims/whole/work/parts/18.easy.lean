set_option maxHeartbeats 4000000 in
set_option maxRecDepth 100000 in
theorem cN_put (l : Launch) (hfl : l.flags = pinnedFlags ++ [noTraceFlag]) (D : va_G) (cA cW : ClassId) (T : Nat → Nat) (hT : nvT T) (n : Nat → Nat) (g : Nat → Nat → Nat) (ok : nvOk n g) (x1 x2 x3 : Int32) : ny_Met l yN_put (Cond.code yN_put bN_put 4 none :: nzG) ({ frames := 8, cells := 1, slots := 6, locals := 132 }) (va_Pc [.ref (T 0), .int x1, .int x2, .int x3] (nmP D cA cW (nvW cA cW T n g))) (nxQ (fun v st t => v = none ∧ (kPut n x1 x2 x3) = 0 ∧ (fun H9 : Heap => ∃ n9 g9, nvU 16 n g (ix x1) (n (ix x1)) (va_up (g (ix x1)) (ix x2) (ix x3)) n9 g9 ∧ va_P D vwCl (nvW cA cW T n9 g9) H9) t.heap ∧ va_F (nvA T) st t) (exK exI (kPut n x1 x2 x3))) 0 0 1 6 (nvA T) := by
  refine nz_ofT (own := RN) (by decide) rfl ?_
  intro p e s m args below meth c S hr hlocks hno hv9
  obtain ⟨rfl, hP, hK, hX⟩ := hv9
  have hob0 := nv_ob0 hK hP
  have hS : va_S (nvA T) s.heap s.heap [] := va_S.rf
  have hx := S.1
  have hb := S.2.1
  refine nz_entry (vs := [.ref (T 0), .int x1, .int x2, .int x3]) (n := 4) (lv := [(0, .ref (T 0)), (1, .int x1), (2, .int x2), (3, .int x3)]) (Nat.le_of_ble_eq_true rfl) rfl (fun ls hl => ?_)
  refine lv_aload_n hx hb dN_put_0 rfl (lv_at hl 0 rfl) ?_
  refine lv_iload_n hx hb dN_put_1 rfl (lv_at hl 1 rfl) ?_
  refine lv_iload_n hx hb dN_put_2 rfl (lv_at hl 2 rfl) ?_
  refine nx_vv (As := [.int x1, .int x2]) (rest := []) (post := ¬ elB n x1 x2) (exc := fun E => elB n x1 x2 ∧ E = eIO) S (cN_requireElement l hfl D cA cW T hT n g ok x1 x2) kN_34 ⟨rfl, rfl, Nat.le_of_ble_eq_true rfl, Nat.le_of_ble_eq_true rfl⟩ ⟨Nat.le_of_ble_eq_true rfl, Nat.le_of_ble_eq_true rfl⟩ nmP.bl hob0 (nmP.to hP hK hX) rfl hl.1 rfl (Nat.le_of_ble_eq_true rfl) dN_put_3 hno hlocks (fun E h => exK_of (k := 1) (if_pos h.1) (by decide) h.2) (fun q1 => ?_)
  refine lv_iload_n hx hb dN_put_6 rfl (lv_at hl 3 rfl) ?_
  refine nx_sv (As := [.int x3]) (rest := []) (post := ¬ valB x3) (exc := fun E => valB x3 ∧ E = eIA) S (cN_requireValue l hfl x3) kN_27 ⟨rfl, rfl, Nat.le_of_ble_eq_true rfl, Nat.le_of_ble_eq_true rfl⟩ ⟨Nat.le_of_ble_eq_true rfl, Nat.le_of_ble_eq_true rfl⟩ nmX.bl (hX.at rfl) rfl hl.1 rfl (Nat.le_of_ble_eq_true rfl) dN_put_7 hno hlocks (fun E h => exK_of (k := 2) (by unfold kPut; rw [if_neg q1, if_pos h.1]) (by decide) h.2) (fun q2 => ?_)
  have hk0 : kPut n x1 x2 x3 = 0 := by unfold kPut; rw [if_neg q1, if_neg q2]
  obtain ⟨j, hj, rfl⟩ := plB_not (fun h => q1 (Or.inl h))
  have ej : ix (nI j) = j := ix_nI (by omega)
  have hn64 := ok.1 j
  obtain ⟨k, hk, rfl⟩ := in_not (N := n j) (x := x2) rfl (by omega) (fun h => q1 (Or.inr (by rw [ej]; exact h)))
  have ek : ix (nI k) = k := ix_nI (by omega)
  obtain ⟨v, hv, rfl⟩ := valB_not q2
  have ev : ix (nI v) = v := ix_nI (by omega)
  refine lv_aload_n hx hb dN_put_10 rfl (lv_at hl 0 rfl) ?_
  refine nm_getP S hK hP dN_put_11 ?_
  refine lv_iload_n hx hb dN_put_14 rfl (lv_at hl 1 rfl) ?_
  refine nm_ald (j := j) hx hb hK hP hj dN_put_15 ?_
  refine nm_getE S hX hK hP (Nat.lt_succ_of_lt hj) dN_put_16 ?_
  refine lv_iload_n hx hb dN_put_19 rfl (lv_at hl 2 rfl) ?_
  refine lv_iload_n hx hb dN_put_20 rfl (lv_at hl 3 rfl) ?_
  refine nv_ast (k := k) (v := v) hx hb hT hK hP hS (Nat.lt_succ_of_lt hj) (by omega) dN_put_21 (fun H locs hP hS => ?_)
  refine ny_ret ?_
  exact W.vret hx hb hr (fun t ht hW => ⟨rfl, hk0, ⟨n, va_up g j (va_up (g j) k v), by rw [ej, ek, ev]; exact nvU_put ok hv, by rw [ht]; exact hP⟩, hS.F ht⟩) hS.2.2 dN_put_22
set_option maxHeartbeats 4000000 in
set_option maxRecDepth 100000 in
theorem cN_get (l : Launch) (hfl : l.flags = pinnedFlags ++ [noTraceFlag]) (D : va_G) (cA cW : ClassId) (T : Nat → Nat) (hT : nvT T) (n : Nat → Nat) (g : Nat → Nat → Nat) (ok : nvOk n g) (x1 x2 : Int32) : ny_Met l yN_get (Cond.code yN_get bN_get 3 (some .int) :: nzG) ({ frames := 8, cells := 1, slots := 6, locals := 132 }) (va_Pc [.ref (T 0), .int x1, .int x2] (nmP D cA cW (nvW cA cW T n g))) (nxQ (fun v st t => (kGet n x1 x2) = 0 ∧ v = some (.int (nI (g (ix x1) (ix x2)))) ∧ t.heap = st.heap) (exK exI (kGet n x1 x2))) 0 0 1 6 (fun _ => False) := by
  refine nz_ofT (own := RN) (by decide) rfl ?_
  intro p e s m args below meth c S hr hlocks hno hv9
  obtain ⟨rfl, hP, hK, hX⟩ := hv9
  have hob0 := nv_ob0 hK hP
  have hS : va_S (nvA T) s.heap s.heap [] := va_S.rf
  have hx := S.1
  have hb := S.2.1
  refine nz_entry (vs := [.ref (T 0), .int x1, .int x2]) (n := 3) (lv := [(0, .ref (T 0)), (1, .int x1), (2, .int x2)]) (Nat.le_of_ble_eq_true rfl) rfl (fun ls hl => ?_)
  refine lv_aload_n hx hb dN_get_0 rfl (lv_at hl 0 rfl) ?_
  refine lv_iload_n hx hb dN_get_1 rfl (lv_at hl 1 rfl) ?_
  refine lv_iload_n hx hb dN_get_2 rfl (lv_at hl 2 rfl) ?_
  refine nx_vv (As := [.int x1, .int x2]) (rest := []) (post := ¬ elB n x1 x2) (exc := fun E => elB n x1 x2 ∧ E = eIO) S (cN_requireElement l hfl D cA cW T hT n g ok x1 x2) kN_34 ⟨rfl, rfl, Nat.le_of_ble_eq_true rfl, Nat.le_of_ble_eq_true rfl⟩ ⟨Nat.le_of_ble_eq_true rfl, Nat.le_of_ble_eq_true rfl⟩ nmP.bl hob0 (nmP.to hP hK hX) rfl hl.1 rfl (Nat.le_of_ble_eq_true rfl) dN_get_3 hno hlocks (fun E h => exK_of (k := 1) (if_pos h.1) (by decide) h.2) (fun q1 => ?_)
  have hk0 : kGet n x1 x2 = 0 := if_neg q1
  obtain ⟨j, hj, rfl⟩ := plB_not (fun h => q1 (Or.inl h))
  have ej : ix (nI j) = j := ix_nI (by omega)
  have hn64 := ok.1 j
  obtain ⟨k, hk, rfl⟩ := in_not (N := n j) (x := x2) rfl (by omega) (fun h => q1 (Or.inr (by rw [ej]; exact h)))
  have ek : ix (nI k) = k := ix_nI (by omega)
  refine lv_aload_n hx hb dN_get_6 rfl (lv_at hl 0 rfl) ?_
  refine nm_getP S hK hP dN_get_7 ?_
  refine lv_iload_n hx hb dN_get_10 rfl (lv_at hl 1 rfl) ?_
  refine nm_ald (j := j) hx hb hK hP hj dN_get_11 ?_
  refine nm_getE S hX hK hP (Nat.lt_succ_of_lt hj) dN_get_12 ?_
  refine lv_iload_n hx hb dN_get_15 rfl (lv_at hl 2 rfl) ?_
  refine nv_ald (k := k) hx hb hK hP (Nat.lt_succ_of_lt hj) (by omega) dN_get_16 ?_
  refine ny_ret ?_
  exact W.iret (v := nI (g j k)) hx hb hr (fun t ht hW => ⟨hk0, by rw [ej, ek], ht⟩) (fun q h => nomatch h) dN_get_17
set_option maxHeartbeats 4000000 in
set_option maxRecDepth 100000 in
theorem cN_length (l : Launch) (hfl : l.flags = pinnedFlags ++ [noTraceFlag]) (D : va_G) (cA cW : ClassId) (T : Nat → Nat) (hT : nvT T) (n : Nat → Nat) (g : Nat → Nat → Nat) (ok : nvOk n g) (x1 : Int32) : ny_Met l yN_length (Cond.code yN_length bN_length 2 (some .int) :: nzG) ({ frames := 7, cells := 1, slots := 6, locals := 110 }) (va_Pc [.ref (T 0), .int x1] (nmP D cA cW (nvW cA cW T n g))) (nxQ (fun v st t => (kPl x1) = 0 ∧ v = some (.int (nI (n (ix x1)))) ∧ t.heap = st.heap) (exK exI (kPl x1))) 0 0 1 6 (fun _ => False) := by
  refine nz_ofT (own := RN) (by decide) rfl ?_
  intro p e s m args below meth c S hr hlocks hno hv9
  obtain ⟨rfl, hP, hK, hX⟩ := hv9
  have hob0 := nv_ob0 hK hP
  have hS : va_S (nvA T) s.heap s.heap [] := va_S.rf
  have hx := S.1
  have hb := S.2.1
  refine nz_entry (vs := [.ref (T 0), .int x1]) (n := 2) (lv := [(0, .ref (T 0)), (1, .int x1)]) (Nat.le_of_ble_eq_true rfl) rfl (fun ls hl => ?_)
  refine lv_iload_n hx hb dN_length_0 rfl (lv_at hl 1 rfl) ?_
  refine nx_sv (As := [.int x1]) (rest := []) (post := ¬ plB x1) (exc := fun E => plB x1 ∧ E = eIO) S (cN_requirePlace l hfl x1) kN_20 ⟨rfl, rfl, Nat.le_of_ble_eq_true rfl, Nat.le_of_ble_eq_true rfl⟩ ⟨Nat.le_of_ble_eq_true rfl, Nat.le_of_ble_eq_true rfl⟩ nmX.bl (hX.at rfl) rfl hl.1 rfl (Nat.le_of_ble_eq_true rfl) dN_length_1 hno hlocks (fun E h => exK_of (k := 1) (if_pos h.1) (by decide) h.2) (fun q1 => ?_)
  have hk0 : kPl x1 = 0 := if_neg q1
  obtain ⟨j, hj, rfl⟩ := plB_not q1
  have ej : ix (nI j) = j := ix_nI (by omega)
  refine lv_aload_n hx hb dN_length_4 rfl (lv_at hl 0 rfl) ?_
  refine nm_getP S hK hP dN_length_5 ?_
  refine lv_iload_n hx hb dN_length_8 rfl (lv_at hl 1 rfl) ?_
  refine nm_ald (j := j) hx hb hK hP hj dN_length_9 ?_
  refine nm_getS S hX hK hP (Nat.lt_succ_of_lt hj) dN_length_10 ?_
  refine ny_ret ?_
  exact W.iret (v := nI (n j)) hx hb hr (fun t ht hW => ⟨hk0, by rw [ej], ht⟩) (fun q h => nomatch h) dN_length_13
set_option maxHeartbeats 4000000 in
set_option maxRecDepth 100000 in
theorem cN_fill (l : Launch) (hfl : l.flags = pinnedFlags ++ [noTraceFlag]) (D : va_G) (cA cW : ClassId) (T : Nat → Nat) (hT : nvT T) (n : Nat → Nat) (g : Nat → Nat → Nat) (ok : nvOk n g) (x1 x2 x3 : Int32) : ny_Met l yN_fill (Cond.code yN_fill bN_fill 4 none :: nzG) ({ frames := 7, cells := 1, slots := 6, locals := 110 }) (va_Pc [.ref (T 0), .int x1, .int x2, .int x3] (nmP D cA cW (nvW cA cW T n g))) (nxQ (fun v st t => v = none ∧ (kFill x1 x2 x3) = 0 ∧ (fun H9 : Heap => ∃ n9 g9, nvU 16 n g (ix x1) (ix x2) (fun _ => ix x3) n9 g9 ∧ va_P D vwCl (nvW cA cW T n9 g9) H9) t.heap ∧ va_F (nvA T) st t) (exK exI (kFill x1 x2 x3))) 0 0 1 6 (nvA T) := by
  refine nz_ofT (own := RN) (by decide) rfl ?_
  intro p e s m args below meth c S hr hlocks hno hv9
  obtain ⟨rfl, hP, hK, hX⟩ := hv9
  have hob0 := nv_ob0 hK hP
  have hS : va_S (nvA T) s.heap s.heap [] := va_S.rf
  have hx := S.1
  have hb := S.2.1
  refine nz_entry (vs := [.ref (T 0), .int x1, .int x2, .int x3]) (n := 4) (lv := [(0, .ref (T 0)), (1, .int x1), (2, .int x2), (3, .int x3)]) (Nat.le_of_ble_eq_true rfl) rfl (fun ls hl => ?_)
  refine lv_iload_n hx hb dN_fill_0 rfl (lv_at hl 1 rfl) ?_
  refine nx_sv (As := [.int x1]) (rest := []) (post := ¬ plB x1) (exc := fun E => plB x1 ∧ E = eIO) S (cN_requirePlace l hfl x1) kN_20 ⟨rfl, rfl, Nat.le_of_ble_eq_true rfl, Nat.le_of_ble_eq_true rfl⟩ ⟨Nat.le_of_ble_eq_true rfl, Nat.le_of_ble_eq_true rfl⟩ nmX.bl (hX.at rfl) rfl hl.1 rfl (Nat.le_of_ble_eq_true rfl) dN_fill_1 hno hlocks (fun E h => exK_of (k := 1) (if_pos h.1) (by decide) h.2) (fun q1 => ?_)
  refine lv_iload_n hx hb dN_fill_4 rfl (lv_at hl 2 rfl) ?_
  refine nx_sv (As := [.int x2]) (rest := []) (post := ¬ lenB x2) (exc := fun E => lenB x2 ∧ E = eIA) S (cN_requireLength l hfl x2) kN_24 ⟨rfl, rfl, Nat.le_of_ble_eq_true rfl, Nat.le_of_ble_eq_true rfl⟩ ⟨Nat.le_of_ble_eq_true rfl, Nat.le_of_ble_eq_true rfl⟩ nmX.bl (hX.at rfl) rfl hl.1 rfl (Nat.le_of_ble_eq_true rfl) dN_fill_5 hno hlocks (fun E h => exK_of (k := 2) (by unfold kFill; rw [if_neg q1, if_pos (Or.inl h.1)]) (by decide) h.2) (fun q2 => ?_)
  refine lv_iload_n hx hb dN_fill_8 rfl (lv_at hl 3 rfl) ?_
  refine nx_sv (As := [.int x3]) (rest := []) (post := ¬ valB x3) (exc := fun E => valB x3 ∧ E = eIA) S (cN_requireValue l hfl x3) kN_27 ⟨rfl, rfl, Nat.le_of_ble_eq_true rfl, Nat.le_of_ble_eq_true rfl⟩ ⟨Nat.le_of_ble_eq_true rfl, Nat.le_of_ble_eq_true rfl⟩ nmX.bl (hX.at rfl) rfl hl.1 rfl (Nat.le_of_ble_eq_true rfl) dN_fill_9 hno hlocks (fun E h => exK_of (k := 2) (by unfold kFill; rw [if_neg q1, if_pos (Or.inr h.1)]) (by decide) h.2) (fun q3 => ?_)
  have hk0 : kFill x1 x2 x3 = 0 := by unfold kFill; rw [if_neg q1, if_neg (fun h => h.elim q2 q3)]
  obtain ⟨j, hj, rfl⟩ := plB_not q1
  have ej : ix (nI j) = j := ix_nI (by omega)
  obtain ⟨N, hN, rfl⟩ := lenB_not q2
  have eN : ix (nI N) = N := ix_nI (by omega)
  obtain ⟨v, hv, rfl⟩ := valB_not q3
  have ev : ix (nI v) = v := ix_nI (by omega)
  refine lv_aload_n hx hb dN_fill_12 rfl (lv_at hl 0 rfl) ?_
  refine nm_getP S hK hP dN_fill_13 ?_
  refine lv_iload_n hx hb dN_fill_16 rfl (lv_at hl 1 rfl) ?_
  refine nm_ald (j := j) hx hb hK hP hj dN_fill_17 ?_
  refine lv_iload_n hx hb dN_fill_18 rfl (lv_at hl 2 rfl) ?_
  refine lv_iload_n hx hb dN_fill_19 rfl (lv_at hl 3 rfl) ?_
  refine nv_call (As := [.int (nI N), .int (nI v)]) (rest := []) S (c_Word_become l D cA cW T hT n g j (Nat.lt_succ_of_lt hj) N hN v) kN_30 ⟨rfl, rfl, Nat.le_of_ble_eq_true rfl, Nat.le_of_ble_eq_true rfl⟩ ⟨Nat.zero_le _, Nat.zero_le _⟩ (nv_ob hK hP (Nat.lt_succ_of_lt hj)) hP hK hS rfl hl.1 rfl (Nat.le_of_ble_eq_true rfl) dN_fill_20 (fun H locs hP hS => ?_)
  refine ny_ret ?_
  exact W.vret hx hb hr (fun t ht hW => ⟨rfl, hk0, ⟨_, _, by rw [ej, eN, ev]; exact nvU_lay ok hN (fun _ _ => hv), by rw [ht]; exact hP⟩, hS.F ht⟩) hS.2.2 dN_fill_23
set_option maxHeartbeats 4000000 in
set_option maxRecDepth 100000 in
theorem cN_number (l : Launch) (hfl : l.flags = pinnedFlags ++ [noTraceFlag]) (D : va_G) (cA cW : ClassId) (T : Nat → Nat) (hT : nvT T) (n : Nat → Nat) (g : Nat → Nat → Nat) (ok : nvOk n g) (x1 x2 : Int32) (v1 : Nat) (hv1 : v1 < 2 ^ 64) : ny_Met l yN_number (Cond.code yN_number bN_number 5 none :: nzG) ({ frames := 7, cells := 1, slots := 6, locals := 110 }) (va_Pc [.ref (T 0), .int x1, .int x2, .long (lN v1)] (nmP D cA cW (nvW cA cW T n g))) (nxQ (fun v st t => v = none ∧ (kNumber x1 x2) = 0 ∧ (fun H9 : Heap => ∃ n9 g9, nvU 16 n g (ix x1) (ix x2) (zPut v1) n9 g9 ∧ va_P D vwCl (nvW cA cW T n9 g9) H9) t.heap ∧ va_F (nvA T) st t) (exK exI (kNumber x1 x2))) 0 0 1 6 (nvA T) := by
  refine nz_ofT (own := RN) (by decide) rfl ?_
  intro p e s m args below meth c S hr hlocks hno hv9
  obtain ⟨rfl, hP, hK, hX⟩ := hv9
  have hob0 := nv_ob0 hK hP
  have hS : va_S (nvA T) s.heap s.heap [] := va_S.rf
  have hx := S.1
  have hb := S.2.1
  refine nz_entry (vs := [.ref (T 0), .int x1, .int x2, .long (lN v1)]) (n := 5) (lv := [(0, .ref (T 0)), (1, .int x1), (2, .int x2), (3, .long (lN v1))]) (Nat.le_of_ble_eq_true rfl) rfl (fun ls hl => ?_)
  refine lv_iload_n hx hb dN_number_0 rfl (lv_at hl 1 rfl) ?_
  refine nx_sv (As := [.int x1]) (rest := []) (post := ¬ plB x1) (exc := fun E => plB x1 ∧ E = eIO) S (cN_requirePlace l hfl x1) kN_20 ⟨rfl, rfl, Nat.le_of_ble_eq_true rfl, Nat.le_of_ble_eq_true rfl⟩ ⟨Nat.le_of_ble_eq_true rfl, Nat.le_of_ble_eq_true rfl⟩ nmX.bl (hX.at rfl) rfl hl.1 rfl (Nat.le_of_ble_eq_true rfl) dN_number_1 hno hlocks (fun E h => exK_of (k := 1) (if_pos h.1) (by decide) h.2) (fun q1 => ?_)
  refine lv_iload_n hx hb dN_number_4 rfl (lv_at hl 2 rfl) ?_
  refine nx_sv (As := [.int x2]) (rest := []) (post := ¬ lenB x2) (exc := fun E => lenB x2 ∧ E = eIA) S (cN_requireLength l hfl x2) kN_24 ⟨rfl, rfl, Nat.le_of_ble_eq_true rfl, Nat.le_of_ble_eq_true rfl⟩ ⟨Nat.le_of_ble_eq_true rfl, Nat.le_of_ble_eq_true rfl⟩ nmX.bl (hX.at rfl) rfl hl.1 rfl (Nat.le_of_ble_eq_true rfl) dN_number_5 hno hlocks (fun E h => exK_of (k := 2) (by unfold kNumber; rw [if_neg q1, if_pos h.1]) (by decide) h.2) (fun q2 => ?_)
  have hk0 : kNumber x1 x2 = 0 := by unfold kNumber; rw [if_neg q1, if_neg q2]
  obtain ⟨j, hj, rfl⟩ := plB_not q1
  have ej : ix (nI j) = j := ix_nI (by omega)
  obtain ⟨N, hN, rfl⟩ := lenB_not q2
  have eN : ix (nI N) = N := ix_nI (by omega)
  refine lv_aload_n hx hb dN_number_8 rfl (lv_at hl 0 rfl) ?_
  refine nm_getP S hK hP dN_number_9 ?_
  refine lv_iload_n hx hb dN_number_12 rfl (lv_at hl 1 rfl) ?_
  refine nm_ald (j := j) hx hb hK hP hj dN_number_13 ?_
  refine lv_iload_n hx hb dN_number_14 rfl (lv_at hl 2 rfl) ?_
  refine lv_lload_n hx hb dN_number_15 rfl (lv_at hl 3 rfl) ?_
  refine nv_call (As := [.int (nI N), .long (lN v1)]) (rest := []) S (c_Word_hold l D cA cW T hT n g j (Nat.lt_succ_of_lt hj) N hN v1 hv1) kN_45 ⟨rfl, rfl, Nat.le_of_ble_eq_true rfl, Nat.le_of_ble_eq_true rfl⟩ ⟨Nat.zero_le _, Nat.zero_le _⟩ (nv_ob hK hP (Nat.lt_succ_of_lt hj)) hP hK hS rfl hl.1 rfl (Nat.le_of_ble_eq_true rfl) dN_number_16 (fun H locs hP hS => ?_)
  refine ny_ret ?_
  exact W.vret hx hb hr (fun t ht hW => ⟨rfl, hk0, ⟨_, _, by rw [ej, eN]; exact nvU_lay ok hN (fun _ _ => zPut_lt _ _), by rw [ht]; exact hP⟩, hS.F ht⟩) hS.2.2 dN_number_19
set_option maxHeartbeats 4000000 in
set_option maxRecDepth 100000 in
theorem cN_numberOf (l : Launch) (hfl : l.flags = pinnedFlags ++ [noTraceFlag]) (D : va_G) (cA cW : ClassId) (T : Nat → Nat) (hT : nvT T) (n : Nat → Nat) (g : Nat → Nat → Nat) (ok : nvOk n g) (x1 : Int32) (b1 : Nat) (hb1 : b1 < 2) : ny_Met l yN_numberOf (Cond.code yN_numberOf bN_numberOf 3 (some .long) :: nzG) ({ frames := 7, cells := 1, slots := 6, locals := 110 }) (va_Pc [.ref (T 0), .int x1, .int (nI b1)] (nmP D cA cW (nvW cA cW T n g))) (nxQ (fun v st t => (kNumberOf n g x1) = 0 ∧ v = some (.long (lN (zLong b1 (g (ix x1)) (n (ix x1))))) ∧ t.heap = st.heap) (exK exS (kNumberOf n g x1))) 0 0 1 6 (fun _ => False) := by
  refine nz_ofT (own := RN) (by decide) rfl ?_
  intro p e s m args below meth c S hr hlocks hno hv9
  obtain ⟨rfl, hP, hK, hX⟩ := hv9
  have hob0 := nv_ob0 hK hP
  have hS : va_S (nvA T) s.heap s.heap [] := va_S.rf
  have hx := S.1
  have hb := S.2.1
  refine nz_entry (vs := [.ref (T 0), .int x1, .int (nI b1)]) (n := 3) (lv := [(0, .ref (T 0)), (1, .int x1), (2, .int (nI b1))]) (Nat.le_of_ble_eq_true rfl) rfl (fun ls hl => ?_)
  refine lv_iload_n hx hb dN_numberOf_0 rfl (lv_at hl 1 rfl) ?_
  refine nx_sv (As := [.int x1]) (rest := []) (post := ¬ plB x1) (exc := fun E => plB x1 ∧ E = eIO) S (cN_requirePlace l hfl x1) kN_20 ⟨rfl, rfl, Nat.le_of_ble_eq_true rfl, Nat.le_of_ble_eq_true rfl⟩ ⟨Nat.le_of_ble_eq_true rfl, Nat.le_of_ble_eq_true rfl⟩ nmX.bl (hX.at rfl) rfl hl.1 rfl (Nat.le_of_ble_eq_true rfl) dN_numberOf_1 hno hlocks (fun E h => exK_of (k := 1) (if_pos h.1) (by decide) h.2) (fun q1 => ?_)
  obtain ⟨j, hj, rfl⟩ := plB_not q1
  have ej : ix (nI j) = j := ix_nI (by omega)
  refine lv_aload_n hx hb dN_numberOf_4 rfl (lv_at hl 0 rfl) ?_
  refine nm_getP S hK hP dN_numberOf_5 ?_
  refine lv_iload_n hx hb dN_numberOf_8 rfl (lv_at hl 1 rfl) ?_
  refine nm_ald (j := j) hx hb hK hP hj dN_numberOf_9 ?_
  refine nz_vi (As := []) (rest := []) S (c_Word_isClear l D cA cW T hT n g j (Nat.lt_succ_of_lt hj) ok.2 (ok.1 j)) kN_49 ⟨rfl, rfl, Nat.le_of_ble_eq_true rfl, Nat.le_of_ble_eq_true rfl⟩ ⟨Nat.zero_le _, Nat.zero_le _⟩ nvP.bl (nv_ob hK hP (Nat.lt_succ_of_lt hj)) (nvP.to hP hK) rfl hl.1 rfl (Nat.le_of_ble_eq_true rfl) dN_numberOf_10 (fun r2 er2 => ?_)
  subst er2
  refine lv_if_ne (tgt := 26) hx hb dN_numberOf_13 (by decide) (fun c3 => ?_) (fun c3 => ?_)
  · refine lv_aload_n hx hb dN_numberOf_26 rfl (lv_at hl 0 rfl) ?_
    refine nm_getP S hK hP dN_numberOf_27 ?_
    refine lv_iload_n hx hb dN_numberOf_30 rfl (lv_at hl 1 rfl) ?_
    refine nm_ald (j := j) hx hb hK hP hj dN_numberOf_31 ?_
    refine lv_iload_n hx hb dN_numberOf_32 rfl (lv_at hl 2 rfl) ?_
    refine nz_vl (As := [.int (nI b1)]) (rest := []) S (c_Word_asLong l D cA cW T hT n g j (Nat.lt_succ_of_lt hj) ok.2 (ok.1 j) b1 hb1) kN_60 ⟨rfl, rfl, Nat.le_of_ble_eq_true rfl, Nat.le_of_ble_eq_true rfl⟩ ⟨Nat.zero_le _, Nat.zero_le _⟩ nvP.bl (nv_ob hK hP (Nat.lt_succ_of_lt hj)) (nvP.to hP hK) rfl hl.1 rfl (Nat.le_of_ble_eq_true rfl) dN_numberOf_33 (fun r4 er4 => ?_)
    subst er4
    refine ny_ret ?_
    exact W.lret (v := lN (zLong b1 (g j) (n j))) hx hb hr (fun t ht hW => ⟨by unfold kNumberOf; rw [if_neg q1, ej, if_pos (zAll_y c3)], by rw [ej], ht⟩) (fun q h => nomatch h) dN_numberOf_36
  · exact nm_throw (E := eIS) (tx := "the word is not clear") (ik := 53) (is := 55) (ic := 57) S hfl hX (by decide) (by decide +kernel) kcl_53 kin_eIS (by decide) kat_eIS hl.1 ⟨(Nat.le_of_ble_eq_true rfl), (Nat.le_of_ble_eq_true rfl), (Nat.le_of_ble_eq_true rfl), (Nat.le_of_ble_eq_true rfl)⟩ (Nat.le_of_ble_eq_true rfl) hlocks hno dN_numberOf_16 dN_numberOf_19 dN_numberOf_20 dN_numberOf_22 dN_numberOf_25 (fun t q hW h => ⟨eIS, exK_of (k := 2) (by unfold kNumberOf; rw [if_neg q1, ej, if_neg (zAll_n c3)]) (by decide) rfl, h⟩)
set_option maxHeartbeats 4000000 in
set_option maxRecDepth 100000 in
theorem cN_all (l : Launch) (hfl : l.flags = pinnedFlags ++ [noTraceFlag]) (D : va_G) (cA cW : ClassId) (T : Nat → Nat) (hT : nvT T) (n : Nat → Nat) (g : Nat → Nat → Nat) (ok : nvOk n g) (x1 x2 : Int32) : ny_Met l yN_all (Cond.code yN_all bN_all 3 (some .int) :: nzG) ({ frames := 7, cells := 1, slots := 6, locals := 110 }) (va_Pc [.ref (T 0), .int x1, .int x2] (nmP D cA cW (nvW cA cW T n g))) (nxQ (fun v st t => (kAll x1 x2) = 0 ∧ v = some (.int (nI (zAllOf (ix x1) (g (ix x2)) (n (ix x2))))) ∧ t.heap = st.heap) (exK exI (kAll x1 x2))) 0 0 1 6 (fun _ => False) := by
  refine nz_ofT (own := RN) (by decide) rfl ?_
  intro p e s m args below meth c S hr hlocks hno hv9
  obtain ⟨rfl, hP, hK, hX⟩ := hv9
  have hob0 := nv_ob0 hK hP
  have hS : va_S (nvA T) s.heap s.heap [] := va_S.rf
  have hx := S.1
  have hb := S.2.1
  refine nz_entry (vs := [.ref (T 0), .int x1, .int x2]) (n := 3) (lv := [(0, .ref (T 0)), (1, .int x1), (2, .int x2)]) (Nat.le_of_ble_eq_true rfl) rfl (fun ls hl => ?_)
  refine lv_iload_n hx hb dN_all_0 rfl (lv_at hl 2 rfl) ?_
  refine nx_sv (As := [.int x2]) (rest := []) (post := ¬ plB x2) (exc := fun E => plB x2 ∧ E = eIO) S (cN_requirePlace l hfl x2) kN_20 ⟨rfl, rfl, Nat.le_of_ble_eq_true rfl, Nat.le_of_ble_eq_true rfl⟩ ⟨Nat.le_of_ble_eq_true rfl, Nat.le_of_ble_eq_true rfl⟩ nmX.bl (hX.at rfl) rfl hl.1 rfl (Nat.le_of_ble_eq_true rfl) dN_all_1 hno hlocks (fun E h => exK_of (k := 1) (if_pos h.1) (by decide) h.2) (fun q1 => ?_)
  obtain ⟨j, hj, rfl⟩ := plB_not q1
  have ej : ix (nI j) = j := ix_nI (by omega)
  refine lv_iload_n hx hb dN_all_4 rfl (lv_at hl 1 rfl) ?_
  by_cases hkd : x1 < 0 ∨ 3 < x1
  · refine lv_tableOut (tgt := 84) hx hb dN_all_5 (hkd.elim (fun h => Or.inl (Int32.lt_iff_toInt_lt.mp h)) (fun h => Or.inr (Int32.lt_iff_toInt_lt.mp h))) (by decide) ?_
    exact nm_throw (E := eIA) (tx := "no such kind of joining") (ik := 64) (is := 137) (ic := 68) S hfl hX (by decide) (by decide +kernel) kcl_64 kin_eIA (by decide) kat_eIA hl.1 ⟨(Nat.le_of_ble_eq_true rfl), (Nat.le_of_ble_eq_true rfl), (Nat.le_of_ble_eq_true rfl), (Nat.le_of_ble_eq_true rfl)⟩ (Nat.le_of_ble_eq_true rfl) hlocks hno dN_all_84 dN_all_87 dN_all_88 dN_all_90 dN_all_93 (fun t q hW h => ⟨eIA, exK_of (k := 2) (by unfold kAll; rw [if_neg q1, if_pos hkd]) (by decide) rfl, h⟩)
  · obtain ⟨o, ho, rfl⟩ := in_not' (N := 3) rfl (by decide) hkd
    rcases (show o = 0 ∨ o = 1 ∨ o = 2 ∨ o = 3 by omega) with rfl | rfl | rfl | rfl
    · refine lv_tableIn (tgt := 36) hx hb dN_all_5 (by decide) (by decide) rfl (by decide) ?_
      refine lv_aload_n hx hb dN_all_36 rfl (lv_at hl 0 rfl) ?_
      refine nm_getP S hK hP dN_all_37 ?_
      refine lv_iload_n hx hb dN_all_40 rfl (lv_at hl 2 rfl) ?_
      refine nm_ald (j := j) hx hb hK hP hj dN_all_41 ?_
      refine lv_iconst (v := 1) hx hb dN_all_42 (by decide) ?_
      refine lv_iconst (v := 3) hx hb dN_all_43 (by decide) ?_
      refine nz_vi (As := [.int (nI 1), .int (nI 3)]) (rest := []) S (c_Word_joined l D cA cW T hT n g j (Nat.lt_succ_of_lt hj) ok.2 (ok.1 j) 1 (by decide) 3 (by decide)) kN_134 ⟨rfl, rfl, Nat.le_of_ble_eq_true rfl, Nat.le_of_ble_eq_true rfl⟩ ⟨Nat.zero_le _, Nat.zero_le _⟩ nvP.bl (nv_ob hK hP (Nat.lt_succ_of_lt hj)) (nvP.to hP hK) rfl hl.1 rfl (Nat.le_of_ble_eq_true rfl) dN_all_44 (fun r2 er2 => ?_)
      subst er2
      refine ny_ret ?_
      exact W.iret (v := nI (zFold 1 3 (g j) (n j))) hx hb hr (fun t ht hW => ⟨by unfold kAll; rw [if_neg q1]; exact if_neg (by decide), by rw [ej]; rfl, ht⟩) (fun q h => nomatch h) dN_all_47
    · refine lv_tableIn (tgt := 48) hx hb dN_all_5 (by decide) (by decide) rfl (by decide) ?_
      refine lv_aload_n hx hb dN_all_48 rfl (lv_at hl 0 rfl) ?_
      refine nm_getP S hK hP dN_all_49 ?_
      refine lv_iload_n hx hb dN_all_52 rfl (lv_at hl 2 rfl) ?_
      refine nm_ald (j := j) hx hb hK hP hj dN_all_53 ?_
      refine lv_iconst (v := 2) hx hb dN_all_54 (by decide) ?_
      refine lv_iconst (v := 2) hx hb dN_all_55 (by decide) ?_
      refine nz_vi (As := [.int (nI 2), .int (nI 2)]) (rest := []) S (c_Word_joined l D cA cW T hT n g j (Nat.lt_succ_of_lt hj) ok.2 (ok.1 j) 2 (by decide) 2 (by decide)) kN_134 ⟨rfl, rfl, Nat.le_of_ble_eq_true rfl, Nat.le_of_ble_eq_true rfl⟩ ⟨Nat.zero_le _, Nat.zero_le _⟩ nvP.bl (nv_ob hK hP (Nat.lt_succ_of_lt hj)) (nvP.to hP hK) rfl hl.1 rfl (Nat.le_of_ble_eq_true rfl) dN_all_56 (fun r3 er3 => ?_)
      subst er3
      refine ny_ret ?_
      exact W.iret (v := nI (zFold 2 2 (g j) (n j))) hx hb hr (fun t ht hW => ⟨by unfold kAll; rw [if_neg q1]; exact if_neg (by decide), by rw [ej]; rfl, ht⟩) (fun q h => nomatch h) dN_all_59
    · refine lv_tableIn (tgt := 60) hx hb dN_all_5 (by decide) (by decide) rfl (by decide) ?_
      refine lv_aload_n hx hb dN_all_60 rfl (lv_at hl 0 rfl) ?_
      refine nm_getP S hK hP dN_all_61 ?_
      refine lv_iload_n hx hb dN_all_64 rfl (lv_at hl 2 rfl) ?_
      refine nm_ald (j := j) hx hb hK hP hj dN_all_65 ?_
      refine lv_iconst (v := 3) hx hb dN_all_66 (by decide) ?_
      refine lv_iconst (v := 2) hx hb dN_all_67 (by decide) ?_
      refine nz_vi (As := [.int (nI 3), .int (nI 2)]) (rest := []) S (c_Word_joined l D cA cW T hT n g j (Nat.lt_succ_of_lt hj) ok.2 (ok.1 j) 3 (by decide) 2 (by decide)) kN_134 ⟨rfl, rfl, Nat.le_of_ble_eq_true rfl, Nat.le_of_ble_eq_true rfl⟩ ⟨Nat.zero_le _, Nat.zero_le _⟩ nvP.bl (nv_ob hK hP (Nat.lt_succ_of_lt hj)) (nvP.to hP hK) rfl hl.1 rfl (Nat.le_of_ble_eq_true rfl) dN_all_68 (fun r4 er4 => ?_)
      subst er4
      refine ny_ret ?_
      exact W.iret (v := nI (zFold 3 2 (g j) (n j))) hx hb hr (fun t ht hW => ⟨by unfold kAll; rw [if_neg q1]; exact if_neg (by decide), by rw [ej]; rfl, ht⟩) (fun q h => nomatch h) dN_all_71
    · refine lv_tableIn (tgt := 72) hx hb dN_all_5 (by decide) (by decide) rfl (by decide) ?_
      refine lv_aload_n hx hb dN_all_72 rfl (lv_at hl 0 rfl) ?_
      refine nm_getP S hK hP dN_all_73 ?_
      refine lv_iload_n hx hb dN_all_76 rfl (lv_at hl 2 rfl) ?_
      refine nm_ald (j := j) hx hb hK hP hj dN_all_77 ?_
      refine lv_iconst (v := 0) hx hb dN_all_78 (by decide) ?_
      refine lv_iconst (v := 4) hx hb dN_all_79 (by decide) ?_
      refine nz_vi (As := [.int (nI 0), .int (nI 4)]) (rest := []) S (c_Word_joined l D cA cW T hT n g j (Nat.lt_succ_of_lt hj) ok.2 (ok.1 j) 0 (by decide) 4 (by decide)) kN_134 ⟨rfl, rfl, Nat.le_of_ble_eq_true rfl, Nat.le_of_ble_eq_true rfl⟩ ⟨Nat.zero_le _, Nat.zero_le _⟩ nvP.bl (nv_ob hK hP (Nat.lt_succ_of_lt hj)) (nvP.to hP hK) rfl hl.1 rfl (Nat.le_of_ble_eq_true rfl) dN_all_80 (fun r5 er5 => ?_)
      subst er5
      refine ny_ret ?_
      exact W.iret (v := nI (zFold 0 4 (g j) (n j))) hx hb hr (fun t ht hW => ⟨by unfold kAll; rw [if_neg q1]; exact if_neg (by decide), by rw [ej]; rfl, ht⟩) (fun q h => nomatch h) dN_all_83
set_option maxHeartbeats 4000000 in
set_option maxRecDepth 100000 in
theorem cN_edge (l : Launch) (hfl : l.flags = pinnedFlags ++ [noTraceFlag]) (D : va_G) (cA cW : ClassId) (T : Nat → Nat) (hT : nvT T) (n : Nat → Nat) (g : Nat → Nat → Nat) (ok : nvOk n g) (x1 x2 : Int32) : ny_Met l yN_edge (Cond.code yN_edge bN_edge 3 (some .int) :: nzG) ({ frames := 7, cells := 1, slots := 6, locals := 110 }) (va_Pc [.ref (T 0), .int x1, .int x2] (nmP D cA cW (nvW cA cW T n g))) (nxQ (fun v st t => (kEdge x1 x2) = 0 ∧ v = some (.int (zEdge (ix x1) (ix x2))) ∧ t.heap = st.heap) (exK (fun _ => eIA) (kEdge x1 x2))) 0 0 1 6 (fun _ => False) := by
  refine nz_ofT (own := RN) (by decide) rfl ?_
  intro p e s m args below meth c S hr hlocks hno hv9
  obtain ⟨rfl, hP, hK, hX⟩ := hv9
  have hob0 := nv_ob0 hK hP
  have hS : va_S (nvA T) s.heap s.heap [] := va_S.rf
  have hx := S.1
  have hb := S.2.1
  refine nz_entry (vs := [.ref (T 0), .int x1, .int x2]) (n := 3) (lv := [(0, .ref (T 0)), (1, .int x1), (2, .int x2)]) (Nat.le_of_ble_eq_true rfl) rfl (fun ls hl => ?_)
  refine lv_iload_n hx hb dN_edge_0 rfl (lv_at hl 1 rfl) ?_
  refine nx_sv (As := [.int x1]) (rest := []) (post := ¬ valB x1) (exc := fun E => valB x1 ∧ E = eIA) S (cN_requireValue l hfl x1) kN_27 ⟨rfl, rfl, Nat.le_of_ble_eq_true rfl, Nat.le_of_ble_eq_true rfl⟩ ⟨Nat.le_of_ble_eq_true rfl, Nat.le_of_ble_eq_true rfl⟩ nmX.bl (hX.at rfl) rfl hl.1 rfl (Nat.le_of_ble_eq_true rfl) dN_edge_1 hno hlocks (fun E h => exK_of (k := 1) (if_pos (Or.inl h.1)) (by decide) h.2) (fun q1 => ?_)
  refine lv_iload_n hx hb dN_edge_4 rfl (lv_at hl 2 rfl) ?_
  refine nx_sv (As := [.int x2]) (rest := []) (post := ¬ valB x2) (exc := fun E => valB x2 ∧ E = eIA) S (cN_requireValue l hfl x2) kN_27 ⟨rfl, rfl, Nat.le_of_ble_eq_true rfl, Nat.le_of_ble_eq_true rfl⟩ ⟨Nat.le_of_ble_eq_true rfl, Nat.le_of_ble_eq_true rfl⟩ nmX.bl (hX.at rfl) rfl hl.1 rfl (Nat.le_of_ble_eq_true rfl) dN_edge_5 hno hlocks (fun E h => exK_of (k := 1) (if_pos (Or.inr h.1)) (by decide) h.2) (fun q2 => ?_)
  have hk0 : kEdge x1 x2 = 0 := if_neg (fun h => h.elim q1 q2)
  obtain ⟨u, hu, rfl⟩ := valB_not q1
  have eu : ix (nI u) = u := ix_nI (by omega)
  obtain ⟨v, hv, rfl⟩ := valB_not q2
  have ev : ix (nI v) = v := ix_nI (by omega)
  refine lv_iload_n hx hb dN_edge_8 rfl (lv_at hl 1 rfl) ?_
  refine nz_si (As := [.int (nI u)]) (rest := []) S (c_Wire_isLow l u hu) kN_139 ⟨rfl, rfl, Nat.le_of_ble_eq_true rfl, Nat.le_of_ble_eq_true rfl⟩ ⟨Nat.zero_le _, Nat.zero_le _⟩ (fun _ _ _ _ h => h) (fun _ _ _ => trivial) rfl hl.1 rfl (Nat.le_of_ble_eq_true rfl) dN_edge_9 (fun r3 er3 => ?_)
  subst er3
  refine lv_if_eq (tgt := 24) hx hb dN_edge_12 (by decide) (fun c4 => ?_) (fun c4 => ?_)
  · refine lv_iload_n hx hb dN_edge_24 rfl (lv_at hl 1 rfl) ?_
    refine nz_si (As := [.int (nI u)]) (rest := []) S (c_Wire_isHigh l u hu) kN_143 ⟨rfl, rfl, Nat.le_of_ble_eq_true rfl, Nat.le_of_ble_eq_true rfl⟩ ⟨Nat.zero_le _, Nat.zero_le _⟩ (fun _ _ _ _ h => h) (fun _ _ _ => trivial) rfl hl.1 rfl (Nat.le_of_ble_eq_true rfl) dN_edge_25 (fun r5 er5 => ?_)
    subst er5
    refine lv_if_eq (tgt := 42) hx hb dN_edge_28 (by decide) (fun c6 => ?_) (fun c6 => ?_)
    · refine lv_iconst (v := 0) hx hb dN_edge_42 (by decide) ?_
      refine ny_ret ?_
      exact W.iret (v := 0) hx hb hr (fun t ht hW => ⟨hk0, by rw [eu, ev]; exact congrArg some (congrArg Value.int (of_decide_eq_true (ib (ib (al2 (N := 9) (M := 9) ((fun u v => (!decide (nI (zLow u) = 0) || (!decide (nI (zHigh u) = 0) || decide ((0 : Int32) = zEdge u v))))) (by decide +kernel) u hu v hv) c4) c6))), ht⟩) (fun q h => nomatch h) dN_edge_43
    · refine lv_iload_n hx hb dN_edge_31 rfl (lv_at hl 2 rfl) ?_
      refine nz_si (As := [.int (nI v)]) (rest := []) S (c_Wire_isLow l v hv) kN_139 ⟨rfl, rfl, Nat.le_of_ble_eq_true rfl, Nat.le_of_ble_eq_true rfl⟩ ⟨Nat.zero_le _, Nat.zero_le _⟩ (fun _ _ _ _ h => h) (fun _ _ _ => trivial) rfl hl.1 rfl (Nat.le_of_ble_eq_true rfl) dN_edge_32 (fun r7 er7 => ?_)
      subst er7
      refine lv_if_eq (tgt := 42) hx hb dN_edge_35 (by decide) (fun c8 => ?_) (fun c8 => ?_)
      · refine lv_iconst (v := 0) hx hb dN_edge_42 (by decide) ?_
        refine ny_ret ?_
        exact W.iret (v := 0) hx hb hr (fun t ht hW => ⟨hk0, by rw [eu, ev]; exact congrArg some (congrArg Value.int (of_decide_eq_true (ib (ib (ib (al2 (N := 9) (M := 9) ((fun u v => (!decide (nI (zLow u) = 0) || (!decide (¬ nI (zHigh u) = 0) || (!decide (nI (zLow v) = 0) || decide ((0 : Int32) = zEdge u v)))))) (by decide +kernel) u hu v hv) c4) c6) c8))), ht⟩) (fun q h => nomatch h) dN_edge_43
      · refine lv_iconst (v := (-1)) hx hb dN_edge_38 (by decide) ?_
        refine lv_goto (tgt := 43) hx hb dN_edge_39 (by decide) ?_
        refine ny_ret ?_
        exact W.iret (v := (-1)) hx hb hr (fun t ht hW => ⟨hk0, by rw [eu, ev]; exact congrArg some (congrArg Value.int (of_decide_eq_true (ib (ib (ib (al2 (N := 9) (M := 9) ((fun u v => (!decide (nI (zLow u) = 0) || (!decide (¬ nI (zHigh u) = 0) || (!decide (¬ nI (zLow v) = 0) || decide (((-1) : Int32) = zEdge u v)))))) (by decide +kernel) u hu v hv) c4) c6) c8))), ht⟩) (fun q h => nomatch h) dN_edge_43
  · refine lv_iload_n hx hb dN_edge_15 rfl (lv_at hl 2 rfl) ?_
    refine nz_si (As := [.int (nI v)]) (rest := []) S (c_Wire_isHigh l v hv) kN_143 ⟨rfl, rfl, Nat.le_of_ble_eq_true rfl, Nat.le_of_ble_eq_true rfl⟩ ⟨Nat.zero_le _, Nat.zero_le _⟩ (fun _ _ _ _ h => h) (fun _ _ _ => trivial) rfl hl.1 rfl (Nat.le_of_ble_eq_true rfl) dN_edge_16 (fun r9 er9 => ?_)
    subst er9
    refine lv_if_eq (tgt := 24) hx hb dN_edge_19 (by decide) (fun c10 => ?_) (fun c10 => ?_)
    · refine lv_iload_n hx hb dN_edge_24 rfl (lv_at hl 1 rfl) ?_
      refine nz_si (As := [.int (nI u)]) (rest := []) S (c_Wire_isHigh l u hu) kN_143 ⟨rfl, rfl, Nat.le_of_ble_eq_true rfl, Nat.le_of_ble_eq_true rfl⟩ ⟨Nat.zero_le _, Nat.zero_le _⟩ (fun _ _ _ _ h => h) (fun _ _ _ => trivial) rfl hl.1 rfl (Nat.le_of_ble_eq_true rfl) dN_edge_25 (fun r11 er11 => ?_)
      subst er11
      refine lv_if_eq (tgt := 42) hx hb dN_edge_28 (by decide) (fun c12 => ?_) (fun c12 => ?_)
      · refine lv_iconst (v := 0) hx hb dN_edge_42 (by decide) ?_
        refine ny_ret ?_
        exact W.iret (v := 0) hx hb hr (fun t ht hW => ⟨hk0, by rw [eu, ev]; exact congrArg some (congrArg Value.int (of_decide_eq_true (ib (ib (ib (al2 (N := 9) (M := 9) ((fun u v => (!decide (¬ nI (zLow u) = 0) || (!decide (nI (zHigh v) = 0) || (!decide (nI (zHigh u) = 0) || decide ((0 : Int32) = zEdge u v)))))) (by decide +kernel) u hu v hv) c4) c10) c12))), ht⟩) (fun q h => nomatch h) dN_edge_43
      · refine lv_iload_n hx hb dN_edge_31 rfl (lv_at hl 2 rfl) ?_
        refine nz_si (As := [.int (nI v)]) (rest := []) S (c_Wire_isLow l v hv) kN_139 ⟨rfl, rfl, Nat.le_of_ble_eq_true rfl, Nat.le_of_ble_eq_true rfl⟩ ⟨Nat.zero_le _, Nat.zero_le _⟩ (fun _ _ _ _ h => h) (fun _ _ _ => trivial) rfl hl.1 rfl (Nat.le_of_ble_eq_true rfl) dN_edge_32 (fun r13 er13 => ?_)
        subst er13
        refine lv_if_eq (tgt := 42) hx hb dN_edge_35 (by decide) (fun c14 => ?_) (fun c14 => ?_)
        · refine lv_iconst (v := 0) hx hb dN_edge_42 (by decide) ?_
          refine ny_ret ?_
          exact W.iret (v := 0) hx hb hr (fun t ht hW => ⟨hk0, by rw [eu, ev]; exact congrArg some (congrArg Value.int (of_decide_eq_true (ib (ib (ib (ib (al2 (N := 9) (M := 9) ((fun u v => (!decide (¬ nI (zLow u) = 0) || (!decide (nI (zHigh v) = 0) || (!decide (¬ nI (zHigh u) = 0) || (!decide (nI (zLow v) = 0) || decide ((0 : Int32) = zEdge u v))))))) (by decide +kernel) u hu v hv) c4) c10) c12) c14))), ht⟩) (fun q h => nomatch h) dN_edge_43
        · refine lv_iconst (v := (-1)) hx hb dN_edge_38 (by decide) ?_
          refine lv_goto (tgt := 43) hx hb dN_edge_39 (by decide) ?_
          refine ny_ret ?_
          exact W.iret (v := (-1)) hx hb hr (fun t ht hW => ⟨hk0, by rw [eu, ev]; exact congrArg some (congrArg Value.int (of_decide_eq_true (ib (ib (ib (ib (al2 (N := 9) (M := 9) ((fun u v => (!decide (¬ nI (zLow u) = 0) || (!decide (nI (zHigh v) = 0) || (!decide (¬ nI (zHigh u) = 0) || (!decide (¬ nI (zLow v) = 0) || decide (((-1) : Int32) = zEdge u v))))))) (by decide +kernel) u hu v hv) c4) c10) c12) c14))), ht⟩) (fun q h => nomatch h) dN_edge_43
    · refine lv_iconst (v := 1) hx hb dN_edge_22 (by decide) ?_
      refine ny_ret ?_
      exact W.iret (v := 1) hx hb hr (fun t ht hW => ⟨hk0, by rw [eu, ev]; exact congrArg some (congrArg Value.int (of_decide_eq_true (ib (ib (al2 (N := 9) (M := 9) ((fun u v => (!decide (¬ nI (zLow u) = 0) || (!decide (¬ nI (zHigh v) = 0) || decide ((1 : Int32) = zEdge u v))))) (by decide +kernel) u hu v hv) c4) c10))), ht⟩) (fun q h => nomatch h) dN_edge_23
