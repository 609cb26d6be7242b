set_option maxHeartbeats 4000000 in
set_option maxRecDepth 100000 in
theorem cN_requirePlace (l : Launch) (hfl : l.flags = pinnedFlags ++ [noTraceFlag]) (x1 : Int32) : ny_Met l yN_requirePlace (Cond.code yN_requirePlace bN_requirePlace 1 none :: nzG) ({ frames := 6, cells := 1, slots := 6, locals := 90 }) (va_Pc [.int x1] (nmX)) (nxQ (fun v st t => v = none ∧ t.heap = st.heap ∧ ¬ plB x1) (fun E => plB x1 ∧ E = eIO)) 0 0 1 6 (fun _ => False) := by
  refine nz_ofT (own := RN) (by decide) rfl ?_
  intro p e s m args below meth c S hr hlocks hno hv9
  obtain ⟨rfl, hX⟩ := hv9
  have hx := S.1
  have hb := S.2.1
  refine nz_entry (vs := [.int x1]) (n := 1) (lv := [(0, .int x1)]) (Nat.le_of_ble_eq_true rfl) rfl (fun ls hl => ?_)
  refine lv_iload_n hx hb dN_requirePlace_0 rfl (lv_at hl 0 rfl) ?_
  refine lv_if_lt (tgt := 10) hx hb dN_requirePlace_1 (by decide) (fun c1 => ?_) (fun c1 => ?_)
  · exact nm_throw (E := eIO) (tx := "no such place") (ik := 116) (is := 146) (ic := 120) S hfl hX (by decide) (by decide +kernel) kcl_116 kin_eIO (by decide) kat_eIO hl.1 ⟨(Nat.le_of_ble_eq_true rfl), (Nat.le_of_ble_eq_true rfl), (Nat.le_of_ble_eq_true rfl), (Nat.le_of_ble_eq_true rfl)⟩ (Nat.le_of_ble_eq_true rfl) hlocks hno dN_requirePlace_10 dN_requirePlace_13 dN_requirePlace_14 dN_requirePlace_16 dN_requirePlace_19 (fun t q hW h => ⟨eIO, ⟨Or.inl c1, rfl⟩, h⟩)
  · refine lv_iload_n hx hb dN_requirePlace_4 rfl (lv_at hl 0 rfl) ?_
    refine lv_bipush (v := 16) hx hb dN_requirePlace_5 (by decide) ?_
    refine lv_icmp_lt (tgt := 20) hx hb dN_requirePlace_7 (by decide) (fun c2 => ?_) (fun c2 => ?_)
    · refine ny_ret ?_
      exact W.vret hx hb hr (fun t ht hW => ⟨rfl, ht, fun q => q.elim c1 (Int32.not_le.mpr c2)⟩) (fun q h => nomatch h) dN_requirePlace_20
    · exact nm_throw (E := eIO) (tx := "no such place") (ik := 116) (is := 146) (ic := 120) S hfl hX (by decide) (by decide +kernel) kcl_116 kin_eIO (by decide) kat_eIO hl.1 ⟨(Nat.le_of_ble_eq_true rfl), (Nat.le_of_ble_eq_true rfl), (Nat.le_of_ble_eq_true rfl), (Nat.le_of_ble_eq_true rfl)⟩ (Nat.le_of_ble_eq_true rfl) hlocks hno dN_requirePlace_10 dN_requirePlace_13 dN_requirePlace_14 dN_requirePlace_16 dN_requirePlace_19 (fun t q hW h => ⟨eIO, ⟨Or.inr (by rw [Int32.not_lt] at c2; exact c2), rfl⟩, h⟩)
set_option maxHeartbeats 4000000 in
set_option maxRecDepth 100000 in
theorem cN_requireLength (l : Launch) (hfl : l.flags = pinnedFlags ++ [noTraceFlag]) (x1 : Int32) : ny_Met l yN_requireLength (Cond.code yN_requireLength bN_requireLength 1 none :: nzG) ({ frames := 6, cells := 1, slots := 6, locals := 90 }) (va_Pc [.int x1] (nmX)) (nxQ (fun v st t => v = none ∧ t.heap = st.heap ∧ ¬ lenB x1) (fun E => lenB x1 ∧ E = eIA)) 0 0 1 6 (fun _ => False) := by
  refine nz_ofT (own := RN) (by decide) rfl ?_
  intro p e s m args below meth c S hr hlocks hno hv9
  obtain ⟨rfl, hX⟩ := hv9
  have hx := S.1
  have hb := S.2.1
  refine nz_entry (vs := [.int x1]) (n := 1) (lv := [(0, .int x1)]) (Nat.le_of_ble_eq_true rfl) rfl (fun ls hl => ?_)
  refine lv_iload_n hx hb dN_requireLength_0 rfl (lv_at hl 0 rfl) ?_
  refine lv_if_lt (tgt := 10) hx hb dN_requireLength_1 (by decide) (fun c1 => ?_) (fun c1 => ?_)
  · exact nm_throw (E := eIA) (tx := "a length is 0 to 64") (ik := 64) (is := 150) (ic := 68) S hfl hX (by decide) (by decide +kernel) kcl_64 kin_eIA (by decide) kat_eIA hl.1 ⟨(Nat.le_of_ble_eq_true rfl), (Nat.le_of_ble_eq_true rfl), (Nat.le_of_ble_eq_true rfl), (Nat.le_of_ble_eq_true rfl)⟩ (Nat.le_of_ble_eq_true rfl) hlocks hno dN_requireLength_10 dN_requireLength_13 dN_requireLength_14 dN_requireLength_16 dN_requireLength_19 (fun t q hW h => ⟨eIA, ⟨Or.inl c1, rfl⟩, h⟩)
  · refine lv_iload_n hx hb dN_requireLength_4 rfl (lv_at hl 0 rfl) ?_
    refine lv_bipush (v := 64) hx hb dN_requireLength_5 (by decide) ?_
    refine lv_icmp_le (tgt := 20) hx hb dN_requireLength_7 (by decide) (fun c2 => ?_) (fun c2 => ?_)
    · refine ny_ret ?_
      exact W.vret hx hb hr (fun t ht hW => ⟨rfl, ht, fun q => q.elim c1 (Int32.not_lt.mpr c2)⟩) (fun q h => nomatch h) dN_requireLength_20
    · exact nm_throw (E := eIA) (tx := "a length is 0 to 64") (ik := 64) (is := 150) (ic := 68) S hfl hX (by decide) (by decide +kernel) kcl_64 kin_eIA (by decide) kat_eIA hl.1 ⟨(Nat.le_of_ble_eq_true rfl), (Nat.le_of_ble_eq_true rfl), (Nat.le_of_ble_eq_true rfl), (Nat.le_of_ble_eq_true rfl)⟩ (Nat.le_of_ble_eq_true rfl) hlocks hno dN_requireLength_10 dN_requireLength_13 dN_requireLength_14 dN_requireLength_16 dN_requireLength_19 (fun t q hW h => ⟨eIA, ⟨Or.inr (by rw [Int32.not_le] at c2; exact c2), rfl⟩, h⟩)
set_option maxHeartbeats 4000000 in
set_option maxRecDepth 100000 in
theorem cN_requireValue (l : Launch) (hfl : l.flags = pinnedFlags ++ [noTraceFlag]) (x1 : Int32) : ny_Met l yN_requireValue (Cond.code yN_requireValue bN_requireValue 1 none :: nzG) ({ frames := 6, cells := 1, slots := 6, locals := 90 }) (va_Pc [.int x1] (nmX)) (nxQ (fun v st t => v = none ∧ t.heap = st.heap ∧ ¬ valB x1) (fun E => valB x1 ∧ E = eIA)) 0 0 1 6 (fun _ => False) := by
  refine nz_ofT (own := RN) (by decide) rfl ?_
  intro p e s m args below meth c S hr hlocks hno hv9
  obtain ⟨rfl, hX⟩ := hv9
  have hx := S.1
  have hb := S.2.1
  refine nz_entry (vs := [.int x1]) (n := 1) (lv := [(0, .int x1)]) (Nat.le_of_ble_eq_true rfl) rfl (fun ls hl => ?_)
  refine lv_iload_n hx hb dN_requireValue_0 rfl (lv_at hl 0 rfl) ?_
  refine lv_if_lt (tgt := 10) hx hb dN_requireValue_1 (by decide) (fun c1 => ?_) (fun c1 => ?_)
  · exact nm_throw (E := eIA) (tx := "no such value") (ik := 64) (is := 152) (ic := 68) S hfl hX (by decide) (by decide +kernel) kcl_64 kin_eIA (by decide) kat_eIA hl.1 ⟨(Nat.le_of_ble_eq_true rfl), (Nat.le_of_ble_eq_true rfl), (Nat.le_of_ble_eq_true rfl), (Nat.le_of_ble_eq_true rfl)⟩ (Nat.le_of_ble_eq_true rfl) hlocks hno dN_requireValue_10 dN_requireValue_13 dN_requireValue_14 dN_requireValue_16 dN_requireValue_19 (fun t q hW h => ⟨eIA, ⟨Or.inl c1, rfl⟩, h⟩)
  · refine lv_iload_n hx hb dN_requireValue_4 rfl (lv_at hl 0 rfl) ?_
    refine lv_bipush (v := 8) hx hb dN_requireValue_5 (by decide) ?_
    refine lv_icmp_le (tgt := 20) hx hb dN_requireValue_7 (by decide) (fun c2 => ?_) (fun c2 => ?_)
    · refine ny_ret ?_
      exact W.vret hx hb hr (fun t ht hW => ⟨rfl, ht, fun q => q.elim c1 (Int32.not_lt.mpr c2)⟩) (fun q h => nomatch h) dN_requireValue_20
    · exact nm_throw (E := eIA) (tx := "no such value") (ik := 64) (is := 152) (ic := 68) S hfl hX (by decide) (by decide +kernel) kcl_64 kin_eIA (by decide) kat_eIA hl.1 ⟨(Nat.le_of_ble_eq_true rfl), (Nat.le_of_ble_eq_true rfl), (Nat.le_of_ble_eq_true rfl), (Nat.le_of_ble_eq_true rfl)⟩ (Nat.le_of_ble_eq_true rfl) hlocks hno dN_requireValue_10 dN_requireValue_13 dN_requireValue_14 dN_requireValue_16 dN_requireValue_19 (fun t q hW h => ⟨eIA, ⟨Or.inr (by rw [Int32.not_le] at c2; exact c2), rfl⟩, h⟩)
set_option maxHeartbeats 4000000 in
set_option maxRecDepth 100000 in
theorem cN_requireElement (l : Launch) (hfl : l.flags = pinnedFlags ++ [noTraceFlag]) (D : va_G) (cA cW : ClassId) (T : Nat → Nat) (hT : nvT T) (n : Nat → Nat) (g : Nat → Nat → Nat) (ok : nvOk n g) (x1 x2 : Int32) : ny_Met l yN_requireElement (Cond.code yN_requireElement bN_requireElement 3 none :: nzG) ({ frames := 7, cells := 1, slots := 6, locals := 110 }) (va_Pc [.ref (T 0), .int x1, .int x2] (nmP D cA cW (nvW cA cW T n g))) (nxQ (fun v st t => v = none ∧ t.heap = st.heap ∧ ¬ elB n x1 x2) (fun E => elB n x1 x2 ∧ E = eIO)) 0 0 1 6 (fun _ => False) := by
  refine nz_ofT (own := RN) (by decide) rfl ?_
  intro p e s m args below meth c S hr hlocks hno hv9
  obtain ⟨rfl, hP, hK, hX⟩ := hv9
  have hob0 := nv_ob0 hK hP
  have hS : va_S (nvA T) s.heap s.heap [] := va_S.rf
  have hx := S.1
  have hb := S.2.1
  refine nz_entry (vs := [.ref (T 0), .int x1, .int x2]) (n := 3) (lv := [(0, .ref (T 0)), (1, .int x1), (2, .int x2)]) (Nat.le_of_ble_eq_true rfl) rfl (fun ls hl => ?_)
  refine lv_iload_n hx hb dN_requireElement_0 rfl (lv_at hl 1 rfl) ?_
  refine nx_sv (As := [.int x1]) (rest := []) (post := ¬ plB x1) (exc := fun E => plB x1 ∧ E = eIO) S (cN_requirePlace l hfl x1) kN_20 ⟨rfl, rfl, Nat.le_of_ble_eq_true rfl, Nat.le_of_ble_eq_true rfl⟩ ⟨Nat.le_of_ble_eq_true rfl, Nat.le_of_ble_eq_true rfl⟩ nmX.bl (hX.at rfl) rfl hl.1 rfl (Nat.le_of_ble_eq_true rfl) dN_requireElement_1 hno hlocks (fun E h => ⟨Or.inl h.1, h.2⟩) (fun q1 => ?_)
  obtain ⟨j, hj, rfl⟩ := plB_not q1
  have ej : ix (nI j) = j := ix_nI (by omega)
  refine lv_iload_n hx hb dN_requireElement_4 rfl (lv_at hl 2 rfl) ?_
  refine lv_if_lt (tgt := 21) hx hb dN_requireElement_5 (by decide) (fun c2 => ?_) (fun c2 => ?_)
  · exact nm_throw (E := eIO) (tx := "no such element") (ik := 116) (is := 148) (ic := 120) S hfl hX (by decide) (by decide +kernel) kcl_116 kin_eIO (by decide) kat_eIO hl.1 ⟨(Nat.le_of_ble_eq_true rfl), (Nat.le_of_ble_eq_true rfl), (Nat.le_of_ble_eq_true rfl), (Nat.le_of_ble_eq_true rfl)⟩ (Nat.le_of_ble_eq_true rfl) hlocks hno dN_requireElement_21 dN_requireElement_24 dN_requireElement_25 dN_requireElement_27 dN_requireElement_30 (fun t q hW h => ⟨eIO, ⟨Or.inr (Or.inl c2), rfl⟩, h⟩)
  · refine lv_iload_n hx hb dN_requireElement_8 rfl (lv_at hl 2 rfl) ?_
    refine lv_aload_n hx hb dN_requireElement_9 rfl (lv_at hl 0 rfl) ?_
    refine nm_getP S hK hP dN_requireElement_10 ?_
    refine lv_iload_n hx hb dN_requireElement_13 rfl (lv_at hl 1 rfl) ?_
    refine nm_ald (j := j) hx hb hK hP hj dN_requireElement_14 ?_
    refine nm_getS S hX hK hP (Nat.lt_succ_of_lt hj) dN_requireElement_15 ?_
    refine lv_icmp_lt (tgt := 31) hx hb dN_requireElement_18 (by decide) (fun c3 => ?_) (fun c3 => ?_)
    · refine ny_ret ?_
      exact W.vret hx hb hr (fun t ht hW => ⟨rfl, ht, fun q => q.elim q1 (fun q => q.elim c2 (fun q => by rw [ej] at q; exact Int32.not_le.mpr c3 q))⟩) (fun q h => nomatch h) dN_requireElement_31
    · exact nm_throw (E := eIO) (tx := "no such element") (ik := 116) (is := 148) (ic := 120) S hfl hX (by decide) (by decide +kernel) kcl_116 kin_eIO (by decide) kat_eIO hl.1 ⟨(Nat.le_of_ble_eq_true rfl), (Nat.le_of_ble_eq_true rfl), (Nat.le_of_ble_eq_true rfl), (Nat.le_of_ble_eq_true rfl)⟩ (Nat.le_of_ble_eq_true rfl) hlocks hno dN_requireElement_21 dN_requireElement_24 dN_requireElement_25 dN_requireElement_27 dN_requireElement_30 (fun t q hW h => ⟨eIO, ⟨Or.inr (Or.inr (by rw [ej]; exact Int32.not_lt.mp c3)), rfl⟩, h⟩)
