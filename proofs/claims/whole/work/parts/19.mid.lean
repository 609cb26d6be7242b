set_option maxHeartbeats 4000000 in
set_option maxRecDepth 100000 in
theorem cN_bring (l : Launch) (hfl : l.flags = pinnedFlags ++ [noTraceFlag]) (D : va_G) (cA cW : ClassId) (T : Nat → Nat) (hT : nvT T) (n : Nat → Nat) (g : Nat → Nat → Nat) (ok : nvOk n g) (b1 : Nat) (hb1 : b1 < 2) (x2 x3 x4 : Int32) : ny_Met l yN_bring (Cond.code yN_bring bN_bring 6 none :: nzG) ({ frames := 7, cells := 1, slots := 6, locals := 110 }) (va_Pc [.ref (T 0), .int (nI b1), .int x2, .int x3, .int x4] (nmP D cA cW (nvW cA cW T n g))) (nxQ (fun v st t => v = none ∧ (kBring x2 x3 x4) = 0 ∧ (fun H9 : Heap => ∃ n9 g9, nvU 16 n g (ix x4) (ix x2) (fBring b1 (g (ix x3)) (n (ix x3))) n9 g9 ∧ va_P D vwCl (nvW cA cW T n9 g9) H9) t.heap ∧ va_F (nvA T) st t) (exK exI (kBring x2 x3 x4))) 0 0 1 6 (nvA T) := by
  refine nz_ofT (own := RN) (by decide) rfl ?_
  intro p e s m args below meth c S hr hlocks hno hv9
  obtain ⟨rfl, hP, hK, hX⟩ := hv9
  have hob0 := nv_ob0 hK hP
  have hS : va_S (nvA T) s.heap s.heap [] := va_S.rf
  have hx := S.1
  have hb := S.2.1
  refine nz_entry (vs := [.ref (T 0), .int (nI b1), .int x2, .int x3, .int x4]) (n := 6) (lv := [(0, .ref (T 0)), (1, .int (nI b1)), (2, .int x2), (3, .int x3), (4, .int x4)]) (Nat.le_of_ble_eq_true rfl) rfl (fun ls hl => ?_)
  refine lv_iload_n hx hb dN_bring_0 rfl (lv_at hl 3 rfl) ?_
  refine nx_sv (As := [.int x3]) (rest := []) (post := ¬ plB x3) (exc := fun E => plB x3 ∧ E = eIO) S (cN_requirePlace l hfl x3) kN_20 ⟨rfl, rfl, Nat.le_of_ble_eq_true rfl, Nat.le_of_ble_eq_true rfl⟩ ⟨Nat.le_of_ble_eq_true rfl, Nat.le_of_ble_eq_true rfl⟩ nmX.bl (hX.at rfl) rfl hl.1 rfl (Nat.le_of_ble_eq_true rfl) dN_bring_1 hno hlocks (fun E h => exK_of (k := 1) (if_pos (Or.inl h.1)) (by decide) h.2) (fun q1 => ?_)
  refine lv_iload hx hb dN_bring_4 (lv_at hl 4 rfl) ?_
  refine nx_sv (As := [.int x4]) (rest := []) (post := ¬ plB x4) (exc := fun E => plB x4 ∧ E = eIO) S (cN_requirePlace l hfl x4) kN_20 ⟨rfl, rfl, Nat.le_of_ble_eq_true rfl, Nat.le_of_ble_eq_true rfl⟩ ⟨Nat.le_of_ble_eq_true rfl, Nat.le_of_ble_eq_true rfl⟩ nmX.bl (hX.at rfl) rfl hl.1 rfl (Nat.le_of_ble_eq_true rfl) dN_bring_6 hno hlocks (fun E h => exK_of (k := 1) (if_pos (Or.inr h.1)) (by decide) h.2) (fun q2 => ?_)
  refine lv_iload_n hx hb dN_bring_9 rfl (lv_at hl 2 rfl) ?_
  refine nx_sv (As := [.int x2]) (rest := []) (post := ¬ lenB x2) (exc := fun E => lenB x2 ∧ E = eIA) S (cN_requireLength l hfl x2) kN_24 ⟨rfl, rfl, Nat.le_of_ble_eq_true rfl, Nat.le_of_ble_eq_true rfl⟩ ⟨Nat.le_of_ble_eq_true rfl, Nat.le_of_ble_eq_true rfl⟩ nmX.bl (hX.at rfl) rfl hl.1 rfl (Nat.le_of_ble_eq_true rfl) dN_bring_10 hno hlocks (fun E h => exK_of (k := 2) (by unfold kBring; rw [if_neg (fun h => h.elim q1 q2), if_pos h.1]) (by decide) h.2) (fun q3 => ?_)
  have hk0 : kBring x2 x3 x4 = 0 := by unfold kBring; rw [if_neg (fun h => h.elim q1 q2), if_neg q3]
  obtain ⟨a, ha, rfl⟩ := plB_not q1
  have ea : ix (nI a) = a := ix_nI (by omega)
  obtain ⟨u, hu, rfl⟩ := plB_not q2
  have eu : ix (nI u) = u := ix_nI (by omega)
  obtain ⟨N, hN, rfl⟩ := lenB_not q3
  have eN : ix (nI N) = N := ix_nI (by omega)
  have hna := ok.1 a
  refine lv_aload_n hx hb dN_bring_13 rfl (lv_at hl 0 rfl) ?_
  refine nm_getP S hK hP dN_bring_14 ?_
  refine lv_iload_n hx hb dN_bring_17 rfl (lv_at hl 3 rfl) ?_
  refine nm_ald (j := a) hx hb hK hP ha dN_bring_18 ?_
  refine lv_astore (lv' := [(5, .ref (T (2 + a))), (0, .ref (T 0)), (1, .int (nI b1)), (2, .int (nI N)), (3, .int (nI a)), (4, .int (nI u))]) hx hb dN_bring_19 hl (by decide) rfl (fun ls hl => ?_)
  refine lv_aload_n hx hb dN_bring_21 rfl (lv_at hl 1 rfl) ?_
  refine nm_getA S hK hP dN_bring_22 ?_
  refine lv_iload_n hx hb dN_bring_25 rfl (lv_at hl 3 rfl) ?_
  refine lv_iload_n hx hb dN_bring_26 rfl (lv_at hl 2 rfl) ?_
  refine lv_if_eq (tgt := 38) hx hb dN_bring_27 (by decide) (fun c4 => ?_) (fun c4 => ?_)
  · have mc4 : b1 = 0 := (nI_eq (a := b1) (b := 0) (by omega) (by omega)).mp c4
    refine lv_iconst (v := 2) hx hb dN_bring_38 (by decide) ?_
    refine nv_call (As := [.int (nI N), .int 2]) (rest := []) S (c_Word_become l D cA cW T hT n g 16 (by decide) N hN 2) kN_30 ⟨rfl, rfl, Nat.le_of_ble_eq_true rfl, Nat.le_of_ble_eq_true rfl⟩ ⟨Nat.zero_le _, Nat.zero_le _⟩ (nv_ob hK hP (by decide)) hP hK hS rfl hl.1 rfl (Nat.le_of_ble_eq_true rfl) dN_bring_39 (fun H locs hP hS => ?_)
    obtain ⟨n1, g1, u1, hP⟩ : ∃ n9 g9, nvU 17 n g 16 N (fun _ => 2) n9 g9 ∧ va_P D vwCl (nvW cA cW T n9 g9) H := ⟨_, _, nvU_lay ok hN (fun _ _ => (by decide)), hP⟩
    refine lv_aload_n hx hb dN_bring_42 rfl (lv_at hl 1 rfl) ?_
    refine nm_getA S hK hP dN_bring_43 ?_
    refine lv_aload hx hb dN_bring_46 (lv_at hl 0 rfl) ?_
    refine lv_iconst (v := 0) hx hb dN_bring_48 (by decide) ?_
    refine lv_iload_n hx hb dN_bring_49 rfl (lv_at hl 3 rfl) ?_
    refine lv_aload hx hb dN_bring_50 (lv_at hl 0 rfl) ?_
    refine nm_getS S hX hK hP (Nat.lt_succ_of_lt ha) dN_bring_52 ?_
    refine nz_eqi (y := nI (n a)) (by rw [(u1.2.2.1 a (by omega) (by omega)).1]) ?_
    refine va_mmin hx hb (S.2.2.1.trans hl.1.symm) S.2.2.2.1 (S.2.2.2.2 _ kN_min.1) (S.2.2.2.2 _ kN_min.2.1) (S.2.2.2.2 _ kN_min.2.2.1) (S.2.2.2.2 _ kN_min.2.2.2) (Nat.le_of_ble_eq_true rfl) (Nat.le_of_ble_eq_true rfl) (Nat.zero_le _) (Nat.zero_le _) dN_bring_55 ?_
    refine nz_eqi (nI_min N (n a) (by omega) (by omega)) ?_
    refine lv_iconst (v := 0) hx hb dN_bring_58 (by decide) ?_
    refine nv_call (As := [.ref (T (2 + a)), .int (nI 0), .int (nI (min N (n a))), .int (nI 0)]) (rest := []) S (c_Word_lay l D cA cW T hT n1 g1 16 (by decide) a (Nat.lt_succ_of_lt ha) (by omega) 0 (min N (n a)) 0 (by omega) (by omega)) kN_112 ⟨rfl, rfl, Nat.le_of_ble_eq_true rfl, Nat.le_of_ble_eq_true rfl⟩ ⟨Nat.zero_le _, Nat.zero_le _⟩ (nv_ob hK hP (by decide)) hP hK hS rfl hl.1 rfl (Nat.le_of_ble_eq_true rfl) dN_bring_59 (fun H locs hP hS => ?_)
    obtain ⟨g2, u2, hP⟩ : ∃ g9, nvU 17 n g 16 N (fun x => if 0 ≤ x ∧ x < 0 + min N (n a) then g a (0 + (x - 0)) else 2) n1 g9 ∧ va_P D vwCl (nvW cA cW T n1 g9) H := ⟨_, nvU_on u1 (by omega) (by omega), hP⟩
    refine lv_aload_n hx hb dN_bring_62 rfl (lv_at hl 1 rfl) ?_
    refine nm_getP S hK hP dN_bring_63 ?_
    refine lv_iload hx hb dN_bring_66 (lv_at hl 5 rfl) ?_
    refine nm_ald (j := u) hx hb hK hP hu dN_bring_68 ?_
    refine lv_aload_n hx hb dN_bring_69 rfl (lv_at hl 1 rfl) ?_
    refine nm_getA S hK hP dN_bring_70 ?_
    refine nv_call (As := [.ref (T (2 + 16))]) (rest := []) S (c_Word_copy l D cA cW T hT n1 g2 u (Nat.lt_succ_of_lt hu) 16 (by decide) (by omega) (u2.2.2.2.1 16)) kN_81 ⟨rfl, rfl, Nat.le_of_ble_eq_true rfl, Nat.le_of_ble_eq_true rfl⟩ ⟨Nat.zero_le _, Nat.zero_le _⟩ (nv_ob hK hP (Nat.lt_succ_of_lt hu)) hP hK hS rfl hl.1 rfl (Nat.le_of_ble_eq_true rfl) dN_bring_73 (fun H locs hP hS => ?_)
    have hF : ∀ k, k < N → (if 0 ≤ k ∧ k < 0 + min N (n a) then g a (0 + (k - 0)) else 2) = fBring b1 (g a) (n a) k := by
      intro k hk
      unfold fBring
      by_cases hc : k < n a
      · rw [if_pos ⟨Nat.zero_le _, by omega⟩, if_pos hc, Nat.zero_add, Nat.sub_zero]
      · rw [if_neg (fun q => hc (by omega)), if_neg hc, if_neg (by omega)]
    refine ny_ret ?_
    exact W.vret hx hb hr (fun t ht hW => ⟨rfl, hk0, ⟨va_up n1 u (n1 16), va_up g2 u (pov (g2 16) (g2 u) 0 (n1 16)), by rw [eu]; exact nvU_eq (nvU_fin u2 hu) (by rw [eN]) (by rw [ea, eN]; exact hF), by rw [ht]; exact hP⟩, hS.F ht⟩) hS.2.2 dN_bring_76
  · have mc4 : ¬ b1 = 0 := fun h => c4 ((nI_eq (a := b1) (b := 0) (by omega) (by omega)).mpr h)
    refine lv_aload hx hb dN_bring_30 (lv_at hl 0 rfl) ?_
    refine nz_vi (As := []) (rest := [.int (nI N), .ref (T (2 + 16))]) S (c_Word_last l D cA cW T hT n g a (Nat.lt_succ_of_lt ha) (ok.1 a)) kN_102 ⟨rfl, rfl, Nat.le_of_ble_eq_true rfl, Nat.le_of_ble_eq_true rfl⟩ ⟨Nat.zero_le _, Nat.zero_le _⟩ nvP.bl (nv_ob hK hP (Nat.lt_succ_of_lt ha)) (nvP.to hP hK) rfl hl.1 rfl (Nat.le_of_ble_eq_true rfl) dN_bring_32 (fun r5 er5 => ?_)
    subst er5
    refine lv_goto (tgt := 39) hx hb dN_bring_35 (by decide) ?_
    refine nv_call (As := [.int (nI N), .int (nI (zLast (g a) (n a)))]) (rest := []) S (c_Word_become l D cA cW T hT n g 16 (by decide) N hN (zLast (g a) (n a))) kN_30 ⟨rfl, rfl, Nat.le_of_ble_eq_true rfl, Nat.le_of_ble_eq_true rfl⟩ ⟨Nat.zero_le _, Nat.zero_le _⟩ (nv_ob hK hP (by decide)) hP hK hS rfl hl.1 rfl (Nat.le_of_ble_eq_true rfl) dN_bring_39 (fun H locs hP hS => ?_)
    obtain ⟨n1, g1, u1, hP⟩ : ∃ n9 g9, nvU 17 n g 16 N (fun _ => zLast (g a) (n a)) n9 g9 ∧ va_P D vwCl (nvW cA cW T n9 g9) H := ⟨_, _, nvU_lay ok hN (fun _ _ => (zLast_lt (ok.2 a) _)), hP⟩
    refine lv_aload_n hx hb dN_bring_42 rfl (lv_at hl 1 rfl) ?_
    refine nm_getA S hK hP dN_bring_43 ?_
    refine lv_aload hx hb dN_bring_46 (lv_at hl 0 rfl) ?_
    refine lv_iconst (v := 0) hx hb dN_bring_48 (by decide) ?_
    refine lv_iload_n hx hb dN_bring_49 rfl (lv_at hl 3 rfl) ?_
    refine lv_aload hx hb dN_bring_50 (lv_at hl 0 rfl) ?_
    refine nm_getS S hX hK hP (Nat.lt_succ_of_lt ha) dN_bring_52 ?_
    refine nz_eqi (y := nI (n a)) (by rw [(u1.2.2.1 a (by omega) (by omega)).1]) ?_
    refine va_mmin hx hb (S.2.2.1.trans hl.1.symm) S.2.2.2.1 (S.2.2.2.2 _ kN_min.1) (S.2.2.2.2 _ kN_min.2.1) (S.2.2.2.2 _ kN_min.2.2.1) (S.2.2.2.2 _ kN_min.2.2.2) (Nat.le_of_ble_eq_true rfl) (Nat.le_of_ble_eq_true rfl) (Nat.zero_le _) (Nat.zero_le _) dN_bring_55 ?_
    refine nz_eqi (nI_min N (n a) (by omega) (by omega)) ?_
    refine lv_iconst (v := 0) hx hb dN_bring_58 (by decide) ?_
    refine nv_call (As := [.ref (T (2 + a)), .int (nI 0), .int (nI (min N (n a))), .int (nI 0)]) (rest := []) S (c_Word_lay l D cA cW T hT n1 g1 16 (by decide) a (Nat.lt_succ_of_lt ha) (by omega) 0 (min N (n a)) 0 (by omega) (by omega)) kN_112 ⟨rfl, rfl, Nat.le_of_ble_eq_true rfl, Nat.le_of_ble_eq_true rfl⟩ ⟨Nat.zero_le _, Nat.zero_le _⟩ (nv_ob hK hP (by decide)) hP hK hS rfl hl.1 rfl (Nat.le_of_ble_eq_true rfl) dN_bring_59 (fun H locs hP hS => ?_)
    obtain ⟨g2, u2, hP⟩ : ∃ g9, nvU 17 n g 16 N (fun x => if 0 ≤ x ∧ x < 0 + min N (n a) then g a (0 + (x - 0)) else zLast (g a) (n a)) n1 g9 ∧ va_P D vwCl (nvW cA cW T n1 g9) H := ⟨_, nvU_on u1 (by omega) (by omega), hP⟩
    refine lv_aload_n hx hb dN_bring_62 rfl (lv_at hl 1 rfl) ?_
    refine nm_getP S hK hP dN_bring_63 ?_
    refine lv_iload hx hb dN_bring_66 (lv_at hl 5 rfl) ?_
    refine nm_ald (j := u) hx hb hK hP hu dN_bring_68 ?_
    refine lv_aload_n hx hb dN_bring_69 rfl (lv_at hl 1 rfl) ?_
    refine nm_getA S hK hP dN_bring_70 ?_
    refine nv_call (As := [.ref (T (2 + 16))]) (rest := []) S (c_Word_copy l D cA cW T hT n1 g2 u (Nat.lt_succ_of_lt hu) 16 (by decide) (by omega) (u2.2.2.2.1 16)) kN_81 ⟨rfl, rfl, Nat.le_of_ble_eq_true rfl, Nat.le_of_ble_eq_true rfl⟩ ⟨Nat.zero_le _, Nat.zero_le _⟩ (nv_ob hK hP (Nat.lt_succ_of_lt hu)) hP hK hS rfl hl.1 rfl (Nat.le_of_ble_eq_true rfl) dN_bring_73 (fun H locs hP hS => ?_)
    have hF : ∀ k, k < N → (if 0 ≤ k ∧ k < 0 + min N (n a) then g a (0 + (k - 0)) else zLast (g a) (n a)) = fBring b1 (g a) (n a) k := by
      intro k hk
      unfold fBring
      by_cases hc : k < n a
      · rw [if_pos ⟨Nat.zero_le _, by omega⟩, if_pos hc, Nat.zero_add, Nat.sub_zero]
      · rw [if_neg (fun q => hc (by omega)), if_neg hc, if_pos (by omega)]
    refine ny_ret ?_
    exact W.vret hx hb hr (fun t ht hW => ⟨rfl, hk0, ⟨va_up n1 u (n1 16), va_up g2 u (pov (g2 16) (g2 u) 0 (n1 16)), by rw [eu]; exact nvU_eq (nvU_fin u2 hu) (by rw [eN]) (by rw [ea, eN]; exact hF), by rw [ht]; exact hP⟩, hS.F ht⟩) hS.2.2 dN_bring_76
set_option maxHeartbeats 4000000 in
set_option maxRecDepth 100000 in
theorem cN_cut (l : Launch) (hfl : l.flags = pinnedFlags ++ [noTraceFlag]) (D : va_G) (cA cW : ClassId) (T : Nat → Nat) (hT : nvT T) (n : Nat → Nat) (g : Nat → Nat → Nat) (ok : nvOk n g) (x1 x2 x3 x4 : Int32) : ny_Met l yN_cut (Cond.code yN_cut bN_cut 6 none :: nzG) ({ frames := 7, cells := 1, slots := 6, locals := 110 }) (va_Pc [.ref (T 0), .int x1, .int x2, .int x3, .int x4] (nmP D cA cW (nvW cA cW T n g))) (nxQ (fun v st t => v = none ∧ (kCut n x1 x2 x3 x4) = 0 ∧ (fun H9 : Heap => ∃ n9 g9, nvU 16 n g (ix x4) (ix x2) (fun i => g (ix x3) (ix x1 + i)) n9 g9 ∧ va_P D vwCl (nvW cA cW T n9 g9) H9) t.heap ∧ va_F (nvA T) st t) (exK exI (kCut n x1 x2 x3 x4))) 0 0 1 6 (nvA T) := by
  refine nz_ofT (own := RN) (by decide) rfl ?_
  intro p e s m args below meth c S hr hlocks hno hv9
  obtain ⟨rfl, hP, hK, hX⟩ := hv9
  have hob0 := nv_ob0 hK hP
  have hS : va_S (nvA T) s.heap s.heap [] := va_S.rf
  have hx := S.1
  have hb := S.2.1
  refine nz_entry (vs := [.ref (T 0), .int x1, .int x2, .int x3, .int x4]) (n := 6) (lv := [(0, .ref (T 0)), (1, .int x1), (2, .int x2), (3, .int x3), (4, .int x4)]) (Nat.le_of_ble_eq_true rfl) rfl (fun ls hl => ?_)
  refine lv_iload_n hx hb dN_cut_0 rfl (lv_at hl 3 rfl) ?_
  refine nx_sv (As := [.int x3]) (rest := []) (post := ¬ plB x3) (exc := fun E => plB x3 ∧ E = eIO) S (cN_requirePlace l hfl x3) kN_20 ⟨rfl, rfl, Nat.le_of_ble_eq_true rfl, Nat.le_of_ble_eq_true rfl⟩ ⟨Nat.le_of_ble_eq_true rfl, Nat.le_of_ble_eq_true rfl⟩ nmX.bl (hX.at rfl) rfl hl.1 rfl (Nat.le_of_ble_eq_true rfl) dN_cut_1 hno hlocks (fun E h => exK_of (k := 1) (if_pos (Or.inl h.1)) (by decide) h.2) (fun q1 => ?_)
  refine lv_iload hx hb dN_cut_4 (lv_at hl 4 rfl) ?_
  refine nx_sv (As := [.int x4]) (rest := []) (post := ¬ plB x4) (exc := fun E => plB x4 ∧ E = eIO) S (cN_requirePlace l hfl x4) kN_20 ⟨rfl, rfl, Nat.le_of_ble_eq_true rfl, Nat.le_of_ble_eq_true rfl⟩ ⟨Nat.le_of_ble_eq_true rfl, Nat.le_of_ble_eq_true rfl⟩ nmX.bl (hX.at rfl) rfl hl.1 rfl (Nat.le_of_ble_eq_true rfl) dN_cut_6 hno hlocks (fun E h => exK_of (k := 1) (if_pos (Or.inr (Or.inl h.1))) (by decide) h.2) (fun q2 => ?_)
  obtain ⟨a, ha, rfl⟩ := plB_not q1
  have ea : ix (nI a) = a := ix_nI (by omega)
  obtain ⟨u, hu, rfl⟩ := plB_not q2
  have eu : ix (nI u) = u := ix_nI (by omega)
  have hna := ok.1 a
  refine lv_aload_n hx hb dN_cut_9 rfl (lv_at hl 0 rfl) ?_
  refine nm_getP S hK hP dN_cut_10 ?_
  refine lv_iload_n hx hb dN_cut_13 rfl (lv_at hl 3 rfl) ?_
  refine nm_ald (j := a) hx hb hK hP ha dN_cut_14 ?_
  refine lv_astore (lv' := [(5, .ref (T (2 + a))), (0, .ref (T 0)), (1, .int x1), (2, .int x2), (3, .int (nI a)), (4, .int (nI u))]) hx hb dN_cut_15 hl (by decide) rfl (fun ls hl => ?_)
  refine lv_iload_n hx hb dN_cut_17 rfl (lv_at hl 2 rfl) ?_
  refine lv_if_lt (tgt := 45) hx hb dN_cut_18 (by decide) (fun c3 => ?_) (fun c3 => ?_)
  · exact nm_throw (E := eIO) (tx := "the word has no such elements") (ik := 116) (is := 118) (ic := 120) S hfl hX (by decide) (by decide +kernel) kcl_116 kin_eIO (by decide) kat_eIO hl.1 ⟨(Nat.le_of_ble_eq_true rfl), (Nat.le_of_ble_eq_true rfl), (Nat.le_of_ble_eq_true rfl), (Nat.le_of_ble_eq_true rfl)⟩ (Nat.le_of_ble_eq_true rfl) hlocks hno dN_cut_45 dN_cut_48 dN_cut_49 dN_cut_51 dN_cut_54 (fun t q hW h => ⟨eIO, exK_of (k := 1) (if_pos (Or.inr (Or.inr (Or.inl c3)))) (by decide) rfl, h⟩)
  · refine lv_iload_n hx hb dN_cut_21 rfl (lv_at hl 2 rfl) ?_
    refine lv_aload hx hb dN_cut_22 (lv_at hl 0 rfl) ?_
    refine nm_getS S hX hK hP (Nat.lt_succ_of_lt ha) dN_cut_24 ?_
    refine lv_icmp_gt (tgt := 45) hx hb dN_cut_27 (by decide) (fun c4 => ?_) (fun c4 => ?_)
    · exact nm_throw (E := eIO) (tx := "the word has no such elements") (ik := 116) (is := 118) (ic := 120) S hfl hX (by decide) (by decide +kernel) kcl_116 kin_eIO (by decide) kat_eIO hl.1 ⟨(Nat.le_of_ble_eq_true rfl), (Nat.le_of_ble_eq_true rfl), (Nat.le_of_ble_eq_true rfl), (Nat.le_of_ble_eq_true rfl)⟩ (Nat.le_of_ble_eq_true rfl) hlocks hno dN_cut_45 dN_cut_48 dN_cut_49 dN_cut_51 dN_cut_54 (fun t q hW h => ⟨eIO, exK_of (k := 1) (if_pos (Or.inr (Or.inr (Or.inr (Or.inl (by rw [ea]; exact c4)))))) (by decide) rfl, h⟩)
    · refine lv_iload_n hx hb dN_cut_30 rfl (lv_at hl 3 rfl) ?_
      refine lv_if_lt (tgt := 45) hx hb dN_cut_31 (by decide) (fun c5 => ?_) (fun c5 => ?_)
      · exact nm_throw (E := eIO) (tx := "the word has no such elements") (ik := 116) (is := 118) (ic := 120) S hfl hX (by decide) (by decide +kernel) kcl_116 kin_eIO (by decide) kat_eIO hl.1 ⟨(Nat.le_of_ble_eq_true rfl), (Nat.le_of_ble_eq_true rfl), (Nat.le_of_ble_eq_true rfl), (Nat.le_of_ble_eq_true rfl)⟩ (Nat.le_of_ble_eq_true rfl) hlocks hno dN_cut_45 dN_cut_48 dN_cut_49 dN_cut_51 dN_cut_54 (fun t q hW h => ⟨eIO, exK_of (k := 1) (if_pos (Or.inr (Or.inr (Or.inr (Or.inr (Or.inl c5)))))) (by decide) rfl, h⟩)
      · refine lv_iload_n hx hb dN_cut_34 rfl (lv_at hl 3 rfl) ?_
        refine lv_aload hx hb dN_cut_35 (lv_at hl 0 rfl) ?_
        refine nm_getS S hX hK hP (Nat.lt_succ_of_lt ha) dN_cut_37 ?_
        refine lv_iload_n hx hb dN_cut_40 rfl (lv_at hl 2 rfl) ?_
        refine lv_isub hx hb dN_cut_41 ?_
        refine lv_icmp_le (tgt := 55) hx hb dN_cut_42 (by decide) (fun c6 => ?_) (fun c6 => ?_)
        · have hk0 : kCut n x1 x2 (nI a) (nI u) = 0 := by
            refine if_neg ?_
            rw [ea]
            rintro (h | h | h | h | h | h)
            · exact q1 h
            · exact q2 h
            · exact c3 h
            · exact c4 h
            · exact c5 h
            · exact Int32.not_lt.mpr c6 h
          obtain ⟨k, hk, rfl⟩ := in_not' (N := n a) (x := x1) rfl (by omega) (fun h => h.elim c3 c4)
          have c6' : x2 ≤ nI (n a - k) := by rw [← pk_sub hk]; exact c6
          obtain ⟨N, hN, rfl⟩ := in_not' (N := n a - k) (x := x2) rfl (by omega) (fun h => h.elim c5 (fun q => Int32.not_le.mpr q c6'))
          have ek : ix (nI k) = k := ix_nI (by omega)
          have eN : ix (nI N) = N := ix_nI (by omega)
          refine lv_aload_n hx hb dN_cut_55 rfl (lv_at hl 1 rfl) ?_
          refine nm_getA S hK hP dN_cut_56 ?_
          refine lv_iload_n hx hb dN_cut_59 rfl (lv_at hl 3 rfl) ?_
          refine nm_putS (N := N) S hX hT hK hP hS (by decide) dN_cut_60 (fun H locs hP hS => ?_)
          obtain ⟨n1, g1, u1, hP⟩ : ∃ n9 g9, nvU 17 n g 16 N (g 16) n9 g9 ∧ va_P D vwCl (nvW cA cW T n9 g9) H := ⟨_, _, nvU_size ok (by omega), hP⟩
          refine lv_aload_n hx hb dN_cut_63 rfl (lv_at hl 1 rfl) ?_
          refine nm_getA S hK hP dN_cut_64 ?_
          refine lv_aload hx hb dN_cut_67 (lv_at hl 0 rfl) ?_
          refine lv_iload_n hx hb dN_cut_69 rfl (lv_at hl 2 rfl) ?_
          refine lv_iload_n hx hb dN_cut_70 rfl (lv_at hl 3 rfl) ?_
          refine lv_iconst (v := 0) hx hb dN_cut_71 (by decide) ?_
          refine nv_call (As := [.ref (T (2 + a)), .int (nI k), .int (nI N), .int (nI 0)]) (rest := []) S (c_Word_lay l D cA cW T hT n1 g1 16 (by decide) a (Nat.lt_succ_of_lt ha) (by omega) k N 0 (by omega) (by omega)) kN_112 ⟨rfl, rfl, Nat.le_of_ble_eq_true rfl, Nat.le_of_ble_eq_true rfl⟩ ⟨Nat.zero_le _, Nat.zero_le _⟩ (nv_ob hK hP (by decide)) hP hK hS rfl hl.1 rfl (Nat.le_of_ble_eq_true rfl) dN_cut_72 (fun H locs hP hS => ?_)
          obtain ⟨g2, u2, hP⟩ : ∃ g9, nvU 17 n g 16 N (fun x => if 0 ≤ x ∧ x < 0 + N then g a (k + (x - 0)) else g 16 x) n1 g9 ∧ va_P D vwCl (nvW cA cW T n1 g9) H := ⟨_, nvU_on u1 (by omega) (by omega), hP⟩
          refine lv_aload_n hx hb dN_cut_75 rfl (lv_at hl 1 rfl) ?_
          refine nm_getP S hK hP dN_cut_76 ?_
          refine lv_iload hx hb dN_cut_79 (lv_at hl 5 rfl) ?_
          refine nm_ald (j := u) hx hb hK hP hu dN_cut_81 ?_
          refine lv_aload_n hx hb dN_cut_82 rfl (lv_at hl 1 rfl) ?_
          refine nm_getA S hK hP dN_cut_83 ?_
          refine nv_call (As := [.ref (T (2 + 16))]) (rest := []) S (c_Word_copy l D cA cW T hT n1 g2 u (Nat.lt_succ_of_lt hu) 16 (by decide) (by omega) (u2.2.2.2.1 16)) kN_81 ⟨rfl, rfl, Nat.le_of_ble_eq_true rfl, Nat.le_of_ble_eq_true rfl⟩ ⟨Nat.zero_le _, Nat.zero_le _⟩ (nv_ob hK hP (Nat.lt_succ_of_lt hu)) hP hK hS rfl hl.1 rfl (Nat.le_of_ble_eq_true rfl) dN_cut_86 (fun H locs hP hS => ?_)
          refine ny_ret ?_
          exact W.vret hx hb hr (fun t ht hW => ⟨rfl, hk0, ⟨va_up n1 u (n1 16), va_up g2 u (pov (g2 16) (g2 u) 0 (n1 16)), by rw [eu]; exact nvU_eq (nvU_fin u2 hu) (by rw [eN]) (by rw [ea, eN, ek]; intro x hx; rw [if_pos ⟨Nat.zero_le _, by omega⟩, Nat.sub_zero]), by rw [ht]; exact hP⟩, hS.F ht⟩) hS.2.2 dN_cut_89
        · exact nm_throw (E := eIO) (tx := "the word has no such elements") (ik := 116) (is := 118) (ic := 120) S hfl hX (by decide) (by decide +kernel) kcl_116 kin_eIO (by decide) kat_eIO hl.1 ⟨(Nat.le_of_ble_eq_true rfl), (Nat.le_of_ble_eq_true rfl), (Nat.le_of_ble_eq_true rfl), (Nat.le_of_ble_eq_true rfl)⟩ (Nat.le_of_ble_eq_true rfl) hlocks hno dN_cut_45 dN_cut_48 dN_cut_49 dN_cut_51 dN_cut_54 (fun t q hW h => ⟨eIO, exK_of (k := 1) (if_pos (Or.inr (Or.inr (Or.inr (Or.inr (Or.inr (by rw [ea]; exact Int32.not_le.mp c6))))))) (by decide) rfl, h⟩)
set_option maxHeartbeats 4000000 in
set_option maxRecDepth 100000 in
theorem cN_isBelowUnsigned (l : Launch) (a b : Nat) (ha : a < 2 ^ 64) (hb9 : b < 2 ^ 64) : Met l yN_isBelowUnsigned (Cond.code yN_isBelowUnsigned bN_isBelowUnsigned 4 (some .boolean) :: nzG) ({ frames := 0, cells := 0, slots := 0, locals := 0 }) (va_Pc [.long (lN a), .long (lN b)] (fun _ => True)) (vp_Si (fun r => r = nI (if a < b then 1 else 0))) 0 0 (fun _ => False) := by
  refine nz_of (own := RN) (by decide) rfl ?_
  intro p e s m args below meth c S hr hlocks _ hv9
  obtain ⟨rfl, -⟩ := hv9
  have hx := S.1
  have hb := S.2.1
  refine nz_entry (vs := [.long (lN a), .long (lN b)]) (n := 4) (lv := [(0, .long (lN a)), (2, .long (lN b))]) (Nat.le_of_ble_eq_true rfl) rfl (fun ls hl => ?_)
  refine lv_lload_n hx hb dN_isBelowUnsigned_0 rfl (lv_at hl 0 rfl) ?_
  refine lv_ldc2 (v := (-9223372036854775808)) hx hb S.2.2.2.1 (S.2.2.2.2 _ kN_c188) dN_isBelowUnsigned_1 ?_
  refine lv_lxor hx hb dN_isBelowUnsigned_4 ?_
  refine lv_lload_n hx hb dN_isBelowUnsigned_5 rfl (lv_at hl 1 rfl) ?_
  refine lv_ldc2 (v := (-9223372036854775808)) hx hb S.2.2.2.1 (S.2.2.2.2 _ kN_c188) dN_isBelowUnsigned_6 ?_
  refine lv_lxor hx hb dN_isBelowUnsigned_9 ?_
  refine W.lcmp hx hb dN_isBelowUnsigned_10 ?_
  refine lv_if_ge (tgt := 18) hx hb dN_isBelowUnsigned_11 (by decide) (fun c1 => ?_) (fun c1 => ?_)
  · refine lv_iconst (v := 0) hx hb dN_isBelowUnsigned_18 (by decide) ?_
    exact W.zret (v := 0) hx hb hr rfl (fun t ht hW => ⟨_, rfl, by rw [if_neg (fun q => absurd ((ultL ha hb9).mp ((lg_cmp_ge _ _).mp c1)) (by omega))]; rfl, ht⟩) (fun q h => nomatch h) dN_isBelowUnsigned_19
  · refine lv_iconst (v := 1) hx hb dN_isBelowUnsigned_14 (by decide) ?_
    refine lv_goto (tgt := 19) hx hb dN_isBelowUnsigned_15 (by decide) ?_
    exact W.zret (v := 1) hx hb hr rfl (fun t ht hW => ⟨_, rfl, by rw [if_pos (Nat.lt_of_not_le (fun q => c1 ((lg_cmp_ge _ _).mpr ((ultL ha hb9).mpr q))))]; rfl, ht⟩) (fun q h => nomatch h) dN_isBelowUnsigned_19
set_option maxHeartbeats 4000000 in
set_option maxRecDepth 100000 in
theorem cN_compare (l : Launch) (hfl : l.flags = pinnedFlags ++ [noTraceFlag]) (D : va_G) (cA cW : ClassId) (T : Nat → Nat) (hT : nvT T) (n : Nat → Nat) (g : Nat → Nat → Nat) (ok : nvOk n g) (b1 : Nat) (hb1 : b1 < 2) (x2 x3 : Int32) : ny_Met l yN_compare (Cond.code yN_compare bN_compare 8 (some .int) :: nzG) ({ frames := 7, cells := 1, slots := 6, locals := 110 }) (va_Pc [.ref (T 0), .int (nI b1), .int x2, .int x3] (nmP D cA cW (nvW cA cW T n g))) (nxQ (fun v st t => (kPl2 x2 x3) = 0 ∧ v = some (.int (zCompare b1 (g (ix x2)) (n (ix x2)) (g (ix x3)) (n (ix x3)))) ∧ t.heap = st.heap) (exK exI (kPl2 x2 x3))) 0 0 1 6 (fun _ => False) := by
  refine nz_ofT (own := RN) (by decide) rfl ?_
  intro p e s m args below meth c S hr hlocks hno hv9
  obtain ⟨rfl, hP, hK, hX⟩ := hv9
  have hob0 := nv_ob0 hK hP
  have hS : va_S (nvA T) s.heap s.heap [] := va_S.rf
  have hx := S.1
  have hb := S.2.1
  refine nz_entry (vs := [.ref (T 0), .int (nI b1), .int x2, .int x3]) (n := 8) (lv := [(0, .ref (T 0)), (1, .int (nI b1)), (2, .int x2), (3, .int x3)]) (Nat.le_of_ble_eq_true rfl) rfl (fun ls hl => ?_)
  refine lv_iload_n hx hb dN_compare_0 rfl (lv_at hl 2 rfl) ?_
  refine nx_sv (As := [.int x2]) (rest := []) (post := ¬ plB x2) (exc := fun E => plB x2 ∧ E = eIO) S (cN_requirePlace l hfl x2) kN_20 ⟨rfl, rfl, Nat.le_of_ble_eq_true rfl, Nat.le_of_ble_eq_true rfl⟩ ⟨Nat.le_of_ble_eq_true rfl, Nat.le_of_ble_eq_true rfl⟩ nmX.bl (hX.at rfl) rfl hl.1 rfl (Nat.le_of_ble_eq_true rfl) dN_compare_1 hno hlocks (fun E h => exK_of (k := 1) (if_pos (Or.inl h.1)) (by decide) h.2) (fun q1 => ?_)
  refine lv_iload_n hx hb dN_compare_4 rfl (lv_at hl 3 rfl) ?_
  refine nx_sv (As := [.int x3]) (rest := []) (post := ¬ plB x3) (exc := fun E => plB x3 ∧ E = eIO) S (cN_requirePlace l hfl x3) kN_20 ⟨rfl, rfl, Nat.le_of_ble_eq_true rfl, Nat.le_of_ble_eq_true rfl⟩ ⟨Nat.le_of_ble_eq_true rfl, Nat.le_of_ble_eq_true rfl⟩ nmX.bl (hX.at rfl) rfl hl.1 rfl (Nat.le_of_ble_eq_true rfl) dN_compare_5 hno hlocks (fun E h => exK_of (k := 1) (if_pos (Or.inr h.1)) (by decide) h.2) (fun q2 => ?_)
  have hk0 : kPl2 x2 x3 = 0 := if_neg (fun h => h.elim q1 q2)
  obtain ⟨a, ha, rfl⟩ := plB_not q1
  have ea : ix (nI a) = a := ix_nI (by omega)
  obtain ⟨d, hd, rfl⟩ := plB_not q2
  have ed : ix (nI d) = d := ix_nI (by omega)
  have hp64 := zLong_lt b1 (g a) (ok.1 a)
  have hq64 := zLong_lt b1 (g d) (ok.1 d)
  refine lv_aload_n hx hb dN_compare_8 rfl (lv_at hl 0 rfl) ?_
  refine nm_getP S hK hP dN_compare_9 ?_
  refine lv_iload_n hx hb dN_compare_12 rfl (lv_at hl 2 rfl) ?_
  refine nm_ald (j := a) hx hb hK hP ha dN_compare_13 ?_
  refine nz_vi (As := []) (rest := []) S (c_Word_counts l D cA cW T hT n g a (Nat.lt_succ_of_lt ha) ok.2 (ok.1 a)) kN_121 ⟨rfl, rfl, Nat.le_of_ble_eq_true rfl, Nat.le_of_ble_eq_true rfl⟩ ⟨Nat.zero_le _, Nat.zero_le _⟩ nvP.bl (nv_ob hK hP (Nat.lt_succ_of_lt ha)) (nvP.to hP hK) rfl hl.1 rfl (Nat.le_of_ble_eq_true rfl) dN_compare_14 (fun r3 er3 => ?_)
  subst er3
  refine lv_if_eq (tgt := 32) hx hb dN_compare_17 (by decide) (fun c4 => ?_) (fun c4 => ?_)
  · refine lv_iconst (v := 2) hx hb dN_compare_32 (by decide) ?_
    refine ny_ret ?_
    exact W.iret (v := 2) hx hb hr (fun t ht hW => ⟨hk0, by rw [ea, ed]; exact congrArg some (congrArg Value.int (zCmp_2 (fun q => zCnt_n c4 q.1))), ht⟩) (fun q h => nomatch h) dN_compare_33
  · refine lv_aload_n hx hb dN_compare_20 rfl (lv_at hl 0 rfl) ?_
    refine nm_getP S hK hP dN_compare_21 ?_
    refine lv_iload_n hx hb dN_compare_24 rfl (lv_at hl 3 rfl) ?_
    refine nm_ald (j := d) hx hb hK hP hd dN_compare_25 ?_
    refine nz_vi (As := []) (rest := []) S (c_Word_counts l D cA cW T hT n g d (Nat.lt_succ_of_lt hd) ok.2 (ok.1 d)) kN_121 ⟨rfl, rfl, Nat.le_of_ble_eq_true rfl, Nat.le_of_ble_eq_true rfl⟩ ⟨Nat.zero_le _, Nat.zero_le _⟩ nvP.bl (nv_ob hK hP (Nat.lt_succ_of_lt hd)) (nvP.to hP hK) rfl hl.1 rfl (Nat.le_of_ble_eq_true rfl) dN_compare_26 (fun r5 er5 => ?_)
    subst er5
    refine lv_if_ne (tgt := 34) hx hb dN_compare_29 (by decide) (fun c6 => ?_) (fun c6 => ?_)
    · refine lv_aload_n hx hb dN_compare_34 rfl (lv_at hl 0 rfl) ?_
      refine nm_getP S hK hP dN_compare_35 ?_
      refine lv_iload_n hx hb dN_compare_38 rfl (lv_at hl 2 rfl) ?_
      refine nm_ald (j := a) hx hb hK hP ha dN_compare_39 ?_
      refine lv_iload_n hx hb dN_compare_40 rfl (lv_at hl 1 rfl) ?_
      refine nz_vl (As := [.int (nI b1)]) (rest := []) S (c_Word_asLong l D cA cW T hT n g a (Nat.lt_succ_of_lt ha) ok.2 (ok.1 a) b1 hb1) kN_60 ⟨rfl, rfl, Nat.le_of_ble_eq_true rfl, Nat.le_of_ble_eq_true rfl⟩ ⟨Nat.zero_le _, Nat.zero_le _⟩ nvP.bl (nv_ob hK hP (Nat.lt_succ_of_lt ha)) (nvP.to hP hK) rfl hl.1 rfl (Nat.le_of_ble_eq_true rfl) dN_compare_41 (fun r7 er7 => ?_)
      subst er7
      refine lv_lstore (lv' := [(4, .long (lN (zLong b1 (g a) (n a)))), (0, .ref (T 0)), (1, .int (nI b1)), (2, .int (nI a)), (3, .int (nI d))]) hx hb dN_compare_44 hl (by decide) rfl (fun ls hl => ?_)
      refine lv_aload_n hx hb dN_compare_46 rfl (lv_at hl 1 rfl) ?_
      refine nm_getP S hK hP dN_compare_47 ?_
      refine lv_iload_n hx hb dN_compare_50 rfl (lv_at hl 4 rfl) ?_
      refine nm_ald (j := d) hx hb hK hP hd dN_compare_51 ?_
      refine lv_iload_n hx hb dN_compare_52 rfl (lv_at hl 2 rfl) ?_
      refine nz_vl (As := [.int (nI b1)]) (rest := []) S (c_Word_asLong l D cA cW T hT n g d (Nat.lt_succ_of_lt hd) ok.2 (ok.1 d) b1 hb1) kN_60 ⟨rfl, rfl, Nat.le_of_ble_eq_true rfl, Nat.le_of_ble_eq_true rfl⟩ ⟨Nat.zero_le _, Nat.zero_le _⟩ nvP.bl (nv_ob hK hP (Nat.lt_succ_of_lt hd)) (nvP.to hP hK) rfl hl.1 rfl (Nat.le_of_ble_eq_true rfl) dN_compare_53 (fun r8 er8 => ?_)
      subst er8
      refine lv_lstore (lv' := [(6, .long (lN (zLong b1 (g d) (n d)))), (4, .long (lN (zLong b1 (g a) (n a)))), (0, .ref (T 0)), (1, .int (nI b1)), (2, .int (nI a)), (3, .int (nI d))]) hx hb dN_compare_56 hl (by decide) rfl (fun ls hl => ?_)
      refine lv_lload hx hb dN_compare_58 (lv_at hl 1 rfl) ?_
      refine lv_lload hx hb dN_compare_60 (lv_at hl 0 rfl) ?_
      refine W.lcmp hx hb dN_compare_62 ?_
      refine lv_if_ne (tgt := 68) hx hb dN_compare_63 (by decide) (fun c9 => ?_) (fun c9 => ?_)
      · refine lv_iload_n hx hb dN_compare_68 rfl (lv_at hl 3 rfl) ?_
        refine lv_if_eq (tgt := 83) hx hb dN_compare_69 (by decide) (fun c10 => ?_) (fun c10 => ?_)
        · have mc10 : b1 = 0 := (nI_eq (a := b1) (b := 0) (by omega) (by omega)).mp c10
          refine lv_lload hx hb dN_compare_83 (lv_at hl 1 rfl) ?_
          refine lv_lload hx hb dN_compare_85 (lv_at hl 0 rfl) ?_
          refine nz_si (As := [.long (lN (zLong b1 (g a) (n a))), .long (lN (zLong b1 (g d) (n d)))]) (rest := []) S (cN_isBelowUnsigned l _ _ hp64 hq64) kN_124 ⟨rfl, rfl, Nat.le_of_ble_eq_true rfl, Nat.le_of_ble_eq_true rfl⟩ ⟨Nat.zero_le _, Nat.zero_le _⟩ (fun _ _ _ _ h => h) (fun _ _ _ => trivial) rfl hl.1 rfl (Nat.le_of_ble_eq_true rfl) dN_compare_87 (fun r11 er11 => ?_)
          subst er11
          refine lv_if_eq (tgt := 97) hx hb dN_compare_90 (by decide) (fun c12 => ?_) (fun c12 => ?_)
          · refine lv_iconst (v := 1) hx hb dN_compare_97 (by decide) ?_
            refine ny_ret ?_
            exact W.iret (v := 1) hx hb hr (fun t ht hW => ⟨hk0, by rw [ea, ed]; exact congrArg some (congrArg Value.int (zCmp_p (zCnt_y c4) (zCnt_y c6) (fun q => c9 ((lcmp_eq hp64 hq64).mpr q)) (fun z => absurd (by rw [if_pos ((zBelow_u (by omega)).mp z)] at c12; exact c12) (by decide)))), ht⟩) (fun q h => nomatch h) dN_compare_98
          · refine lv_iconst (v := (-1)) hx hb dN_compare_93 (by decide) ?_
            refine lv_goto (tgt := 98) hx hb dN_compare_94 (by decide) ?_
            refine ny_ret ?_
            exact W.iret (v := (-1)) hx hb hr (fun t ht hW => ⟨hk0, by rw [ea, ed]; exact congrArg some (congrArg Value.int (zCmp_m (zCnt_y c4) (zCnt_y c6) (fun q => c9 ((lcmp_eq hp64 hq64).mpr q)) ((zBelow_u (by omega)).mpr (by rcases Nat.lt_or_ge (zLong b1 (g a) (n a)) (zLong b1 (g d) (n d)) with z | z; exact z; exact absurd (by rw [if_neg (by omega)]; rfl) c12)))), ht⟩) (fun q h => nomatch h) dN_compare_98
        · have mc10 : ¬ b1 = 0 := fun h => c10 ((nI_eq (a := b1) (b := 0) (by omega) (by omega)).mpr h)
          refine lv_lload hx hb dN_compare_72 (lv_at hl 1 rfl) ?_
          refine lv_lload hx hb dN_compare_74 (lv_at hl 0 rfl) ?_
          refine W.lcmp hx hb dN_compare_76 ?_
          refine lv_if_ge (tgt := 97) hx hb dN_compare_77 (by decide) (fun c13 => ?_) (fun c13 => ?_)
          · refine lv_iconst (v := 1) hx hb dN_compare_97 (by decide) ?_
            refine ny_ret ?_
            exact W.iret (v := 1) hx hb hr (fun t ht hW => ⟨hk0, by rw [ea, ed]; exact congrArg some (congrArg Value.int (zCmp_p (zCnt_y c4) (zCnt_y c6) (fun q => c9 ((lcmp_eq hp64 hq64).mpr q)) (fun z => Int64.not_le.mpr ((zBelow_s (by omega)).mp z) ((lg_cmp_ge _ _).mp c13)))), ht⟩) (fun q h => nomatch h) dN_compare_98
          · refine lv_goto (tgt := 93) hx hb dN_compare_80 (by decide) ?_
            refine lv_iconst (v := (-1)) hx hb dN_compare_93 (by decide) ?_
            refine lv_goto (tgt := 98) hx hb dN_compare_94 (by decide) ?_
            refine ny_ret ?_
            exact W.iret (v := (-1)) hx hb hr (fun t ht hW => ⟨hk0, by rw [ea, ed]; exact congrArg some (congrArg Value.int (zCmp_m (zCnt_y c4) (zCnt_y c6) (fun q => c9 ((lcmp_eq hp64 hq64).mpr q)) ((zBelow_s (by omega)).mpr (Int64.not_le.mp (fun q => c13 ((lg_cmp_ge _ _).mpr q)))))), ht⟩) (fun q h => nomatch h) dN_compare_98
      · refine lv_iconst (v := 0) hx hb dN_compare_66 (by decide) ?_
        refine ny_ret ?_
        exact W.iret (v := 0) hx hb hr (fun t ht hW => ⟨hk0, by rw [ea, ed]; exact congrArg some (congrArg Value.int (zCmp_0 (zCnt_y c4) (zCnt_y c6) ((lcmp_eq hp64 hq64).mp c9))), ht⟩) (fun q h => nomatch h) dN_compare_67
    · refine lv_iconst (v := 2) hx hb dN_compare_32 (by decide) ?_
      refine ny_ret ?_
      exact W.iret (v := 2) hx hb hr (fun t ht hW => ⟨hk0, by rw [ea, ed]; exact congrArg some (congrArg Value.int (zCmp_2 (fun q => zCnt_n c6 q.2))), ht⟩) (fun q h => nomatch h) dN_compare_33
