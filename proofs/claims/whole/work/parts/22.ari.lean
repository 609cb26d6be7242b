set_option maxHeartbeats 4000000 in
set_option maxRecDepth 100000 in
theorem cN_lengthOfResult (l : Launch) (o : Nat) (ho : 7 ≤ o ∧ o ≤ 12) (a b : Nat) (ha : a ≤ 64) (hb9 : b ≤ 64) : Met l yN_lengthOfResult (Cond.code yN_lengthOfResult bN_lengthOfResult 3 (some .int) :: nzG) ({ frames := 1, cells := 0, slots := 0, locals := 21 }) (va_Pc [.int (nI o), .int (nI a), .int (nI b)] (fun _ => True)) (vp_Si (fun r => r = nI (zLen o a b))) 0 0 (fun _ => False) := by
  refine nz_of (own := RN) (by decide) rfl ?_
  intro p e s m args below meth c S hr hlocks _ hv9
  obtain ⟨rfl, -⟩ := hv9
  have hx := S.1
  have hb := S.2.1
  refine nz_entry (vs := [.int (nI o), .int (nI a), .int (nI b)]) (n := 3) (lv := [(0, .int (nI o)), (1, .int (nI a)), (2, .int (nI b))]) (Nat.le_of_ble_eq_true rfl) rfl (fun ls hl => ?_)
  refine lv_iload_n hx hb dN_lengthOfResult_0 rfl (lv_at hl 0 rfl) ?_
  rcases (show o = 7 ∨ o = 8 ∨ o = 9 ∨ o = 10 ∨ o = 11 ∨ o = 12 by omega) with rfl | rfl | rfl | rfl | rfl | rfl
  · refine lv_tableIn (tgt := 32) hx hb dN_lengthOfResult_1 (by decide) (by decide) rfl (by decide) ?_
    refine lv_iload_n hx hb dN_lengthOfResult_32 rfl (lv_at hl 1 rfl) ?_
    refine lv_iload_n hx hb dN_lengthOfResult_33 rfl (lv_at hl 2 rfl) ?_
    refine va_mmax hx hb (S.2.2.1.trans hl.1.symm) S.2.2.2.1 (S.2.2.2.2 _ kN_max.1) (S.2.2.2.2 _ kN_max.2.1) (S.2.2.2.2 _ kN_max.2.2.1) (S.2.2.2.2 _ kN_max.2.2.2) (Nat.le_of_ble_eq_true rfl) (Nat.le_of_ble_eq_true rfl) (Nat.zero_le _) (Nat.zero_le _) dN_lengthOfResult_34 ?_
    refine nz_eqi (nI_max a b (by omega) (by omega)) ?_
    exact W.iret (v := nI (max a b)) hx hb hr (fun t ht hW => ⟨_, rfl, rfl, ht⟩) (fun q h => nomatch h) dN_lengthOfResult_37
  · refine lv_tableIn (tgt := 32) hx hb dN_lengthOfResult_1 (by decide) (by decide) rfl (by decide) ?_
    refine lv_iload_n hx hb dN_lengthOfResult_32 rfl (lv_at hl 1 rfl) ?_
    refine lv_iload_n hx hb dN_lengthOfResult_33 rfl (lv_at hl 2 rfl) ?_
    refine va_mmax hx hb (S.2.2.1.trans hl.1.symm) S.2.2.2.1 (S.2.2.2.2 _ kN_max.1) (S.2.2.2.2 _ kN_max.2.1) (S.2.2.2.2 _ kN_max.2.2.1) (S.2.2.2.2 _ kN_max.2.2.2) (Nat.le_of_ble_eq_true rfl) (Nat.le_of_ble_eq_true rfl) (Nat.zero_le _) (Nat.zero_le _) dN_lengthOfResult_34 ?_
    refine nz_eqi (nI_max a b (by omega) (by omega)) ?_
    exact W.iret (v := nI (max a b)) hx hb hr (fun t ht hW => ⟨_, rfl, rfl, ht⟩) (fun q h => nomatch h) dN_lengthOfResult_37
  · refine lv_tableIn (tgt := 38) hx hb dN_lengthOfResult_1 (by decide) (by decide) rfl (by decide) ?_
    refine lv_iload_n hx hb dN_lengthOfResult_38 rfl (lv_at hl 1 rfl) ?_
    refine lv_iload_n hx hb dN_lengthOfResult_39 rfl (lv_at hl 2 rfl) ?_
    refine lv_iadd hx hb dN_lengthOfResult_40 ?_
    refine nz_eqi (nI_add a b) ?_
    exact W.iret (v := nI (a + b)) hx hb hr (fun t ht hW => ⟨_, rfl, rfl, ht⟩) (fun q h => nomatch h) dN_lengthOfResult_41
  · refine lv_tableIn (tgt := 42) hx hb dN_lengthOfResult_1 (by decide) (by decide) rfl (by decide) ?_
    refine lv_iload_n hx hb dN_lengthOfResult_42 rfl (lv_at hl 1 rfl) ?_
    exact W.iret (v := nI a) hx hb hr (fun t ht hW => ⟨_, rfl, rfl, ht⟩) (fun q h => nomatch h) dN_lengthOfResult_43
  · refine lv_tableOut (tgt := 44) hx hb dN_lengthOfResult_1 (by decide) (by decide) ?_
    refine lv_iload_n hx hb dN_lengthOfResult_44 rfl (lv_at hl 2 rfl) ?_
    exact W.iret (v := nI b) hx hb hr (fun t ht hW => ⟨_, rfl, rfl, ht⟩) (fun q h => nomatch h) dN_lengthOfResult_45
  · refine lv_tableOut (tgt := 44) hx hb dN_lengthOfResult_1 (by decide) (by decide) ?_
    refine lv_iload_n hx hb dN_lengthOfResult_44 rfl (lv_at hl 2 rfl) ?_
    exact W.iret (v := nI b) hx hb hr (fun t ht hW => ⟨_, rfl, rfl, ht⟩) (fun q h => nomatch h) dN_lengthOfResult_45
set_option maxHeartbeats 4000000 in
set_option maxRecDepth 100000 in
theorem cN_sumOrProduct (l : Launch) (o : Nat) (ho : 7 ≤ o ∧ o ≤ 9) (p1 q1 : Nat) (hq1 : q1 < 2 ^ 64) : Met l yN_sumOrProduct (Cond.code yN_sumOrProduct bN_sumOrProduct 5 (some .long) :: nzG) ({ frames := 0, cells := 0, slots := 0, locals := 0 }) (va_Pc [.int (nI o), .long (lN p1), .long (lN q1)] (fun _ => True)) (vp_Sl (fun r => r = lN (zSum o p1 q1))) 0 0 (fun _ => False) := by
  refine nz_of (own := RN) (by decide) rfl ?_
  intro p e s m args below meth c S hr hlocks _ hv9
  obtain ⟨rfl, -⟩ := hv9
  have hx := S.1
  have hb := S.2.1
  refine nz_entry (vs := [.int (nI o), .long (lN p1), .long (lN q1)]) (n := 5) (lv := [(0, .int (nI o)), (1, .long (lN p1)), (3, .long (lN q1))]) (Nat.le_of_ble_eq_true rfl) rfl (fun ls hl => ?_)
  refine lv_iload_n hx hb dN_sumOrProduct_0 rfl (lv_at hl 0 rfl) ?_
  rcases (show o = 7 ∨ o = 8 ∨ o = 9 by omega) with rfl | rfl | rfl
  · refine lv_lookup (tgt := 28) hx hb dN_sumOrProduct_1 (by decide) rfl (by decide) ?_
    refine lv_lload_n hx hb dN_sumOrProduct_28 rfl (lv_at hl 1 rfl) ?_
    refine lv_lload_n hx hb dN_sumOrProduct_29 rfl (lv_at hl 2 rfl) ?_
    refine lv_ladd hx hb dN_sumOrProduct_30 ?_
    refine nz_eql (zSum_7 p1 q1) ?_
    exact W.lret (v := lN (zSum 7 p1 q1)) hx hb hr (fun t ht hW => ⟨_, rfl, rfl, ht⟩) (fun q h => nomatch h) dN_sumOrProduct_31
  · refine lv_lookup (tgt := 32) hx hb dN_sumOrProduct_1 (by decide) rfl (by decide) ?_
    refine lv_lload_n hx hb dN_sumOrProduct_32 rfl (lv_at hl 1 rfl) ?_
    refine lv_lload_n hx hb dN_sumOrProduct_33 rfl (lv_at hl 2 rfl) ?_
    refine lv_lsub hx hb dN_sumOrProduct_34 ?_
    refine nz_eql (zSum_8 hq1) ?_
    exact W.lret (v := lN (zSum 8 p1 q1)) hx hb hr (fun t ht hW => ⟨_, rfl, rfl, ht⟩) (fun q h => nomatch h) dN_sumOrProduct_35
  · refine lv_lookup (tgt := 36) hx hb dN_sumOrProduct_1 (by decide) rfl (by decide) ?_
    refine lv_lload_n hx hb dN_sumOrProduct_36 rfl (lv_at hl 1 rfl) ?_
    refine lv_lload_n hx hb dN_sumOrProduct_37 rfl (lv_at hl 2 rfl) ?_
    refine lv_lmul hx hb dN_sumOrProduct_38 ?_
    refine nz_eql (zSum_9 p1 q1) ?_
    exact W.lret (v := lN (zSum 9 p1 q1)) hx hb hr (fun t ht hW => ⟨_, rfl, rfl, ht⟩) (fun q h => nomatch h) dN_sumOrProduct_39
set_option maxHeartbeats 4000000 in
set_option maxRecDepth 100000 in
theorem cN_divideSigned (l : Launch) (o : Nat) (ho : 10 ≤ o ∧ o ≤ 12) (P1 Q1 : Int64) (hq1 : ¬ Q1 = 0) : Met l yN_divideSigned (Cond.code yN_divideSigned bN_divideSigned 5 (some .long) :: nzG) ({ frames := 1, cells := 0, slots := 0, locals := 25 }) (va_Pc [.int (nI o), .long P1, .long Q1] (fun _ => True)) (vp_Sl (fun r => r = sDiv o P1 Q1)) 0 0 (fun _ => False) := by
  refine nz_of (own := RN) (by decide) rfl ?_
  intro p e s m args below meth c S hr hlocks _ hv9
  obtain ⟨rfl, -⟩ := hv9
  have hx := S.1
  have hb := S.2.1
  refine nz_entry (vs := [.int (nI o), .long P1, .long Q1]) (n := 5) (lv := [(0, .int (nI o)), (1, .long P1), (3, .long Q1)]) (Nat.le_of_ble_eq_true rfl) rfl (fun ls hl => ?_)
  refine lv_iload_n hx hb dN_divideSigned_0 rfl (lv_at hl 0 rfl) ?_
  rcases (show o = 10 ∨ o = 11 ∨ o = 12 by omega) with rfl | rfl | rfl
  · refine lv_lookup (tgt := 28) hx hb dN_divideSigned_1 (by decide) rfl (by decide) ?_
    refine lv_lload_n hx hb dN_divideSigned_28 rfl (lv_at hl 1 rfl) ?_
    refine lv_lload_n hx hb dN_divideSigned_29 rfl (lv_at hl 2 rfl) ?_
    refine lv_ldiv hx hb dN_divideSigned_30 hq1 ?_
    exact W.lret (v := P1 / Q1) hx hb hr (fun t ht hW => ⟨_, rfl, rfl, ht⟩) (fun q h => nomatch h) dN_divideSigned_31
  · refine lv_lookup (tgt := 32) hx hb dN_divideSigned_1 (by decide) rfl (by decide) ?_
    refine lv_lload_n hx hb dN_divideSigned_32 rfl (lv_at hl 1 rfl) ?_
    refine lv_lload_n hx hb dN_divideSigned_33 rfl (lv_at hl 2 rfl) ?_
    refine lv_lrem hx hb dN_divideSigned_34 hq1 ?_
    exact W.lret (v := P1 - P1 / Q1 * Q1) hx hb hr (fun t ht hW => ⟨_, rfl, rfl, ht⟩) (fun q h => nomatch h) dN_divideSigned_35
  · refine lv_lookup (tgt := 36) hx hb dN_divideSigned_1 (by decide) rfl (by decide) ?_
    refine lv_lload_n hx hb dN_divideSigned_36 rfl (lv_at hl 1 rfl) ?_
    refine lv_lload_n hx hb dN_divideSigned_37 rfl (lv_at hl 2 rfl) ?_
    refine nz_sl (As := [.long P1, .long Q1]) (rest := []) S (cM_floorModL l P1 Q1 hq1) kN_181 ⟨rfl, rfl, Nat.le_of_ble_eq_true rfl, Nat.le_of_ble_eq_true rfl⟩ ⟨Nat.zero_le _, Nat.zero_le _⟩ (fun _ _ _ _ h => h) (fun _ _ _ => trivial) rfl hl.1 rfl (Nat.le_of_ble_eq_true rfl) dN_divideSigned_38 (fun r1 er1 => ?_)
    subst er1
    exact W.lret (v := sFm P1 Q1) hx hb hr (fun t ht hW => ⟨_, rfl, rfl, ht⟩) (fun q h => nomatch h) dN_divideSigned_41
set_option maxHeartbeats 4000000 in
set_option maxRecDepth 100000 in
theorem cN_quotientUnsigned (l : Launch) (p1 q1 : Nat) (hp1 : p1 < 2 ^ 64) (hq0 : 0 < q1) (hq1 : q1 < 2 ^ 64) : Met l yN_quotientUnsigned (Cond.code yN_quotientUnsigned bN_quotientUnsigned 6 (some .long) :: nzG) ({ frames := 1, cells := 0, slots := 0, locals := 23 }) (va_Pc [.long (lN p1), .long (lN q1)] (fun _ => True)) (vp_Sl (fun r => r = lN (p1 / q1))) 0 0 (fun _ => False) := by
  refine nz_of (own := RN) (by decide) rfl ?_
  intro p e s m args below meth c S hr hlocks _ hv9
  obtain ⟨rfl, -⟩ := hv9
  have hx := S.1
  have hb := S.2.1
  refine nz_entry (vs := [.long (lN p1), .long (lN q1)]) (n := 6) (lv := [(0, .long (lN p1)), (2, .long (lN q1))]) (Nat.le_of_ble_eq_true rfl) rfl (fun ls hl => ?_)
  have hmo := lcmp_gt0 hq0 hq1
  refine lv_lload_n hx hb dN_quotientUnsigned_0 rfl (lv_at hl 1 rfl) ?_
  refine lv_lconst (v := 0) hx hb dN_quotientUnsigned_1 (by decide) ?_
  refine W.lcmp hx hb dN_quotientUnsigned_2 ?_
  refine lv_if_gt (tgt := 20) hx hb dN_quotientUnsigned_3 (by decide) (fun c1 => ?_) (fun c1 => ?_)
  · refine lv_lload_n hx hb dN_quotientUnsigned_20 rfl (lv_at hl 0 rfl) ?_
    refine lv_iconst (v := 1) hx hb dN_quotientUnsigned_21 (by decide) ?_
    have hql : q1 < 9223372036854775808 := hmo.mp c1
    refine lv_lushr (v := lN (p1 / 2)) hx hb dN_quotientUnsigned_22 (wb_shr (k := 1) hp1 (by decide)) ?_
    refine lv_lload_n hx hb dN_quotientUnsigned_23 rfl (lv_at hl 1 rfl) ?_
    refine lv_ldiv hx hb dN_quotientUnsigned_24 (fun q => absurd ((pk_lEQ (b := 0) hql (by decide)).mp q) (by omega)) ?_
    refine nz_eql (pk_lDiv (a := p1 / 2) (b := q1) (by omega) hq0 hql) ?_
    refine lv_iconst (v := 1) hx hb dN_quotientUnsigned_25 (by decide) ?_
    have hc1 := uq_le p1 q1
    refine lv_lshl (v := lN (p1 / 2 / q1 * 2)) hx hb dN_quotientUnsigned_26 (wb_shl (p1 / 2 / q1) (k := 1) (by decide)) ?_
    refine lv_lstore (lv' := [(4, .long (lN (p1 / 2 / q1 * 2))), (0, .long (lN p1)), (2, .long (lN q1))]) hx hb dN_quotientUnsigned_27 hl (by decide) rfl (fun ls hl => ?_)
    refine lv_lload_n hx hb dN_quotientUnsigned_29 rfl (lv_at hl 1 rfl) ?_
    refine lv_lload hx hb dN_quotientUnsigned_30 (lv_at hl 0 rfl) ?_
    refine lv_lload_n hx hb dN_quotientUnsigned_32 rfl (lv_at hl 2 rfl) ?_
    refine lv_lmul hx hb dN_quotientUnsigned_33 ?_
    refine nz_eql (lN_mul (p1 / 2 / q1 * 2) q1) ?_
    refine lv_lsub hx hb dN_quotientUnsigned_34 ?_
    refine nz_eql (lN_sub hc1) ?_
    refine lv_lload_n hx hb dN_quotientUnsigned_35 rfl (lv_at hl 2 rfl) ?_
    refine nz_si (As := [.long (lN (p1 - (p1 / 2 / q1 * 2) * q1)), .long (lN q1)]) (rest := []) S (cN_isBelowUnsigned l _ _ (by omega) hq1) kN_124 ⟨rfl, rfl, Nat.le_of_ble_eq_true rfl, Nat.le_of_ble_eq_true rfl⟩ ⟨Nat.zero_le _, Nat.zero_le _⟩ (fun _ _ _ _ h => h) (fun _ _ _ => trivial) rfl hl.1 rfl (Nat.le_of_ble_eq_true rfl) dN_quotientUnsigned_36 (fun r2 er2 => ?_)
    subst er2
    refine lv_if_eq (tgt := 47) hx hb dN_quotientUnsigned_39 (by decide) (fun c3 => ?_) (fun c3 => ?_)
    · refine lv_lload hx hb dN_quotientUnsigned_47 (lv_at hl 0 rfl) ?_
      refine lv_lconst (v := 1) hx hb dN_quotientUnsigned_49 (by decide) ?_
      refine lv_ladd hx hb dN_quotientUnsigned_50 ?_
      refine nz_eql (lN_1 (p1 / 2 / q1 * 2)) ?_
      exact W.lret (v := lN ((p1 / 2 / q1 * 2) + 1)) hx hb hr (fun t ht hW => ⟨_, rfl, by rw [uq_hi hq0 (fun z => absurd (by rw [if_pos z] at c3; exact c3) (by decide))], ht⟩) (fun q h => nomatch h) dN_quotientUnsigned_51
    · refine lv_lload hx hb dN_quotientUnsigned_42 (lv_at hl 0 rfl) ?_
      refine lv_goto (tgt := 51) hx hb dN_quotientUnsigned_44 (by decide) ?_
      exact W.lret (v := lN (p1 / 2 / q1 * 2)) hx hb hr (fun t ht hW => ⟨_, rfl, by rw [uq_lo hq0 (by rcases Nat.lt_or_ge (p1 - (p1 / 2 / q1 * 2) * q1) q1 with z | z; exact z; exact absurd (by rw [if_neg (by omega)]; rfl) c3)], ht⟩) (fun q h => nomatch h) dN_quotientUnsigned_51
  · refine lv_lload_n hx hb dN_quotientUnsigned_6 rfl (lv_at hl 0 rfl) ?_
    refine lv_lload_n hx hb dN_quotientUnsigned_7 rfl (lv_at hl 1 rfl) ?_
    refine nz_si (As := [.long (lN p1), .long (lN q1)]) (rest := []) S (cN_isBelowUnsigned l _ _ hp1 hq1) kN_124 ⟨rfl, rfl, Nat.le_of_ble_eq_true rfl, Nat.le_of_ble_eq_true rfl⟩ ⟨Nat.zero_le _, Nat.zero_le _⟩ (fun _ _ _ _ h => h) (fun _ _ _ => trivial) rfl hl.1 rfl (Nat.le_of_ble_eq_true rfl) dN_quotientUnsigned_8 (fun r4 er4 => ?_)
    subst er4
    refine lv_if_eq (tgt := 18) hx hb dN_quotientUnsigned_11 (by decide) (fun c5 => ?_) (fun c5 => ?_)
    · refine lv_lconst (v := 1) hx hb dN_quotientUnsigned_18 (by decide) ?_
      exact W.lret (v := 1) hx hb hr (fun t ht hW => ⟨_, rfl, by rw [show p1 / q1 = 1 from uq_1 hp1 (Nat.le_of_not_lt (fun q => c1 (hmo.mpr q))) (fun z => absurd (by rw [if_pos z] at c5; exact c5) (by decide))]; rfl, ht⟩) (fun q h => nomatch h) dN_quotientUnsigned_19
    · refine lv_lconst (v := 0) hx hb dN_quotientUnsigned_14 (by decide) ?_
      refine lv_goto (tgt := 19) hx hb dN_quotientUnsigned_15 (by decide) ?_
      exact W.lret (v := 0) hx hb hr (fun t ht hW => ⟨_, rfl, by rw [show p1 / q1 = 0 from Nat.div_eq_of_lt (by rcases Nat.lt_or_ge p1 q1 with z | z; exact z; exact absurd (by rw [if_neg (by omega)]; rfl) c5)]; rfl, ht⟩) (fun q h => nomatch h) dN_quotientUnsigned_19
set_option maxHeartbeats 4000000 in
set_option maxRecDepth 100000 in
theorem cN_divideUnsigned (l : Launch) (o : Nat) (ho : 10 ≤ o ∧ o ≤ 12) (p1 q1 : Nat) (hp1 : p1 < 2 ^ 64) (hq0 : 0 < q1) (hq1 : q1 < 2 ^ 64) : Met l yN_divideUnsigned (Cond.code yN_divideUnsigned bN_divideUnsigned 7 (some .long) :: nzG) ({ frames := 2, cells := 0, slots := 0, locals := 48 }) (va_Pc [.int (nI o), .long (lN p1), .long (lN q1)] (fun _ => True)) (vp_Sl (fun r => r = lN (if o = 10 then p1 / q1 else p1 % q1))) 0 0 (fun _ => False) := by
  refine nz_of (own := RN) (by decide) rfl ?_
  intro p e s m args below meth c S hr hlocks _ hv9
  obtain ⟨rfl, -⟩ := hv9
  have hx := S.1
  have hb := S.2.1
  refine nz_entry (vs := [.int (nI o), .long (lN p1), .long (lN q1)]) (n := 7) (lv := [(0, .int (nI o)), (1, .long (lN p1)), (3, .long (lN q1))]) (Nat.le_of_ble_eq_true rfl) rfl (fun ls hl => ?_)
  refine lv_lload_n hx hb dN_divideUnsigned_0 rfl (lv_at hl 1 rfl) ?_
  refine lv_lload_n hx hb dN_divideUnsigned_1 rfl (lv_at hl 2 rfl) ?_
  refine nz_sl (As := [.long (lN p1), .long (lN q1)]) (rest := []) S (cN_quotientUnsigned l p1 q1 hp1 hq0 hq1) kN_185 ⟨rfl, rfl, Nat.le_of_ble_eq_true rfl, Nat.le_of_ble_eq_true rfl⟩ ⟨Nat.zero_le _, Nat.zero_le _⟩ (fun _ _ _ _ h => h) (fun _ _ _ => trivial) rfl hl.1 rfl (Nat.le_of_ble_eq_true rfl) dN_divideUnsigned_2 (fun r1 er1 => ?_)
  subst er1
  refine lv_lstore (lv' := [(5, .long (lN (p1 / q1))), (0, .int (nI o)), (1, .long (lN p1)), (3, .long (lN q1))]) hx hb dN_divideUnsigned_5 hl (by decide) rfl (fun ls hl => ?_)
  refine lv_iload_n hx hb dN_divideUnsigned_7 rfl (lv_at hl 1 rfl) ?_
  refine lv_bipush (v := 10) hx hb dN_divideUnsigned_8 (by decide) ?_
  refine lv_icmp_ne (tgt := 18) hx hb dN_divideUnsigned_10 (by decide) (fun c2 => ?_) (fun c2 => ?_)
  · have mc2 : ¬ o = 10 := fun h => c2 ((nI_eq (a := o) (b := 10) (by omega) (by omega)).mpr h)
    refine lv_lload_n hx hb dN_divideUnsigned_18 rfl (lv_at hl 2 rfl) ?_
    refine lv_lload hx hb dN_divideUnsigned_19 (lv_at hl 0 rfl) ?_
    refine lv_lload_n hx hb dN_divideUnsigned_21 rfl (lv_at hl 3 rfl) ?_
    refine lv_lmul hx hb dN_divideUnsigned_22 ?_
    refine nz_eql (lN_mul (p1 / q1) q1) ?_
    refine lv_lsub hx hb dN_divideUnsigned_23 ?_
    refine nz_eql ((lN_sub (Nat.div_mul_le_self p1 q1)).trans (congrArg lN (show p1 - p1 / q1 * q1 = p1 % q1 by have := Nat.div_add_mod' p1 q1; omega))) ?_
    exact W.lret (v := lN (p1 % q1)) hx hb hr (fun t ht hW => ⟨_, rfl, by rw [if_neg mc2], ht⟩) (fun q h => nomatch h) dN_divideUnsigned_24
  · have mc2 : o = 10 := (nI_eq (a := o) (b := 10) (by omega) (by omega)).mp c2
    refine lv_lload hx hb dN_divideUnsigned_13 (lv_at hl 0 rfl) ?_
    refine lv_goto (tgt := 24) hx hb dN_divideUnsigned_15 (by decide) ?_
    exact W.lret (v := lN (p1 / q1)) hx hb hr (fun t ht hW => ⟨_, rfl, by rw [if_pos mc2], ht⟩) (fun q h => nomatch h) dN_divideUnsigned_24
