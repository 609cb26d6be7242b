set_option maxHeartbeats 4000000 in
set_option maxRecDepth 100000 in
theorem c_Mo_isLow (l : Launch) (v : Nat) (hv : v < 9) : Met l yMo_isLow (Cond.code yMo_isLow bMo_isLow 1 (some .boolean) :: nzG) ({ frames := 0, cells := 0, slots := 0, locals := 0 }) (va_Pc [.int (nI v)] (fun _ => True)) (vp_Si (fun r => r = nI (zLow v))) 0 0 (fun _ => False) := by
  refine nz_of (own := RM) (by decide) rfl ?_
  intro p e s m args below meth c S hr hlocks _ hv9
  obtain ⟨rfl, -⟩ := hv9
  have hx := S.1
  have hb := S.2.1
  refine nz_entry (vs := [.int (nI v)]) (n := 1) (lv := [(0, .int (nI v))]) (Nat.le_of_ble_eq_true rfl) rfl (fun ls hl => ?_)
  refine lv_iload_n hx hb dMo_isLow_0 rfl (lv_at hl 0 rfl) ?_
  refine lv_iconst (v := 2) hx hb dMo_isLow_1 (by decide) ?_
  refine lv_icmp_eq (tgt := 11) hx hb dMo_isLow_2 (by decide) (fun c1 => ?_) (fun c1 => ?_)
  · refine lv_iconst (v := 1) hx hb dMo_isLow_11 (by decide) ?_
    refine lv_goto (tgt := 16) hx hb dMo_isLow_12 (by decide) ?_
    exact W.zret (v := 1) hx hb hr rfl (fun t ht hW => ⟨1, rfl, (of_decide_eq_true (ib (al1 (N := 9) ((fun v => (!decide (nI v = 2) || decide ((1 : Int32) = nI (zLow v))))) (by decide +kernel) v hv) c1)), ht⟩) (fun q h => nomatch h) dMo_isLow_16
  · refine lv_iload_n hx hb dMo_isLow_5 rfl (lv_at hl 0 rfl) ?_
    refine lv_bipush (v := 6) hx hb dMo_isLow_6 (by decide) ?_
    refine lv_icmp_ne (tgt := 15) hx hb dMo_isLow_8 (by decide) (fun c2 => ?_) (fun c2 => ?_)
    · refine lv_iconst (v := 0) hx hb dMo_isLow_15 (by decide) ?_
      exact W.zret (v := 0) hx hb hr rfl (fun t ht hW => ⟨0, rfl, (of_decide_eq_true (ib (ib (al1 (N := 9) ((fun v => (!decide (¬ nI v = 2) || (!decide (¬ nI v = 6) || decide ((0 : Int32) = nI (zLow v)))))) (by decide +kernel) v hv) c1) c2)), ht⟩) (fun q h => nomatch h) dMo_isLow_16
    · refine lv_iconst (v := 1) hx hb dMo_isLow_11 (by decide) ?_
      refine lv_goto (tgt := 16) hx hb dMo_isLow_12 (by decide) ?_
      exact W.zret (v := 1) hx hb hr rfl (fun t ht hW => ⟨1, rfl, (of_decide_eq_true (ib (ib (al1 (N := 9) ((fun v => (!decide (¬ nI v = 2) || (!decide (nI v = 6) || decide ((1 : Int32) = nI (zLow v)))))) (by decide +kernel) v hv) c1) c2)), ht⟩) (fun q h => nomatch h) dMo_isLow_16
set_option maxHeartbeats 4000000 in
set_option maxRecDepth 100000 in
theorem c_Mo_isHigh (l : Launch) (v : Nat) (hv : v < 9) : Met l yMo_isHigh (Cond.code yMo_isHigh bMo_isHigh 1 (some .boolean) :: nzG) ({ frames := 0, cells := 0, slots := 0, locals := 0 }) (va_Pc [.int (nI v)] (fun _ => True)) (vp_Si (fun r => r = nI (zHigh v))) 0 0 (fun _ => False) := by
  refine nz_of (own := RM) (by decide) rfl ?_
  intro p e s m args below meth c S hr hlocks _ hv9
  obtain ⟨rfl, -⟩ := hv9
  have hx := S.1
  have hb := S.2.1
  refine nz_entry (vs := [.int (nI v)]) (n := 1) (lv := [(0, .int (nI v))]) (Nat.le_of_ble_eq_true rfl) rfl (fun ls hl => ?_)
  refine lv_iload_n hx hb dMo_isHigh_0 rfl (lv_at hl 0 rfl) ?_
  refine lv_iconst (v := 3) hx hb dMo_isHigh_1 (by decide) ?_
  refine lv_icmp_eq (tgt := 11) hx hb dMo_isHigh_2 (by decide) (fun c1 => ?_) (fun c1 => ?_)
  · refine lv_iconst (v := 1) hx hb dMo_isHigh_11 (by decide) ?_
    refine lv_goto (tgt := 16) hx hb dMo_isHigh_12 (by decide) ?_
    exact W.zret (v := 1) hx hb hr rfl (fun t ht hW => ⟨1, rfl, (of_decide_eq_true (ib (al1 (N := 9) ((fun v => (!decide (nI v = 3) || decide ((1 : Int32) = nI (zHigh v))))) (by decide +kernel) v hv) c1)), ht⟩) (fun q h => nomatch h) dMo_isHigh_16
  · refine lv_iload_n hx hb dMo_isHigh_5 rfl (lv_at hl 0 rfl) ?_
    refine lv_bipush (v := 7) hx hb dMo_isHigh_6 (by decide) ?_
    refine lv_icmp_ne (tgt := 15) hx hb dMo_isHigh_8 (by decide) (fun c2 => ?_) (fun c2 => ?_)
    · refine lv_iconst (v := 0) hx hb dMo_isHigh_15 (by decide) ?_
      exact W.zret (v := 0) hx hb hr rfl (fun t ht hW => ⟨0, rfl, (of_decide_eq_true (ib (ib (al1 (N := 9) ((fun v => (!decide (¬ nI v = 3) || (!decide (¬ nI v = 7) || decide ((0 : Int32) = nI (zHigh v)))))) (by decide +kernel) v hv) c1) c2)), ht⟩) (fun q h => nomatch h) dMo_isHigh_16
    · refine lv_iconst (v := 1) hx hb dMo_isHigh_11 (by decide) ?_
      refine lv_goto (tgt := 16) hx hb dMo_isHigh_12 (by decide) ?_
      exact W.zret (v := 1) hx hb hr rfl (fun t ht hW => ⟨1, rfl, (of_decide_eq_true (ib (ib (al1 (N := 9) ((fun v => (!decide (¬ nI v = 3) || (!decide (nI v = 7) || decide ((1 : Int32) = nI (zHigh v)))))) (by decide +kernel) v hv) c1) c2)), ht⟩) (fun q h => nomatch h) dMo_isHigh_16
set_option maxHeartbeats 4000000 in
set_option maxRecDepth 100000 in
theorem c_Mo_isClear (l : Launch) (v : Nat) (hv : v < 9) : Met l yMo_isClear (Cond.code yMo_isClear bMo_isClear 1 (some .boolean) :: nzG) ({ frames := 1, cells := 0, slots := 0, locals := 20 }) (va_Pc [.int (nI v)] (fun _ => True)) (vp_Si (fun r => r = nI (zClear v))) 0 0 (fun _ => False) := by
  refine nz_of (own := RM) (by decide) rfl ?_
  intro p e s m args below meth c S hr hlocks _ hv9
  obtain ⟨rfl, -⟩ := hv9
  have hx := S.1
  have hb := S.2.1
  refine nz_entry (vs := [.int (nI v)]) (n := 1) (lv := [(0, .int (nI v))]) (Nat.le_of_ble_eq_true rfl) rfl (fun ls hl => ?_)
  refine lv_iload_n hx hb dMo_isClear_0 rfl (lv_at hl 0 rfl) ?_
  refine nz_si (As := [.int (nI v)]) (rest := []) S (c_Mo_isLow l v hv) kMo_23 ⟨rfl, rfl, Nat.le_of_ble_eq_true rfl, Nat.le_of_ble_eq_true rfl⟩ ⟨Nat.zero_le _, Nat.zero_le _⟩ (fun _ _ _ _ h => h) (fun _ _ _ => trivial) rfl hl.1 rfl (Nat.le_of_ble_eq_true rfl) dMo_isClear_1 (fun r1 er1 => ?_)
  subst er1
  refine lv_if_ne (tgt := 14) hx hb dMo_isClear_4 (by decide) (fun c2 => ?_) (fun c2 => ?_)
  · refine lv_iconst (v := 1) hx hb dMo_isClear_14 (by decide) ?_
    refine lv_goto (tgt := 19) hx hb dMo_isClear_15 (by decide) ?_
    exact W.zret (v := 1) hx hb hr rfl (fun t ht hW => ⟨1, rfl, (of_decide_eq_true (ib (al1 (N := 9) ((fun v => (!decide (¬ nI (zLow v) = 0) || decide ((1 : Int32) = nI (zClear v))))) (by decide +kernel) v hv) c2)), ht⟩) (fun q h => nomatch h) dMo_isClear_19
  · refine lv_iload_n hx hb dMo_isClear_7 rfl (lv_at hl 0 rfl) ?_
    refine nz_si (As := [.int (nI v)]) (rest := []) S (c_Mo_isHigh l v hv) kMo_27 ⟨rfl, rfl, Nat.le_of_ble_eq_true rfl, Nat.le_of_ble_eq_true rfl⟩ ⟨Nat.zero_le _, Nat.zero_le _⟩ (fun _ _ _ _ h => h) (fun _ _ _ => trivial) rfl hl.1 rfl (Nat.le_of_ble_eq_true rfl) dMo_isClear_8 (fun r3 er3 => ?_)
    subst er3
    refine lv_if_eq (tgt := 18) hx hb dMo_isClear_11 (by decide) (fun c4 => ?_) (fun c4 => ?_)
    · refine lv_iconst (v := 0) hx hb dMo_isClear_18 (by decide) ?_
      exact W.zret (v := 0) hx hb hr rfl (fun t ht hW => ⟨0, rfl, (of_decide_eq_true (ib (ib (al1 (N := 9) ((fun v => (!decide (nI (zLow v) = 0) || (!decide (nI (zHigh v) = 0) || decide ((0 : Int32) = nI (zClear v)))))) (by decide +kernel) v hv) c2) c4)), ht⟩) (fun q h => nomatch h) dMo_isClear_19
    · refine lv_iconst (v := 1) hx hb dMo_isClear_14 (by decide) ?_
      refine lv_goto (tgt := 19) hx hb dMo_isClear_15 (by decide) ?_
      exact W.zret (v := 1) hx hb hr rfl (fun t ht hW => ⟨1, rfl, (of_decide_eq_true (ib (ib (al1 (N := 9) ((fun v => (!decide (nI (zLow v) = 0) || (!decide (¬ nI (zHigh v) = 0) || decide ((1 : Int32) = nI (zClear v)))))) (by decide +kernel) v hv) c2) c4)), ht⟩) (fun q h => nomatch h) dMo_isClear_19
set_option maxHeartbeats 4000000 in
set_option maxRecDepth 100000 in
theorem c_Mo_not (l : Launch) (v : Nat) (hv : v < 9) : Met l yMo_not (Cond.code yMo_not bMo_not 1 (some .int) :: nzG) ({ frames := 1, cells := 0, slots := 0, locals := 20 }) (va_Pc [.int (nI v)] (fun _ => True)) (vp_Si (fun r => r = nI (zNot v))) 0 0 (fun _ => False) := by
  refine nz_of (own := RM) (by decide) rfl ?_
  intro p e s m args below meth c S hr hlocks _ hv9
  obtain ⟨rfl, -⟩ := hv9
  have hx := S.1
  have hb := S.2.1
  refine nz_entry (vs := [.int (nI v)]) (n := 1) (lv := [(0, .int (nI v))]) (Nat.le_of_ble_eq_true rfl) rfl (fun ls hl => ?_)
  refine lv_iload_n hx hb dMo_not_0 rfl (lv_at hl 0 rfl) ?_
  refine lv_if_ne (tgt := 8) hx hb dMo_not_1 (by decide) (fun c1 => ?_) (fun c1 => ?_)
  · refine lv_iload_n hx hb dMo_not_8 rfl (lv_at hl 0 rfl) ?_
    refine nz_si (As := [.int (nI v)]) (rest := []) S (c_Mo_isLow l v hv) kMo_23 ⟨rfl, rfl, Nat.le_of_ble_eq_true rfl, Nat.le_of_ble_eq_true rfl⟩ ⟨Nat.zero_le _, Nat.zero_le _⟩ (fun _ _ _ _ h => h) (fun _ _ _ => trivial) rfl hl.1 rfl (Nat.le_of_ble_eq_true rfl) dMo_not_9 (fun r2 er2 => ?_)
    subst er2
    refine lv_if_eq (tgt := 19) hx hb dMo_not_12 (by decide) (fun c3 => ?_) (fun c3 => ?_)
    · refine lv_iload_n hx hb dMo_not_19 rfl (lv_at hl 0 rfl) ?_
      refine nz_si (As := [.int (nI v)]) (rest := []) S (c_Mo_isHigh l v hv) kMo_27 ⟨rfl, rfl, Nat.le_of_ble_eq_true rfl, Nat.le_of_ble_eq_true rfl⟩ ⟨Nat.zero_le _, Nat.zero_le _⟩ (fun _ _ _ _ h => h) (fun _ _ _ => trivial) rfl hl.1 rfl (Nat.le_of_ble_eq_true rfl) dMo_not_20 (fun r4 er4 => ?_)
      subst er4
      refine lv_if_eq (tgt := 30) hx hb dMo_not_23 (by decide) (fun c5 => ?_) (fun c5 => ?_)
      · refine lv_iconst (v := 1) hx hb dMo_not_30 (by decide) ?_
        exact W.iret (v := 1) hx hb hr (fun t ht hW => ⟨_, rfl, (of_decide_eq_true (ib (ib (ib (al1 (N := 9) ((fun v => (!decide (¬ nI v = 0) || (!decide (nI (zLow v) = 0) || (!decide (nI (zHigh v) = 0) || decide ((1 : Int32) = nI (zNot v))))))) (by decide +kernel) v hv) c1) c3) c5)), ht⟩) (fun q h => nomatch h) dMo_not_31
      · refine lv_iconst (v := 2) hx hb dMo_not_26 (by decide) ?_
        refine lv_goto (tgt := 31) hx hb dMo_not_27 (by decide) ?_
        exact W.iret (v := 2) hx hb hr (fun t ht hW => ⟨_, rfl, (of_decide_eq_true (ib (ib (ib (al1 (N := 9) ((fun v => (!decide (¬ nI v = 0) || (!decide (nI (zLow v) = 0) || (!decide (¬ nI (zHigh v) = 0) || decide ((2 : Int32) = nI (zNot v))))))) (by decide +kernel) v hv) c1) c3) c5)), ht⟩) (fun q h => nomatch h) dMo_not_31
    · refine lv_iconst (v := 3) hx hb dMo_not_15 (by decide) ?_
      refine lv_goto (tgt := 31) hx hb dMo_not_16 (by decide) ?_
      exact W.iret (v := 3) hx hb hr (fun t ht hW => ⟨_, rfl, (of_decide_eq_true (ib (ib (al1 (N := 9) ((fun v => (!decide (¬ nI v = 0) || (!decide (¬ nI (zLow v) = 0) || decide ((3 : Int32) = nI (zNot v)))))) (by decide +kernel) v hv) c1) c3)), ht⟩) (fun q h => nomatch h) dMo_not_31
  · refine lv_iconst (v := 0) hx hb dMo_not_4 (by decide) ?_
    refine lv_goto (tgt := 31) hx hb dMo_not_5 (by decide) ?_
    exact W.iret (v := 0) hx hb hr (fun t ht hW => ⟨_, rfl, (of_decide_eq_true (ib (al1 (N := 9) ((fun v => (!decide (nI v = 0) || decide ((0 : Int32) = nI (zNot v))))) (by decide +kernel) v hv) c1)), ht⟩) (fun q h => nomatch h) dMo_not_31
set_option maxHeartbeats 4000000 in
set_option maxRecDepth 100000 in
theorem c_Mo_together (l : Launch) (p1 : Nat) (hp1 : p1 < 9) (q1 : Nat) (hq1 : q1 < 9) : Met l yMo_together (Cond.code yMo_together bMo_together 2 (some .int) :: nzG) ({ frames := 0, cells := 0, slots := 0, locals := 0 }) (va_Pc [.int (nI p1), .int (nI q1)] (fun _ => True)) (vp_Si (fun r => r = nI (zDrive p1 q1))) 0 0 (fun _ => False) := by
  refine nz_of (own := RM) (by decide) rfl ?_
  intro p e s m args below meth c S hr hlocks _ hv9
  obtain ⟨rfl, -⟩ := hv9
  have hx := S.1
  have hb := S.2.1
  refine nz_entry (vs := [.int (nI p1), .int (nI q1)]) (n := 2) (lv := [(0, .int (nI p1)), (1, .int (nI q1))]) (Nat.le_of_ble_eq_true rfl) rfl (fun ls hl => ?_)
  refine lv_iload_n hx hb dMo_together_0 rfl (lv_at hl 0 rfl) ?_
  refine lv_if_eq (tgt := 8) hx hb dMo_together_1 (by decide) (fun c1 => ?_) (fun c1 => ?_)
  · refine lv_iconst (v := 0) hx hb dMo_together_8 (by decide) ?_
    exact W.iret (v := 0) hx hb hr (fun t ht hW => ⟨_, rfl, (of_decide_eq_true (ib (al2 (N := 9) (M := 9) ((fun p1 q1 => (!decide (nI p1 = 0) || decide ((0 : Int32) = nI (zDrive p1 q1))))) (by decide +kernel) p1 hp1 q1 hq1) c1)), ht⟩) (fun q h => nomatch h) dMo_together_9
  · refine lv_iload_n hx hb dMo_together_4 rfl (lv_at hl 1 rfl) ?_
    refine lv_if_ne (tgt := 10) hx hb dMo_together_5 (by decide) (fun c2 => ?_) (fun c2 => ?_)
    · refine lv_iload_n hx hb dMo_together_10 rfl (lv_at hl 0 rfl) ?_
      refine lv_iconst (v := 1) hx hb dMo_together_11 (by decide) ?_
      refine lv_icmp_eq (tgt := 32) hx hb dMo_together_12 (by decide) (fun c3 => ?_) (fun c3 => ?_)
      · refine lv_iconst (v := 1) hx hb dMo_together_32 (by decide) ?_
        exact W.iret (v := 1) hx hb hr (fun t ht hW => ⟨_, rfl, (of_decide_eq_true (ib (ib (ib (al2 (N := 9) (M := 9) ((fun p1 q1 => (!decide (¬ nI p1 = 0) || (!decide (¬ nI q1 = 0) || (!decide (nI p1 = 1) || decide ((1 : Int32) = nI (zDrive p1 q1))))))) (by decide +kernel) p1 hp1 q1 hq1) c1) c2) c3)), ht⟩) (fun q h => nomatch h) dMo_together_33
      · refine lv_iload_n hx hb dMo_together_15 rfl (lv_at hl 1 rfl) ?_
        refine lv_iconst (v := 1) hx hb dMo_together_16 (by decide) ?_
        refine lv_icmp_eq (tgt := 32) hx hb dMo_together_17 (by decide) (fun c4 => ?_) (fun c4 => ?_)
        · refine lv_iconst (v := 1) hx hb dMo_together_32 (by decide) ?_
          exact W.iret (v := 1) hx hb hr (fun t ht hW => ⟨_, rfl, (of_decide_eq_true (ib (ib (ib (ib (al2 (N := 9) (M := 9) ((fun p1 q1 => (!decide (¬ nI p1 = 0) || (!decide (¬ nI q1 = 0) || (!decide (¬ nI p1 = 1) || (!decide (nI q1 = 1) || decide ((1 : Int32) = nI (zDrive p1 q1)))))))) (by decide +kernel) p1 hp1 q1 hq1) c1) c2) c3) c4)), ht⟩) (fun q h => nomatch h) dMo_together_33
        · refine lv_iload_n hx hb dMo_together_20 rfl (lv_at hl 0 rfl) ?_
          refine lv_bipush (v := 8) hx hb dMo_together_21 (by decide) ?_
          refine lv_icmp_eq (tgt := 32) hx hb dMo_together_23 (by decide) (fun c5 => ?_) (fun c5 => ?_)
          · refine lv_iconst (v := 1) hx hb dMo_together_32 (by decide) ?_
            exact W.iret (v := 1) hx hb hr (fun t ht hW => ⟨_, rfl, (of_decide_eq_true (ib (ib (ib (ib (ib (al2 (N := 9) (M := 9) ((fun p1 q1 => (!decide (¬ nI p1 = 0) || (!decide (¬ nI q1 = 0) || (!decide (¬ nI p1 = 1) || (!decide (¬ nI q1 = 1) || (!decide (nI p1 = 8) || decide ((1 : Int32) = nI (zDrive p1 q1))))))))) (by decide +kernel) p1 hp1 q1 hq1) c1) c2) c3) c4) c5)), ht⟩) (fun q h => nomatch h) dMo_together_33
          · refine lv_iload_n hx hb dMo_together_26 rfl (lv_at hl 1 rfl) ?_
            refine lv_bipush (v := 8) hx hb dMo_together_27 (by decide) ?_
            refine lv_icmp_ne (tgt := 34) hx hb dMo_together_29 (by decide) (fun c6 => ?_) (fun c6 => ?_)
            · refine lv_iload_n hx hb dMo_together_34 rfl (lv_at hl 0 rfl) ?_
              refine lv_iconst (v := 4) hx hb dMo_together_35 (by decide) ?_
              refine lv_icmp_ne (tgt := 41) hx hb dMo_together_36 (by decide) (fun c7 => ?_) (fun c7 => ?_)
              · refine lv_iload_n hx hb dMo_together_41 rfl (lv_at hl 1 rfl) ?_
                refine lv_iconst (v := 4) hx hb dMo_together_42 (by decide) ?_
                refine lv_icmp_ne (tgt := 48) hx hb dMo_together_43 (by decide) (fun c8 => ?_) (fun c8 => ?_)
                · refine lv_iload_n hx hb dMo_together_48 rfl (lv_at hl 0 rfl) ?_
                  refine lv_iconst (v := 2) hx hb dMo_together_49 (by decide) ?_
                  refine lv_icmp_ne (tgt := 58) hx hb dMo_together_50 (by decide) (fun c9 => ?_) (fun c9 => ?_)
                  · refine lv_iload_n hx hb dMo_together_58 rfl (lv_at hl 0 rfl) ?_
                    refine lv_iconst (v := 3) hx hb dMo_together_59 (by decide) ?_
                    refine lv_icmp_ne (tgt := 70) hx hb dMo_together_60 (by decide) (fun c10 => ?_) (fun c10 => ?_)
                    · refine lv_iload_n hx hb dMo_together_70 rfl (lv_at hl 0 rfl) ?_
                      refine lv_iconst (v := 2) hx hb dMo_together_71 (by decide) ?_
                      refine lv_icmp_eq (tgt := 80) hx hb dMo_together_72 (by decide) (fun c11 => ?_) (fun c11 => ?_)
                      · refine lv_iload_n hx hb dMo_together_80 rfl (lv_at hl 0 rfl) ?_
                        exact W.iret (v := nI p1) hx hb hr (fun t ht hW => ⟨_, rfl, (of_decide_eq_true (ib (ib (ib (ib (ib (ib (ib (ib (ib (ib (ib (al2 (N := 9) (M := 9) ((fun p1 q1 => (!decide (¬ nI p1 = 0) || (!decide (¬ nI q1 = 0) || (!decide (¬ nI p1 = 1) || (!decide (¬ nI q1 = 1) || (!decide (¬ nI p1 = 8) || (!decide (¬ nI q1 = 8) || (!decide (¬ nI p1 = 4) || (!decide (¬ nI q1 = 4) || (!decide (¬ nI p1 = 2) || (!decide (¬ nI p1 = 3) || (!decide (nI p1 = 2) || decide (nI p1 = nI (zDrive p1 q1))))))))))))))) (by decide +kernel) p1 hp1 q1 hq1) c1) c2) c3) c4) c5) c6) c7) c8) c9) c10) c11)), ht⟩) (fun q h => nomatch h) dMo_together_81
                      · refine lv_iload_n hx hb dMo_together_75 rfl (lv_at hl 0 rfl) ?_
                        refine lv_iconst (v := 3) hx hb dMo_together_76 (by decide) ?_
                        refine lv_icmp_ne (tgt := 82) hx hb dMo_together_77 (by decide) (fun c12 => ?_) (fun c12 => ?_)
                        · refine lv_iload_n hx hb dMo_together_82 rfl (lv_at hl 1 rfl) ?_
                          refine lv_iconst (v := 2) hx hb dMo_together_83 (by decide) ?_
                          refine lv_icmp_eq (tgt := 92) hx hb dMo_together_84 (by decide) (fun c13 => ?_) (fun c13 => ?_)
                          · refine lv_iload_n hx hb dMo_together_92 rfl (lv_at hl 1 rfl) ?_
                            exact W.iret (v := nI q1) hx hb hr (fun t ht hW => ⟨_, rfl, (of_decide_eq_true (ib (ib (ib (ib (ib (ib (ib (ib (ib (ib (ib (ib (ib (al2 (N := 9) (M := 9) ((fun p1 q1 => (!decide (¬ nI p1 = 0) || (!decide (¬ nI q1 = 0) || (!decide (¬ nI p1 = 1) || (!decide (¬ nI q1 = 1) || (!decide (¬ nI p1 = 8) || (!decide (¬ nI q1 = 8) || (!decide (¬ nI p1 = 4) || (!decide (¬ nI q1 = 4) || (!decide (¬ nI p1 = 2) || (!decide (¬ nI p1 = 3) || (!decide (¬ nI p1 = 2) || (!decide (¬ nI p1 = 3) || (!decide (nI q1 = 2) || decide (nI q1 = nI (zDrive p1 q1))))))))))))))))) (by decide +kernel) p1 hp1 q1 hq1) c1) c2) c3) c4) c5) c6) c7) c8) c9) c10) c11) c12) c13)), ht⟩) (fun q h => nomatch h) dMo_together_93
                          · refine lv_iload_n hx hb dMo_together_87 rfl (lv_at hl 1 rfl) ?_
                            refine lv_iconst (v := 3) hx hb dMo_together_88 (by decide) ?_
                            refine lv_icmp_ne (tgt := 94) hx hb dMo_together_89 (by decide) (fun c14 => ?_) (fun c14 => ?_)
                            · refine lv_iload_n hx hb dMo_together_94 rfl (lv_at hl 0 rfl) ?_
                              refine lv_iload_n hx hb dMo_together_95 rfl (lv_at hl 1 rfl) ?_
                              refine lv_icmp_ne (tgt := 103) hx hb dMo_together_96 (by decide) (fun c15 => ?_) (fun c15 => ?_)
                              · refine lv_iconst (v := 5) hx hb dMo_together_103 (by decide) ?_
                                exact W.iret (v := 5) hx hb hr (fun t ht hW => ⟨_, rfl, (of_decide_eq_true (ib (ib (ib (ib (ib (ib (ib (ib (ib (ib (ib (ib (ib (ib (ib (al2 (N := 9) (M := 9) ((fun p1 q1 => (!decide (¬ nI p1 = 0) || (!decide (¬ nI q1 = 0) || (!decide (¬ nI p1 = 1) || (!decide (¬ nI q1 = 1) || (!decide (¬ nI p1 = 8) || (!decide (¬ nI q1 = 8) || (!decide (¬ nI p1 = 4) || (!decide (¬ nI q1 = 4) || (!decide (¬ nI p1 = 2) || (!decide (¬ nI p1 = 3) || (!decide (¬ nI p1 = 2) || (!decide (¬ nI p1 = 3) || (!decide (¬ nI q1 = 2) || (!decide (¬ nI q1 = 3) || (!decide (¬ nI p1 = nI q1) || decide ((5 : Int32) = nI (zDrive p1 q1))))))))))))))))))) (by decide +kernel) p1 hp1 q1 hq1) c1) c2) c3) c4) c5) c6) c7) c8) c9) c10) c11) c12) c13) c14) c15)), ht⟩) (fun q h => nomatch h) dMo_together_104
                              · refine lv_iload_n hx hb dMo_together_99 rfl (lv_at hl 0 rfl) ?_
                                refine lv_goto (tgt := 104) hx hb dMo_together_100 (by decide) ?_
                                exact W.iret (v := nI p1) hx hb hr (fun t ht hW => ⟨_, rfl, (of_decide_eq_true (ib (ib (ib (ib (ib (ib (ib (ib (ib (ib (ib (ib (ib (ib (ib (al2 (N := 9) (M := 9) ((fun p1 q1 => (!decide (¬ nI p1 = 0) || (!decide (¬ nI q1 = 0) || (!decide (¬ nI p1 = 1) || (!decide (¬ nI q1 = 1) || (!decide (¬ nI p1 = 8) || (!decide (¬ nI q1 = 8) || (!decide (¬ nI p1 = 4) || (!decide (¬ nI q1 = 4) || (!decide (¬ nI p1 = 2) || (!decide (¬ nI p1 = 3) || (!decide (¬ nI p1 = 2) || (!decide (¬ nI p1 = 3) || (!decide (¬ nI q1 = 2) || (!decide (¬ nI q1 = 3) || (!decide (nI p1 = nI q1) || decide (nI p1 = nI (zDrive p1 q1))))))))))))))))))) (by decide +kernel) p1 hp1 q1 hq1) c1) c2) c3) c4) c5) c6) c7) c8) c9) c10) c11) c12) c13) c14) c15)), ht⟩) (fun q h => nomatch h) dMo_together_104
                            · refine lv_iload_n hx hb dMo_together_92 rfl (lv_at hl 1 rfl) ?_
                              exact W.iret (v := nI q1) hx hb hr (fun t ht hW => ⟨_, rfl, (of_decide_eq_true (ib (ib (ib (ib (ib (ib (ib (ib (ib (ib (ib (ib (ib (ib (al2 (N := 9) (M := 9) ((fun p1 q1 => (!decide (¬ nI p1 = 0) || (!decide (¬ nI q1 = 0) || (!decide (¬ nI p1 = 1) || (!decide (¬ nI q1 = 1) || (!decide (¬ nI p1 = 8) || (!decide (¬ nI q1 = 8) || (!decide (¬ nI p1 = 4) || (!decide (¬ nI q1 = 4) || (!decide (¬ nI p1 = 2) || (!decide (¬ nI p1 = 3) || (!decide (¬ nI p1 = 2) || (!decide (¬ nI p1 = 3) || (!decide (¬ nI q1 = 2) || (!decide (nI q1 = 3) || decide (nI q1 = nI (zDrive p1 q1)))))))))))))))))) (by decide +kernel) p1 hp1 q1 hq1) c1) c2) c3) c4) c5) c6) c7) c8) c9) c10) c11) c12) c13) c14)), ht⟩) (fun q h => nomatch h) dMo_together_93
                        · refine lv_iload_n hx hb dMo_together_80 rfl (lv_at hl 0 rfl) ?_
                          exact W.iret (v := nI p1) hx hb hr (fun t ht hW => ⟨_, rfl, (of_decide_eq_true (ib (ib (ib (ib (ib (ib (ib (ib (ib (ib (ib (ib (al2 (N := 9) (M := 9) ((fun p1 q1 => (!decide (¬ nI p1 = 0) || (!decide (¬ nI q1 = 0) || (!decide (¬ nI p1 = 1) || (!decide (¬ nI q1 = 1) || (!decide (¬ nI p1 = 8) || (!decide (¬ nI q1 = 8) || (!decide (¬ nI p1 = 4) || (!decide (¬ nI q1 = 4) || (!decide (¬ nI p1 = 2) || (!decide (¬ nI p1 = 3) || (!decide (¬ nI p1 = 2) || (!decide (nI p1 = 3) || decide (nI p1 = nI (zDrive p1 q1)))))))))))))))) (by decide +kernel) p1 hp1 q1 hq1) c1) c2) c3) c4) c5) c6) c7) c8) c9) c10) c11) c12)), ht⟩) (fun q h => nomatch h) dMo_together_81
                    · refine lv_iload_n hx hb dMo_together_63 rfl (lv_at hl 1 rfl) ?_
                      refine lv_iconst (v := 2) hx hb dMo_together_64 (by decide) ?_
                      refine lv_icmp_ne (tgt := 70) hx hb dMo_together_65 (by decide) (fun c16 => ?_) (fun c16 => ?_)
                      · refine lv_iload_n hx hb dMo_together_70 rfl (lv_at hl 0 rfl) ?_
                        refine lv_iconst (v := 2) hx hb dMo_together_71 (by decide) ?_
                        refine lv_icmp_eq (tgt := 80) hx hb dMo_together_72 (by decide) (fun c17 => ?_) (fun c17 => ?_)
                        · refine lv_iload_n hx hb dMo_together_80 rfl (lv_at hl 0 rfl) ?_
                          exact W.iret (v := nI p1) hx hb hr (fun t ht hW => ⟨_, rfl, (of_decide_eq_true (ib (ib (ib (ib (ib (ib (ib (ib (ib (ib (ib (ib (al2 (N := 9) (M := 9) ((fun p1 q1 => (!decide (¬ nI p1 = 0) || (!decide (¬ nI q1 = 0) || (!decide (¬ nI p1 = 1) || (!decide (¬ nI q1 = 1) || (!decide (¬ nI p1 = 8) || (!decide (¬ nI q1 = 8) || (!decide (¬ nI p1 = 4) || (!decide (¬ nI q1 = 4) || (!decide (¬ nI p1 = 2) || (!decide (nI p1 = 3) || (!decide (¬ nI q1 = 2) || (!decide (nI p1 = 2) || decide (nI p1 = nI (zDrive p1 q1)))))))))))))))) (by decide +kernel) p1 hp1 q1 hq1) c1) c2) c3) c4) c5) c6) c7) c8) c9) c10) c16) c17)), ht⟩) (fun q h => nomatch h) dMo_together_81
                        · refine lv_iload_n hx hb dMo_together_75 rfl (lv_at hl 0 rfl) ?_
                          refine lv_iconst (v := 3) hx hb dMo_together_76 (by decide) ?_
                          refine lv_icmp_ne (tgt := 82) hx hb dMo_together_77 (by decide) (fun c18 => ?_) (fun c18 => ?_)
                          · refine lv_iload_n hx hb dMo_together_82 rfl (lv_at hl 1 rfl) ?_
                            refine lv_iconst (v := 2) hx hb dMo_together_83 (by decide) ?_
                            refine lv_icmp_eq (tgt := 92) hx hb dMo_together_84 (by decide) (fun c19 => ?_) (fun c19 => ?_)
                            · refine lv_iload_n hx hb dMo_together_92 rfl (lv_at hl 1 rfl) ?_
                              exact W.iret (v := nI q1) hx hb hr (fun t ht hW => ⟨_, rfl, (of_decide_eq_true (ib (ib (ib (ib (ib (ib (ib (ib (ib (ib (ib (ib (ib (ib (al2 (N := 9) (M := 9) ((fun p1 q1 => (!decide (¬ nI p1 = 0) || (!decide (¬ nI q1 = 0) || (!decide (¬ nI p1 = 1) || (!decide (¬ nI q1 = 1) || (!decide (¬ nI p1 = 8) || (!decide (¬ nI q1 = 8) || (!decide (¬ nI p1 = 4) || (!decide (¬ nI q1 = 4) || (!decide (¬ nI p1 = 2) || (!decide (nI p1 = 3) || (!decide (¬ nI q1 = 2) || (!decide (¬ nI p1 = 2) || (!decide (¬ nI p1 = 3) || (!decide (nI q1 = 2) || decide (nI q1 = nI (zDrive p1 q1)))))))))))))))))) (by decide +kernel) p1 hp1 q1 hq1) c1) c2) c3) c4) c5) c6) c7) c8) c9) c10) c16) c17) c18) c19)), ht⟩) (fun q h => nomatch h) dMo_together_93
                            · refine lv_iload_n hx hb dMo_together_87 rfl (lv_at hl 1 rfl) ?_
                              refine lv_iconst (v := 3) hx hb dMo_together_88 (by decide) ?_
                              refine lv_icmp_ne (tgt := 94) hx hb dMo_together_89 (by decide) (fun c20 => ?_) (fun c20 => ?_)
                              · refine lv_iload_n hx hb dMo_together_94 rfl (lv_at hl 0 rfl) ?_
                                refine lv_iload_n hx hb dMo_together_95 rfl (lv_at hl 1 rfl) ?_
                                refine lv_icmp_ne (tgt := 103) hx hb dMo_together_96 (by decide) (fun c21 => ?_) (fun c21 => ?_)
                                · refine lv_iconst (v := 5) hx hb dMo_together_103 (by decide) ?_
                                  exact W.iret (v := 5) hx hb hr (fun t ht hW => ⟨_, rfl, (of_decide_eq_true (ib (ib (ib (ib (ib (ib (ib (ib (ib (ib (ib (ib (ib (ib (ib (ib (al2 (N := 9) (M := 9) ((fun p1 q1 => (!decide (¬ nI p1 = 0) || (!decide (¬ nI q1 = 0) || (!decide (¬ nI p1 = 1) || (!decide (¬ nI q1 = 1) || (!decide (¬ nI p1 = 8) || (!decide (¬ nI q1 = 8) || (!decide (¬ nI p1 = 4) || (!decide (¬ nI q1 = 4) || (!decide (¬ nI p1 = 2) || (!decide (nI p1 = 3) || (!decide (¬ nI q1 = 2) || (!decide (¬ nI p1 = 2) || (!decide (¬ nI p1 = 3) || (!decide (¬ nI q1 = 2) || (!decide (¬ nI q1 = 3) || (!decide (¬ nI p1 = nI q1) || decide ((5 : Int32) = nI (zDrive p1 q1)))))))))))))))))))) (by decide +kernel) p1 hp1 q1 hq1) c1) c2) c3) c4) c5) c6) c7) c8) c9) c10) c16) c17) c18) c19) c20) c21)), ht⟩) (fun q h => nomatch h) dMo_together_104
                                · refine lv_iload_n hx hb dMo_together_99 rfl (lv_at hl 0 rfl) ?_
                                  refine lv_goto (tgt := 104) hx hb dMo_together_100 (by decide) ?_
                                  exact W.iret (v := nI p1) hx hb hr (fun t ht hW => ⟨_, rfl, (of_decide_eq_true (ib (ib (ib (ib (ib (ib (ib (ib (ib (ib (ib (ib (ib (ib (ib (ib (al2 (N := 9) (M := 9) ((fun p1 q1 => (!decide (¬ nI p1 = 0) || (!decide (¬ nI q1 = 0) || (!decide (¬ nI p1 = 1) || (!decide (¬ nI q1 = 1) || (!decide (¬ nI p1 = 8) || (!decide (¬ nI q1 = 8) || (!decide (¬ nI p1 = 4) || (!decide (¬ nI q1 = 4) || (!decide (¬ nI p1 = 2) || (!decide (nI p1 = 3) || (!decide (¬ nI q1 = 2) || (!decide (¬ nI p1 = 2) || (!decide (¬ nI p1 = 3) || (!decide (¬ nI q1 = 2) || (!decide (¬ nI q1 = 3) || (!decide (nI p1 = nI q1) || decide (nI p1 = nI (zDrive p1 q1)))))))))))))))))))) (by decide +kernel) p1 hp1 q1 hq1) c1) c2) c3) c4) c5) c6) c7) c8) c9) c10) c16) c17) c18) c19) c20) c21)), ht⟩) (fun q h => nomatch h) dMo_together_104
                              · refine lv_iload_n hx hb dMo_together_92 rfl (lv_at hl 1 rfl) ?_
                                exact W.iret (v := nI q1) hx hb hr (fun t ht hW => ⟨_, rfl, (of_decide_eq_true (ib (ib (ib (ib (ib (ib (ib (ib (ib (ib (ib (ib (ib (ib (ib (al2 (N := 9) (M := 9) ((fun p1 q1 => (!decide (¬ nI p1 = 0) || (!decide (¬ nI q1 = 0) || (!decide (¬ nI p1 = 1) || (!decide (¬ nI q1 = 1) || (!decide (¬ nI p1 = 8) || (!decide (¬ nI q1 = 8) || (!decide (¬ nI p1 = 4) || (!decide (¬ nI q1 = 4) || (!decide (¬ nI p1 = 2) || (!decide (nI p1 = 3) || (!decide (¬ nI q1 = 2) || (!decide (¬ nI p1 = 2) || (!decide (¬ nI p1 = 3) || (!decide (¬ nI q1 = 2) || (!decide (nI q1 = 3) || decide (nI q1 = nI (zDrive p1 q1))))))))))))))))))) (by decide +kernel) p1 hp1 q1 hq1) c1) c2) c3) c4) c5) c6) c7) c8) c9) c10) c16) c17) c18) c19) c20)), ht⟩) (fun q h => nomatch h) dMo_together_93
                          · refine lv_iload_n hx hb dMo_together_80 rfl (lv_at hl 0 rfl) ?_
                            exact W.iret (v := nI p1) hx hb hr (fun t ht hW => ⟨_, rfl, (of_decide_eq_true (ib (ib (ib (ib (ib (ib (ib (ib (ib (ib (ib (ib (ib (al2 (N := 9) (M := 9) ((fun p1 q1 => (!decide (¬ nI p1 = 0) || (!decide (¬ nI q1 = 0) || (!decide (¬ nI p1 = 1) || (!decide (¬ nI q1 = 1) || (!decide (¬ nI p1 = 8) || (!decide (¬ nI q1 = 8) || (!decide (¬ nI p1 = 4) || (!decide (¬ nI q1 = 4) || (!decide (¬ nI p1 = 2) || (!decide (nI p1 = 3) || (!decide (¬ nI q1 = 2) || (!decide (¬ nI p1 = 2) || (!decide (nI p1 = 3) || decide (nI p1 = nI (zDrive p1 q1))))))))))))))))) (by decide +kernel) p1 hp1 q1 hq1) c1) c2) c3) c4) c5) c6) c7) c8) c9) c10) c16) c17) c18)), ht⟩) (fun q h => nomatch h) dMo_together_81
                      · refine lv_iconst (v := 1) hx hb dMo_together_68 (by decide) ?_
                        exact W.iret (v := 1) hx hb hr (fun t ht hW => ⟨_, rfl, (of_decide_eq_true (ib (ib (ib (ib (ib (ib (ib (ib (ib (ib (ib (al2 (N := 9) (M := 9) ((fun p1 q1 => (!decide (¬ nI p1 = 0) || (!decide (¬ nI q1 = 0) || (!decide (¬ nI p1 = 1) || (!decide (¬ nI q1 = 1) || (!decide (¬ nI p1 = 8) || (!decide (¬ nI q1 = 8) || (!decide (¬ nI p1 = 4) || (!decide (¬ nI q1 = 4) || (!decide (¬ nI p1 = 2) || (!decide (nI p1 = 3) || (!decide (nI q1 = 2) || decide ((1 : Int32) = nI (zDrive p1 q1))))))))))))))) (by decide +kernel) p1 hp1 q1 hq1) c1) c2) c3) c4) c5) c6) c7) c8) c9) c10) c16)), ht⟩) (fun q h => nomatch h) dMo_together_69
                  · refine lv_iload_n hx hb dMo_together_53 rfl (lv_at hl 1 rfl) ?_
                    refine lv_iconst (v := 3) hx hb dMo_together_54 (by decide) ?_
                    refine lv_icmp_eq (tgt := 68) hx hb dMo_together_55 (by decide) (fun c22 => ?_) (fun c22 => ?_)
                    · refine lv_iconst (v := 1) hx hb dMo_together_68 (by decide) ?_
                      exact W.iret (v := 1) hx hb hr (fun t ht hW => ⟨_, rfl, (of_decide_eq_true (ib (ib (ib (ib (ib (ib (ib (ib (ib (ib (al2 (N := 9) (M := 9) ((fun p1 q1 => (!decide (¬ nI p1 = 0) || (!decide (¬ nI q1 = 0) || (!decide (¬ nI p1 = 1) || (!decide (¬ nI q1 = 1) || (!decide (¬ nI p1 = 8) || (!decide (¬ nI q1 = 8) || (!decide (¬ nI p1 = 4) || (!decide (¬ nI q1 = 4) || (!decide (nI p1 = 2) || (!decide (nI q1 = 3) || decide ((1 : Int32) = nI (zDrive p1 q1)))))))))))))) (by decide +kernel) p1 hp1 q1 hq1) c1) c2) c3) c4) c5) c6) c7) c8) c9) c22)), ht⟩) (fun q h => nomatch h) dMo_together_69
                    · refine lv_iload_n hx hb dMo_together_58 rfl (lv_at hl 0 rfl) ?_
                      refine lv_iconst (v := 3) hx hb dMo_together_59 (by decide) ?_
                      refine lv_icmp_ne (tgt := 70) hx hb dMo_together_60 (by decide) (fun c23 => ?_) (fun c23 => ?_)
                      · refine lv_iload_n hx hb dMo_together_70 rfl (lv_at hl 0 rfl) ?_
                        refine lv_iconst (v := 2) hx hb dMo_together_71 (by decide) ?_
                        refine lv_icmp_eq (tgt := 80) hx hb dMo_together_72 (by decide) (fun c24 => ?_) (fun c24 => ?_)
                        · refine lv_iload_n hx hb dMo_together_80 rfl (lv_at hl 0 rfl) ?_
                          exact W.iret (v := nI p1) hx hb hr (fun t ht hW => ⟨_, rfl, (of_decide_eq_true (ib (ib (ib (ib (ib (ib (ib (ib (ib (ib (ib (ib (al2 (N := 9) (M := 9) ((fun p1 q1 => (!decide (¬ nI p1 = 0) || (!decide (¬ nI q1 = 0) || (!decide (¬ nI p1 = 1) || (!decide (¬ nI q1 = 1) || (!decide (¬ nI p1 = 8) || (!decide (¬ nI q1 = 8) || (!decide (¬ nI p1 = 4) || (!decide (¬ nI q1 = 4) || (!decide (nI p1 = 2) || (!decide (¬ nI q1 = 3) || (!decide (¬ nI p1 = 3) || (!decide (nI p1 = 2) || decide (nI p1 = nI (zDrive p1 q1)))))))))))))))) (by decide +kernel) p1 hp1 q1 hq1) c1) c2) c3) c4) c5) c6) c7) c8) c9) c22) c23) c24)), ht⟩) (fun q h => nomatch h) dMo_together_81
                        · refine lv_iload_n hx hb dMo_together_75 rfl (lv_at hl 0 rfl) ?_
                          refine lv_iconst (v := 3) hx hb dMo_together_76 (by decide) ?_
                          refine lv_icmp_ne (tgt := 82) hx hb dMo_together_77 (by decide) (fun c25 => ?_) (fun c25 => ?_)
                          · refine lv_iload_n hx hb dMo_together_82 rfl (lv_at hl 1 rfl) ?_
                            refine lv_iconst (v := 2) hx hb dMo_together_83 (by decide) ?_
                            refine lv_icmp_eq (tgt := 92) hx hb dMo_together_84 (by decide) (fun c26 => ?_) (fun c26 => ?_)
                            · refine lv_iload_n hx hb dMo_together_92 rfl (lv_at hl 1 rfl) ?_
                              exact W.iret (v := nI q1) hx hb hr (fun t ht hW => ⟨_, rfl, (of_decide_eq_true (ib (ib (ib (ib (ib (ib (ib (ib (ib (ib (ib (ib (ib (ib (al2 (N := 9) (M := 9) ((fun p1 q1 => (!decide (¬ nI p1 = 0) || (!decide (¬ nI q1 = 0) || (!decide (¬ nI p1 = 1) || (!decide (¬ nI q1 = 1) || (!decide (¬ nI p1 = 8) || (!decide (¬ nI q1 = 8) || (!decide (¬ nI p1 = 4) || (!decide (¬ nI q1 = 4) || (!decide (nI p1 = 2) || (!decide (¬ nI q1 = 3) || (!decide (¬ nI p1 = 3) || (!decide (¬ nI p1 = 2) || (!decide (¬ nI p1 = 3) || (!decide (nI q1 = 2) || decide (nI q1 = nI (zDrive p1 q1)))))))))))))))))) (by decide +kernel) p1 hp1 q1 hq1) c1) c2) c3) c4) c5) c6) c7) c8) c9) c22) c23) c24) c25) c26)), ht⟩) (fun q h => nomatch h) dMo_together_93
                            · refine lv_iload_n hx hb dMo_together_87 rfl (lv_at hl 1 rfl) ?_
                              refine lv_iconst (v := 3) hx hb dMo_together_88 (by decide) ?_
                              refine lv_icmp_ne (tgt := 94) hx hb dMo_together_89 (by decide) (fun c27 => ?_) (fun c27 => ?_)
                              · refine lv_iload_n hx hb dMo_together_94 rfl (lv_at hl 0 rfl) ?_
                                refine lv_iload_n hx hb dMo_together_95 rfl (lv_at hl 1 rfl) ?_
                                refine lv_icmp_ne (tgt := 103) hx hb dMo_together_96 (by decide) (fun c28 => ?_) (fun c28 => ?_)
                                · refine lv_iconst (v := 5) hx hb dMo_together_103 (by decide) ?_
                                  exact W.iret (v := 5) hx hb hr (fun t ht hW => ⟨_, rfl, (of_decide_eq_true (ib (ib (ib (ib (ib (ib (ib (ib (ib (ib (ib (ib (ib (ib (ib (ib (al2 (N := 9) (M := 9) ((fun p1 q1 => (!decide (¬ nI p1 = 0) || (!decide (¬ nI q1 = 0) || (!decide (¬ nI p1 = 1) || (!decide (¬ nI q1 = 1) || (!decide (¬ nI p1 = 8) || (!decide (¬ nI q1 = 8) || (!decide (¬ nI p1 = 4) || (!decide (¬ nI q1 = 4) || (!decide (nI p1 = 2) || (!decide (¬ nI q1 = 3) || (!decide (¬ nI p1 = 3) || (!decide (¬ nI p1 = 2) || (!decide (¬ nI p1 = 3) || (!decide (¬ nI q1 = 2) || (!decide (¬ nI q1 = 3) || (!decide (¬ nI p1 = nI q1) || decide ((5 : Int32) = nI (zDrive p1 q1)))))))))))))))))))) (by decide +kernel) p1 hp1 q1 hq1) c1) c2) c3) c4) c5) c6) c7) c8) c9) c22) c23) c24) c25) c26) c27) c28)), ht⟩) (fun q h => nomatch h) dMo_together_104
                                · refine lv_iload_n hx hb dMo_together_99 rfl (lv_at hl 0 rfl) ?_
                                  refine lv_goto (tgt := 104) hx hb dMo_together_100 (by decide) ?_
                                  exact W.iret (v := nI p1) hx hb hr (fun t ht hW => ⟨_, rfl, (of_decide_eq_true (ib (ib (ib (ib (ib (ib (ib (ib (ib (ib (ib (ib (ib (ib (ib (ib (al2 (N := 9) (M := 9) ((fun p1 q1 => (!decide (¬ nI p1 = 0) || (!decide (¬ nI q1 = 0) || (!decide (¬ nI p1 = 1) || (!decide (¬ nI q1 = 1) || (!decide (¬ nI p1 = 8) || (!decide (¬ nI q1 = 8) || (!decide (¬ nI p1 = 4) || (!decide (¬ nI q1 = 4) || (!decide (nI p1 = 2) || (!decide (¬ nI q1 = 3) || (!decide (¬ nI p1 = 3) || (!decide (¬ nI p1 = 2) || (!decide (¬ nI p1 = 3) || (!decide (¬ nI q1 = 2) || (!decide (¬ nI q1 = 3) || (!decide (nI p1 = nI q1) || decide (nI p1 = nI (zDrive p1 q1)))))))))))))))))))) (by decide +kernel) p1 hp1 q1 hq1) c1) c2) c3) c4) c5) c6) c7) c8) c9) c22) c23) c24) c25) c26) c27) c28)), ht⟩) (fun q h => nomatch h) dMo_together_104
                              · refine lv_iload_n hx hb dMo_together_92 rfl (lv_at hl 1 rfl) ?_
                                exact W.iret (v := nI q1) hx hb hr (fun t ht hW => ⟨_, rfl, (of_decide_eq_true (ib (ib (ib (ib (ib (ib (ib (ib (ib (ib (ib (ib (ib (ib (ib (al2 (N := 9) (M := 9) ((fun p1 q1 => (!decide (¬ nI p1 = 0) || (!decide (¬ nI q1 = 0) || (!decide (¬ nI p1 = 1) || (!decide (¬ nI q1 = 1) || (!decide (¬ nI p1 = 8) || (!decide (¬ nI q1 = 8) || (!decide (¬ nI p1 = 4) || (!decide (¬ nI q1 = 4) || (!decide (nI p1 = 2) || (!decide (¬ nI q1 = 3) || (!decide (¬ nI p1 = 3) || (!decide (¬ nI p1 = 2) || (!decide (¬ nI p1 = 3) || (!decide (¬ nI q1 = 2) || (!decide (nI q1 = 3) || decide (nI q1 = nI (zDrive p1 q1))))))))))))))))))) (by decide +kernel) p1 hp1 q1 hq1) c1) c2) c3) c4) c5) c6) c7) c8) c9) c22) c23) c24) c25) c26) c27)), ht⟩) (fun q h => nomatch h) dMo_together_93
                          · refine lv_iload_n hx hb dMo_together_80 rfl (lv_at hl 0 rfl) ?_
                            exact W.iret (v := nI p1) hx hb hr (fun t ht hW => ⟨_, rfl, (of_decide_eq_true (ib (ib (ib (ib (ib (ib (ib (ib (ib (ib (ib (ib (ib (al2 (N := 9) (M := 9) ((fun p1 q1 => (!decide (¬ nI p1 = 0) || (!decide (¬ nI q1 = 0) || (!decide (¬ nI p1 = 1) || (!decide (¬ nI q1 = 1) || (!decide (¬ nI p1 = 8) || (!decide (¬ nI q1 = 8) || (!decide (¬ nI p1 = 4) || (!decide (¬ nI q1 = 4) || (!decide (nI p1 = 2) || (!decide (¬ nI q1 = 3) || (!decide (¬ nI p1 = 3) || (!decide (¬ nI p1 = 2) || (!decide (nI p1 = 3) || decide (nI p1 = nI (zDrive p1 q1))))))))))))))))) (by decide +kernel) p1 hp1 q1 hq1) c1) c2) c3) c4) c5) c6) c7) c8) c9) c22) c23) c24) c25)), ht⟩) (fun q h => nomatch h) dMo_together_81
                      · refine lv_iload_n hx hb dMo_together_63 rfl (lv_at hl 1 rfl) ?_
                        refine lv_iconst (v := 2) hx hb dMo_together_64 (by decide) ?_
                        refine lv_icmp_ne (tgt := 70) hx hb dMo_together_65 (by decide) (fun c29 => ?_) (fun c29 => ?_)
                        · refine lv_iload_n hx hb dMo_together_70 rfl (lv_at hl 0 rfl) ?_
                          refine lv_iconst (v := 2) hx hb dMo_together_71 (by decide) ?_
                          refine lv_icmp_eq (tgt := 80) hx hb dMo_together_72 (by decide) (fun c30 => ?_) (fun c30 => ?_)
                          · refine lv_iload_n hx hb dMo_together_80 rfl (lv_at hl 0 rfl) ?_
                            exact W.iret (v := nI p1) hx hb hr (fun t ht hW => ⟨_, rfl, (of_decide_eq_true (ib (ib (ib (ib (ib (ib (ib (ib (ib (ib (ib (ib (ib (al2 (N := 9) (M := 9) ((fun p1 q1 => (!decide (¬ nI p1 = 0) || (!decide (¬ nI q1 = 0) || (!decide (¬ nI p1 = 1) || (!decide (¬ nI q1 = 1) || (!decide (¬ nI p1 = 8) || (!decide (¬ nI q1 = 8) || (!decide (¬ nI p1 = 4) || (!decide (¬ nI q1 = 4) || (!decide (nI p1 = 2) || (!decide (¬ nI q1 = 3) || (!decide (nI p1 = 3) || (!decide (¬ nI q1 = 2) || (!decide (nI p1 = 2) || decide (nI p1 = nI (zDrive p1 q1))))))))))))))))) (by decide +kernel) p1 hp1 q1 hq1) c1) c2) c3) c4) c5) c6) c7) c8) c9) c22) c23) c29) c30)), ht⟩) (fun q h => nomatch h) dMo_together_81
                          · refine lv_iload_n hx hb dMo_together_75 rfl (lv_at hl 0 rfl) ?_
                            refine lv_iconst (v := 3) hx hb dMo_together_76 (by decide) ?_
                            refine lv_icmp_ne (tgt := 82) hx hb dMo_together_77 (by decide) (fun c31 => ?_) (fun c31 => ?_)
                            · refine lv_iload_n hx hb dMo_together_82 rfl (lv_at hl 1 rfl) ?_
                              refine lv_iconst (v := 2) hx hb dMo_together_83 (by decide) ?_
                              refine lv_icmp_eq (tgt := 92) hx hb dMo_together_84 (by decide) (fun c32 => ?_) (fun c32 => ?_)
                              · refine lv_iload_n hx hb dMo_together_92 rfl (lv_at hl 1 rfl) ?_
                                exact W.iret (v := nI q1) hx hb hr (fun t ht hW => ⟨_, rfl, (of_decide_eq_true (ib (ib (ib (ib (ib (ib (ib (ib (ib (ib (ib (ib (ib (ib (ib (al2 (N := 9) (M := 9) ((fun p1 q1 => (!decide (¬ nI p1 = 0) || (!decide (¬ nI q1 = 0) || (!decide (¬ nI p1 = 1) || (!decide (¬ nI q1 = 1) || (!decide (¬ nI p1 = 8) || (!decide (¬ nI q1 = 8) || (!decide (¬ nI p1 = 4) || (!decide (¬ nI q1 = 4) || (!decide (nI p1 = 2) || (!decide (¬ nI q1 = 3) || (!decide (nI p1 = 3) || (!decide (¬ nI q1 = 2) || (!decide (¬ nI p1 = 2) || (!decide (¬ nI p1 = 3) || (!decide (nI q1 = 2) || decide (nI q1 = nI (zDrive p1 q1))))))))))))))))))) (by decide +kernel) p1 hp1 q1 hq1) c1) c2) c3) c4) c5) c6) c7) c8) c9) c22) c23) c29) c30) c31) c32)), ht⟩) (fun q h => nomatch h) dMo_together_93
                              · refine lv_iload_n hx hb dMo_together_87 rfl (lv_at hl 1 rfl) ?_
                                refine lv_iconst (v := 3) hx hb dMo_together_88 (by decide) ?_
                                refine lv_icmp_ne (tgt := 94) hx hb dMo_together_89 (by decide) (fun c33 => ?_) (fun c33 => ?_)
                                · refine lv_iload_n hx hb dMo_together_94 rfl (lv_at hl 0 rfl) ?_
                                  refine lv_iload_n hx hb dMo_together_95 rfl (lv_at hl 1 rfl) ?_
                                  refine lv_icmp_ne (tgt := 103) hx hb dMo_together_96 (by decide) (fun c34 => ?_) (fun c34 => ?_)
                                  · refine lv_iconst (v := 5) hx hb dMo_together_103 (by decide) ?_
                                    exact W.iret (v := 5) hx hb hr (fun t ht hW => ⟨_, rfl, (of_decide_eq_true (ib (ib (ib (ib (ib (ib (ib (ib (ib (ib (ib (ib (ib (ib (ib (ib (ib (al2 (N := 9) (M := 9) ((fun p1 q1 => (!decide (¬ nI p1 = 0) || (!decide (¬ nI q1 = 0) || (!decide (¬ nI p1 = 1) || (!decide (¬ nI q1 = 1) || (!decide (¬ nI p1 = 8) || (!decide (¬ nI q1 = 8) || (!decide (¬ nI p1 = 4) || (!decide (¬ nI q1 = 4) || (!decide (nI p1 = 2) || (!decide (¬ nI q1 = 3) || (!decide (nI p1 = 3) || (!decide (¬ nI q1 = 2) || (!decide (¬ nI p1 = 2) || (!decide (¬ nI p1 = 3) || (!decide (¬ nI q1 = 2) || (!decide (¬ nI q1 = 3) || (!decide (¬ nI p1 = nI q1) || decide ((5 : Int32) = nI (zDrive p1 q1))))))))))))))))))))) (by decide +kernel) p1 hp1 q1 hq1) c1) c2) c3) c4) c5) c6) c7) c8) c9) c22) c23) c29) c30) c31) c32) c33) c34)), ht⟩) (fun q h => nomatch h) dMo_together_104
                                  · refine lv_iload_n hx hb dMo_together_99 rfl (lv_at hl 0 rfl) ?_
                                    refine lv_goto (tgt := 104) hx hb dMo_together_100 (by decide) ?_
                                    exact W.iret (v := nI p1) hx hb hr (fun t ht hW => ⟨_, rfl, (of_decide_eq_true (ib (ib (ib (ib (ib (ib (ib (ib (ib (ib (ib (ib (ib (ib (ib (ib (ib (al2 (N := 9) (M := 9) ((fun p1 q1 => (!decide (¬ nI p1 = 0) || (!decide (¬ nI q1 = 0) || (!decide (¬ nI p1 = 1) || (!decide (¬ nI q1 = 1) || (!decide (¬ nI p1 = 8) || (!decide (¬ nI q1 = 8) || (!decide (¬ nI p1 = 4) || (!decide (¬ nI q1 = 4) || (!decide (nI p1 = 2) || (!decide (¬ nI q1 = 3) || (!decide (nI p1 = 3) || (!decide (¬ nI q1 = 2) || (!decide (¬ nI p1 = 2) || (!decide (¬ nI p1 = 3) || (!decide (¬ nI q1 = 2) || (!decide (¬ nI q1 = 3) || (!decide (nI p1 = nI q1) || decide (nI p1 = nI (zDrive p1 q1))))))))))))))))))))) (by decide +kernel) p1 hp1 q1 hq1) c1) c2) c3) c4) c5) c6) c7) c8) c9) c22) c23) c29) c30) c31) c32) c33) c34)), ht⟩) (fun q h => nomatch h) dMo_together_104
                                · refine lv_iload_n hx hb dMo_together_92 rfl (lv_at hl 1 rfl) ?_
                                  exact W.iret (v := nI q1) hx hb hr (fun t ht hW => ⟨_, rfl, (of_decide_eq_true (ib (ib (ib (ib (ib (ib (ib (ib (ib (ib (ib (ib (ib (ib (ib (ib (al2 (N := 9) (M := 9) ((fun p1 q1 => (!decide (¬ nI p1 = 0) || (!decide (¬ nI q1 = 0) || (!decide (¬ nI p1 = 1) || (!decide (¬ nI q1 = 1) || (!decide (¬ nI p1 = 8) || (!decide (¬ nI q1 = 8) || (!decide (¬ nI p1 = 4) || (!decide (¬ nI q1 = 4) || (!decide (nI p1 = 2) || (!decide (¬ nI q1 = 3) || (!decide (nI p1 = 3) || (!decide (¬ nI q1 = 2) || (!decide (¬ nI p1 = 2) || (!decide (¬ nI p1 = 3) || (!decide (¬ nI q1 = 2) || (!decide (nI q1 = 3) || decide (nI q1 = nI (zDrive p1 q1)))))))))))))))))))) (by decide +kernel) p1 hp1 q1 hq1) c1) c2) c3) c4) c5) c6) c7) c8) c9) c22) c23) c29) c30) c31) c32) c33)), ht⟩) (fun q h => nomatch h) dMo_together_93
                            · refine lv_iload_n hx hb dMo_together_80 rfl (lv_at hl 0 rfl) ?_
                              exact W.iret (v := nI p1) hx hb hr (fun t ht hW => ⟨_, rfl, (of_decide_eq_true (ib (ib (ib (ib (ib (ib (ib (ib (ib (ib (ib (ib (ib (ib (al2 (N := 9) (M := 9) ((fun p1 q1 => (!decide (¬ nI p1 = 0) || (!decide (¬ nI q1 = 0) || (!decide (¬ nI p1 = 1) || (!decide (¬ nI q1 = 1) || (!decide (¬ nI p1 = 8) || (!decide (¬ nI q1 = 8) || (!decide (¬ nI p1 = 4) || (!decide (¬ nI q1 = 4) || (!decide (nI p1 = 2) || (!decide (¬ nI q1 = 3) || (!decide (nI p1 = 3) || (!decide (¬ nI q1 = 2) || (!decide (¬ nI p1 = 2) || (!decide (nI p1 = 3) || decide (nI p1 = nI (zDrive p1 q1)))))))))))))))))) (by decide +kernel) p1 hp1 q1 hq1) c1) c2) c3) c4) c5) c6) c7) c8) c9) c22) c23) c29) c30) c31)), ht⟩) (fun q h => nomatch h) dMo_together_81
                        · refine lv_iconst (v := 1) hx hb dMo_together_68 (by decide) ?_
                          exact W.iret (v := 1) hx hb hr (fun t ht hW => ⟨_, rfl, (of_decide_eq_true (ib (ib (ib (ib (ib (ib (ib (ib (ib (ib (ib (ib (al2 (N := 9) (M := 9) ((fun p1 q1 => (!decide (¬ nI p1 = 0) || (!decide (¬ nI q1 = 0) || (!decide (¬ nI p1 = 1) || (!decide (¬ nI q1 = 1) || (!decide (¬ nI p1 = 8) || (!decide (¬ nI q1 = 8) || (!decide (¬ nI p1 = 4) || (!decide (¬ nI q1 = 4) || (!decide (nI p1 = 2) || (!decide (¬ nI q1 = 3) || (!decide (nI p1 = 3) || (!decide (nI q1 = 2) || decide ((1 : Int32) = nI (zDrive p1 q1)))))))))))))))) (by decide +kernel) p1 hp1 q1 hq1) c1) c2) c3) c4) c5) c6) c7) c8) c9) c22) c23) c29)), ht⟩) (fun q h => nomatch h) dMo_together_69
                · refine lv_iload_n hx hb dMo_together_46 rfl (lv_at hl 0 rfl) ?_
                  exact W.iret (v := nI p1) hx hb hr (fun t ht hW => ⟨_, rfl, (of_decide_eq_true (ib (ib (ib (ib (ib (ib (ib (ib (al2 (N := 9) (M := 9) ((fun p1 q1 => (!decide (¬ nI p1 = 0) || (!decide (¬ nI q1 = 0) || (!decide (¬ nI p1 = 1) || (!decide (¬ nI q1 = 1) || (!decide (¬ nI p1 = 8) || (!decide (¬ nI q1 = 8) || (!decide (¬ nI p1 = 4) || (!decide (nI q1 = 4) || decide (nI p1 = nI (zDrive p1 q1)))))))))))) (by decide +kernel) p1 hp1 q1 hq1) c1) c2) c3) c4) c5) c6) c7) c8)), ht⟩) (fun q h => nomatch h) dMo_together_47
              · refine lv_iload_n hx hb dMo_together_39 rfl (lv_at hl 1 rfl) ?_
                exact W.iret (v := nI q1) hx hb hr (fun t ht hW => ⟨_, rfl, (of_decide_eq_true (ib (ib (ib (ib (ib (ib (ib (al2 (N := 9) (M := 9) ((fun p1 q1 => (!decide (¬ nI p1 = 0) || (!decide (¬ nI q1 = 0) || (!decide (¬ nI p1 = 1) || (!decide (¬ nI q1 = 1) || (!decide (¬ nI p1 = 8) || (!decide (¬ nI q1 = 8) || (!decide (nI p1 = 4) || decide (nI q1 = nI (zDrive p1 q1))))))))))) (by decide +kernel) p1 hp1 q1 hq1) c1) c2) c3) c4) c5) c6) c7)), ht⟩) (fun q h => nomatch h) dMo_together_40
            · refine lv_iconst (v := 1) hx hb dMo_together_32 (by decide) ?_
              exact W.iret (v := 1) hx hb hr (fun t ht hW => ⟨_, rfl, (of_decide_eq_true (ib (ib (ib (ib (ib (ib (al2 (N := 9) (M := 9) ((fun p1 q1 => (!decide (¬ nI p1 = 0) || (!decide (¬ nI q1 = 0) || (!decide (¬ nI p1 = 1) || (!decide (¬ nI q1 = 1) || (!decide (¬ nI p1 = 8) || (!decide (nI q1 = 8) || decide ((1 : Int32) = nI (zDrive p1 q1)))))))))) (by decide +kernel) p1 hp1 q1 hq1) c1) c2) c3) c4) c5) c6)), ht⟩) (fun q h => nomatch h) dMo_together_33
    · refine lv_iconst (v := 0) hx hb dMo_together_8 (by decide) ?_
      exact W.iret (v := 0) hx hb hr (fun t ht hW => ⟨_, rfl, (of_decide_eq_true (ib (ib (al2 (N := 9) (M := 9) ((fun p1 q1 => (!decide (¬ nI p1 = 0) || (!decide (nI q1 = 0) || decide ((0 : Int32) = nI (zDrive p1 q1)))))) (by decide +kernel) p1 hp1 q1 hq1) c1) c2)), ht⟩) (fun q h => nomatch h) dMo_together_9
set_option maxHeartbeats 4000000 in
set_option maxRecDepth 100000 in
theorem c_Mo_and (l : Launch) (p1 : Nat) (hp1 : p1 < 9) (q1 : Nat) (hq1 : q1 < 9) : Met l yMo_and (Cond.code yMo_and bMo_and 2 (some .int) :: nzG) ({ frames := 1, cells := 0, slots := 0, locals := 20 }) (va_Pc [.int (nI p1), .int (nI q1)] (fun _ => True)) (vp_Si (fun r => r = nI (zAnd p1 q1))) 0 0 (fun _ => False) := by
  refine nz_of (own := RM) (by decide) rfl ?_
  intro p e s m args below meth c S hr hlocks _ hv9
  obtain ⟨rfl, -⟩ := hv9
  have hx := S.1
  have hb := S.2.1
  refine nz_entry (vs := [.int (nI p1), .int (nI q1)]) (n := 2) (lv := [(0, .int (nI p1)), (1, .int (nI q1))]) (Nat.le_of_ble_eq_true rfl) rfl (fun ls hl => ?_)
  refine lv_iload_n hx hb dMo_and_0 rfl (lv_at hl 0 rfl) ?_
  refine nz_si (As := [.int (nI p1)]) (rest := []) S (c_Mo_isLow l p1 hp1) kMo_23 ⟨rfl, rfl, Nat.le_of_ble_eq_true rfl, Nat.le_of_ble_eq_true rfl⟩ ⟨Nat.zero_le _, Nat.zero_le _⟩ (fun _ _ _ _ h => h) (fun _ _ _ => trivial) rfl hl.1 rfl (Nat.le_of_ble_eq_true rfl) dMo_and_1 (fun r1 er1 => ?_)
  subst er1
  refine lv_if_ne (tgt := 14) hx hb dMo_and_4 (by decide) (fun c2 => ?_) (fun c2 => ?_)
  · refine lv_iconst (v := 2) hx hb dMo_and_14 (by decide) ?_
    exact W.iret (v := 2) hx hb hr (fun t ht hW => ⟨_, rfl, (of_decide_eq_true (ib (al2 (N := 9) (M := 9) ((fun p1 q1 => (!decide (¬ nI (zLow p1) = 0) || decide ((2 : Int32) = nI (zAnd p1 q1))))) (by decide +kernel) p1 hp1 q1 hq1) c2)), ht⟩) (fun q h => nomatch h) dMo_and_15
  · refine lv_iload_n hx hb dMo_and_7 rfl (lv_at hl 1 rfl) ?_
    refine nz_si (As := [.int (nI q1)]) (rest := []) S (c_Mo_isLow l q1 hq1) kMo_23 ⟨rfl, rfl, Nat.le_of_ble_eq_true rfl, Nat.le_of_ble_eq_true rfl⟩ ⟨Nat.zero_le _, Nat.zero_le _⟩ (fun _ _ _ _ h => h) (fun _ _ _ => trivial) rfl hl.1 rfl (Nat.le_of_ble_eq_true rfl) dMo_and_8 (fun r3 er3 => ?_)
    subst er3
    refine lv_if_eq (tgt := 16) hx hb dMo_and_11 (by decide) (fun c4 => ?_) (fun c4 => ?_)
    · refine lv_iload_n hx hb dMo_and_16 rfl (lv_at hl 0 rfl) ?_
      refine lv_if_eq (tgt := 24) hx hb dMo_and_17 (by decide) (fun c5 => ?_) (fun c5 => ?_)
      · refine lv_iconst (v := 0) hx hb dMo_and_24 (by decide) ?_
        exact W.iret (v := 0) hx hb hr (fun t ht hW => ⟨_, rfl, (of_decide_eq_true (ib (ib (ib (al2 (N := 9) (M := 9) ((fun p1 q1 => (!decide (nI (zLow p1) = 0) || (!decide (nI (zLow q1) = 0) || (!decide (nI p1 = 0) || decide ((0 : Int32) = nI (zAnd p1 q1))))))) (by decide +kernel) p1 hp1 q1 hq1) c2) c4) c5)), ht⟩) (fun q h => nomatch h) dMo_and_25
      · refine lv_iload_n hx hb dMo_and_20 rfl (lv_at hl 1 rfl) ?_
        refine lv_if_ne (tgt := 26) hx hb dMo_and_21 (by decide) (fun c6 => ?_) (fun c6 => ?_)
        · refine lv_iload_n hx hb dMo_and_26 rfl (lv_at hl 0 rfl) ?_
          refine nz_si (As := [.int (nI p1)]) (rest := []) S (c_Mo_isHigh l p1 hp1) kMo_27 ⟨rfl, rfl, Nat.le_of_ble_eq_true rfl, Nat.le_of_ble_eq_true rfl⟩ ⟨Nat.zero_le _, Nat.zero_le _⟩ (fun _ _ _ _ h => h) (fun _ _ _ => trivial) rfl hl.1 rfl (Nat.le_of_ble_eq_true rfl) dMo_and_27 (fun r7 er7 => ?_)
          subst er7
          refine lv_if_eq (tgt := 44) hx hb dMo_and_30 (by decide) (fun c8 => ?_) (fun c8 => ?_)
          · refine lv_iconst (v := 1) hx hb dMo_and_44 (by decide) ?_
            exact W.iret (v := 1) hx hb hr (fun t ht hW => ⟨_, rfl, (of_decide_eq_true (ib (ib (ib (ib (ib (al2 (N := 9) (M := 9) ((fun p1 q1 => (!decide (nI (zLow p1) = 0) || (!decide (nI (zLow q1) = 0) || (!decide (¬ nI p1 = 0) || (!decide (¬ nI q1 = 0) || (!decide (nI (zHigh p1) = 0) || decide ((1 : Int32) = nI (zAnd p1 q1))))))))) (by decide +kernel) p1 hp1 q1 hq1) c2) c4) c5) c6) c8)), ht⟩) (fun q h => nomatch h) dMo_and_45
          · refine lv_iload_n hx hb dMo_and_33 rfl (lv_at hl 1 rfl) ?_
            refine nz_si (As := [.int (nI q1)]) (rest := []) S (c_Mo_isHigh l q1 hq1) kMo_27 ⟨rfl, rfl, Nat.le_of_ble_eq_true rfl, Nat.le_of_ble_eq_true rfl⟩ ⟨Nat.zero_le _, Nat.zero_le _⟩ (fun _ _ _ _ h => h) (fun _ _ _ => trivial) rfl hl.1 rfl (Nat.le_of_ble_eq_true rfl) dMo_and_34 (fun r9 er9 => ?_)
            subst er9
            refine lv_if_eq (tgt := 44) hx hb dMo_and_37 (by decide) (fun c10 => ?_) (fun c10 => ?_)
            · refine lv_iconst (v := 1) hx hb dMo_and_44 (by decide) ?_
              exact W.iret (v := 1) hx hb hr (fun t ht hW => ⟨_, rfl, (of_decide_eq_true (ib (ib (ib (ib (ib (ib (al2 (N := 9) (M := 9) ((fun p1 q1 => (!decide (nI (zLow p1) = 0) || (!decide (nI (zLow q1) = 0) || (!decide (¬ nI p1 = 0) || (!decide (¬ nI q1 = 0) || (!decide (¬ nI (zHigh p1) = 0) || (!decide (nI (zHigh q1) = 0) || decide ((1 : Int32) = nI (zAnd p1 q1)))))))))) (by decide +kernel) p1 hp1 q1 hq1) c2) c4) c5) c6) c8) c10)), ht⟩) (fun q h => nomatch h) dMo_and_45
            · refine lv_iconst (v := 3) hx hb dMo_and_40 (by decide) ?_
              refine lv_goto (tgt := 45) hx hb dMo_and_41 (by decide) ?_
              exact W.iret (v := 3) hx hb hr (fun t ht hW => ⟨_, rfl, (of_decide_eq_true (ib (ib (ib (ib (ib (ib (al2 (N := 9) (M := 9) ((fun p1 q1 => (!decide (nI (zLow p1) = 0) || (!decide (nI (zLow q1) = 0) || (!decide (¬ nI p1 = 0) || (!decide (¬ nI q1 = 0) || (!decide (¬ nI (zHigh p1) = 0) || (!decide (¬ nI (zHigh q1) = 0) || decide ((3 : Int32) = nI (zAnd p1 q1)))))))))) (by decide +kernel) p1 hp1 q1 hq1) c2) c4) c5) c6) c8) c10)), ht⟩) (fun q h => nomatch h) dMo_and_45
        · refine lv_iconst (v := 0) hx hb dMo_and_24 (by decide) ?_
          exact W.iret (v := 0) hx hb hr (fun t ht hW => ⟨_, rfl, (of_decide_eq_true (ib (ib (ib (ib (al2 (N := 9) (M := 9) ((fun p1 q1 => (!decide (nI (zLow p1) = 0) || (!decide (nI (zLow q1) = 0) || (!decide (¬ nI p1 = 0) || (!decide (nI q1 = 0) || decide ((0 : Int32) = nI (zAnd p1 q1)))))))) (by decide +kernel) p1 hp1 q1 hq1) c2) c4) c5) c6)), ht⟩) (fun q h => nomatch h) dMo_and_25
    · refine lv_iconst (v := 2) hx hb dMo_and_14 (by decide) ?_
      exact W.iret (v := 2) hx hb hr (fun t ht hW => ⟨_, rfl, (of_decide_eq_true (ib (ib (al2 (N := 9) (M := 9) ((fun p1 q1 => (!decide (nI (zLow p1) = 0) || (!decide (¬ nI (zLow q1) = 0) || decide ((2 : Int32) = nI (zAnd p1 q1)))))) (by decide +kernel) p1 hp1 q1 hq1) c2) c4)), ht⟩) (fun q h => nomatch h) dMo_and_15
set_option maxHeartbeats 4000000 in
set_option maxRecDepth 100000 in
theorem c_Mo_or (l : Launch) (p1 : Nat) (hp1 : p1 < 9) (q1 : Nat) (hq1 : q1 < 9) : Met l yMo_or (Cond.code yMo_or bMo_or 2 (some .int) :: nzG) ({ frames := 1, cells := 0, slots := 0, locals := 20 }) (va_Pc [.int (nI p1), .int (nI q1)] (fun _ => True)) (vp_Si (fun r => r = nI (zOr p1 q1))) 0 0 (fun _ => False) := by
  refine nz_of (own := RM) (by decide) rfl ?_
  intro p e s m args below meth c S hr hlocks _ hv9
  obtain ⟨rfl, -⟩ := hv9
  have hx := S.1
  have hb := S.2.1
  refine nz_entry (vs := [.int (nI p1), .int (nI q1)]) (n := 2) (lv := [(0, .int (nI p1)), (1, .int (nI q1))]) (Nat.le_of_ble_eq_true rfl) rfl (fun ls hl => ?_)
  refine lv_iload_n hx hb dMo_or_0 rfl (lv_at hl 0 rfl) ?_
  refine nz_si (As := [.int (nI p1)]) (rest := []) S (c_Mo_isHigh l p1 hp1) kMo_27 ⟨rfl, rfl, Nat.le_of_ble_eq_true rfl, Nat.le_of_ble_eq_true rfl⟩ ⟨Nat.zero_le _, Nat.zero_le _⟩ (fun _ _ _ _ h => h) (fun _ _ _ => trivial) rfl hl.1 rfl (Nat.le_of_ble_eq_true rfl) dMo_or_1 (fun r1 er1 => ?_)
  subst er1
  refine lv_if_ne (tgt := 14) hx hb dMo_or_4 (by decide) (fun c2 => ?_) (fun c2 => ?_)
  · refine lv_iconst (v := 3) hx hb dMo_or_14 (by decide) ?_
    exact W.iret (v := 3) hx hb hr (fun t ht hW => ⟨_, rfl, (of_decide_eq_true (ib (al2 (N := 9) (M := 9) ((fun p1 q1 => (!decide (¬ nI (zHigh p1) = 0) || decide ((3 : Int32) = nI (zOr p1 q1))))) (by decide +kernel) p1 hp1 q1 hq1) c2)), ht⟩) (fun q h => nomatch h) dMo_or_15
  · refine lv_iload_n hx hb dMo_or_7 rfl (lv_at hl 1 rfl) ?_
    refine nz_si (As := [.int (nI q1)]) (rest := []) S (c_Mo_isHigh l q1 hq1) kMo_27 ⟨rfl, rfl, Nat.le_of_ble_eq_true rfl, Nat.le_of_ble_eq_true rfl⟩ ⟨Nat.zero_le _, Nat.zero_le _⟩ (fun _ _ _ _ h => h) (fun _ _ _ => trivial) rfl hl.1 rfl (Nat.le_of_ble_eq_true rfl) dMo_or_8 (fun r3 er3 => ?_)
    subst er3
    refine lv_if_eq (tgt := 16) hx hb dMo_or_11 (by decide) (fun c4 => ?_) (fun c4 => ?_)
    · refine lv_iload_n hx hb dMo_or_16 rfl (lv_at hl 0 rfl) ?_
      refine lv_if_eq (tgt := 24) hx hb dMo_or_17 (by decide) (fun c5 => ?_) (fun c5 => ?_)
      · refine lv_iconst (v := 0) hx hb dMo_or_24 (by decide) ?_
        exact W.iret (v := 0) hx hb hr (fun t ht hW => ⟨_, rfl, (of_decide_eq_true (ib (ib (ib (al2 (N := 9) (M := 9) ((fun p1 q1 => (!decide (nI (zHigh p1) = 0) || (!decide (nI (zHigh q1) = 0) || (!decide (nI p1 = 0) || decide ((0 : Int32) = nI (zOr p1 q1))))))) (by decide +kernel) p1 hp1 q1 hq1) c2) c4) c5)), ht⟩) (fun q h => nomatch h) dMo_or_25
      · refine lv_iload_n hx hb dMo_or_20 rfl (lv_at hl 1 rfl) ?_
        refine lv_if_ne (tgt := 26) hx hb dMo_or_21 (by decide) (fun c6 => ?_) (fun c6 => ?_)
        · refine lv_iload_n hx hb dMo_or_26 rfl (lv_at hl 0 rfl) ?_
          refine nz_si (As := [.int (nI p1)]) (rest := []) S (c_Mo_isLow l p1 hp1) kMo_23 ⟨rfl, rfl, Nat.le_of_ble_eq_true rfl, Nat.le_of_ble_eq_true rfl⟩ ⟨Nat.zero_le _, Nat.zero_le _⟩ (fun _ _ _ _ h => h) (fun _ _ _ => trivial) rfl hl.1 rfl (Nat.le_of_ble_eq_true rfl) dMo_or_27 (fun r7 er7 => ?_)
          subst er7
          refine lv_if_eq (tgt := 44) hx hb dMo_or_30 (by decide) (fun c8 => ?_) (fun c8 => ?_)
          · refine lv_iconst (v := 1) hx hb dMo_or_44 (by decide) ?_
            exact W.iret (v := 1) hx hb hr (fun t ht hW => ⟨_, rfl, (of_decide_eq_true (ib (ib (ib (ib (ib (al2 (N := 9) (M := 9) ((fun p1 q1 => (!decide (nI (zHigh p1) = 0) || (!decide (nI (zHigh q1) = 0) || (!decide (¬ nI p1 = 0) || (!decide (¬ nI q1 = 0) || (!decide (nI (zLow p1) = 0) || decide ((1 : Int32) = nI (zOr p1 q1))))))))) (by decide +kernel) p1 hp1 q1 hq1) c2) c4) c5) c6) c8)), ht⟩) (fun q h => nomatch h) dMo_or_45
          · refine lv_iload_n hx hb dMo_or_33 rfl (lv_at hl 1 rfl) ?_
            refine nz_si (As := [.int (nI q1)]) (rest := []) S (c_Mo_isLow l q1 hq1) kMo_23 ⟨rfl, rfl, Nat.le_of_ble_eq_true rfl, Nat.le_of_ble_eq_true rfl⟩ ⟨Nat.zero_le _, Nat.zero_le _⟩ (fun _ _ _ _ h => h) (fun _ _ _ => trivial) rfl hl.1 rfl (Nat.le_of_ble_eq_true rfl) dMo_or_34 (fun r9 er9 => ?_)
            subst er9
            refine lv_if_eq (tgt := 44) hx hb dMo_or_37 (by decide) (fun c10 => ?_) (fun c10 => ?_)
            · refine lv_iconst (v := 1) hx hb dMo_or_44 (by decide) ?_
              exact W.iret (v := 1) hx hb hr (fun t ht hW => ⟨_, rfl, (of_decide_eq_true (ib (ib (ib (ib (ib (ib (al2 (N := 9) (M := 9) ((fun p1 q1 => (!decide (nI (zHigh p1) = 0) || (!decide (nI (zHigh q1) = 0) || (!decide (¬ nI p1 = 0) || (!decide (¬ nI q1 = 0) || (!decide (¬ nI (zLow p1) = 0) || (!decide (nI (zLow q1) = 0) || decide ((1 : Int32) = nI (zOr p1 q1)))))))))) (by decide +kernel) p1 hp1 q1 hq1) c2) c4) c5) c6) c8) c10)), ht⟩) (fun q h => nomatch h) dMo_or_45
            · refine lv_iconst (v := 2) hx hb dMo_or_40 (by decide) ?_
              refine lv_goto (tgt := 45) hx hb dMo_or_41 (by decide) ?_
              exact W.iret (v := 2) hx hb hr (fun t ht hW => ⟨_, rfl, (of_decide_eq_true (ib (ib (ib (ib (ib (ib (al2 (N := 9) (M := 9) ((fun p1 q1 => (!decide (nI (zHigh p1) = 0) || (!decide (nI (zHigh q1) = 0) || (!decide (¬ nI p1 = 0) || (!decide (¬ nI q1 = 0) || (!decide (¬ nI (zLow p1) = 0) || (!decide (¬ nI (zLow q1) = 0) || decide ((2 : Int32) = nI (zOr p1 q1)))))))))) (by decide +kernel) p1 hp1 q1 hq1) c2) c4) c5) c6) c8) c10)), ht⟩) (fun q h => nomatch h) dMo_or_45
        · refine lv_iconst (v := 0) hx hb dMo_or_24 (by decide) ?_
          exact W.iret (v := 0) hx hb hr (fun t ht hW => ⟨_, rfl, (of_decide_eq_true (ib (ib (ib (ib (al2 (N := 9) (M := 9) ((fun p1 q1 => (!decide (nI (zHigh p1) = 0) || (!decide (nI (zHigh q1) = 0) || (!decide (¬ nI p1 = 0) || (!decide (nI q1 = 0) || decide ((0 : Int32) = nI (zOr p1 q1)))))))) (by decide +kernel) p1 hp1 q1 hq1) c2) c4) c5) c6)), ht⟩) (fun q h => nomatch h) dMo_or_25
    · refine lv_iconst (v := 3) hx hb dMo_or_14 (by decide) ?_
      exact W.iret (v := 3) hx hb hr (fun t ht hW => ⟨_, rfl, (of_decide_eq_true (ib (ib (al2 (N := 9) (M := 9) ((fun p1 q1 => (!decide (nI (zHigh p1) = 0) || (!decide (¬ nI (zHigh q1) = 0) || decide ((3 : Int32) = nI (zOr p1 q1)))))) (by decide +kernel) p1 hp1 q1 hq1) c2) c4)), ht⟩) (fun q h => nomatch h) dMo_or_15
set_option maxHeartbeats 4000000 in
set_option maxRecDepth 100000 in
theorem c_Mo_xor (l : Launch) (p1 : Nat) (hp1 : p1 < 9) (q1 : Nat) (hq1 : q1 < 9) : Met l yMo_xor (Cond.code yMo_xor bMo_xor 2 (some .int) :: nzG) ({ frames := 2, cells := 0, slots := 0, locals := 40 }) (va_Pc [.int (nI p1), .int (nI q1)] (fun _ => True)) (vp_Si (fun r => r = nI (zXor p1 q1))) 0 0 (fun _ => False) := by
  refine nz_of (own := RM) (by decide) rfl ?_
  intro p e s m args below meth c S hr hlocks _ hv9
  obtain ⟨rfl, -⟩ := hv9
  have hx := S.1
  have hb := S.2.1
  refine nz_entry (vs := [.int (nI p1), .int (nI q1)]) (n := 2) (lv := [(0, .int (nI p1)), (1, .int (nI q1))]) (Nat.le_of_ble_eq_true rfl) rfl (fun ls hl => ?_)
  refine lv_iload_n hx hb dMo_xor_0 rfl (lv_at hl 0 rfl) ?_
  refine lv_if_eq (tgt := 8) hx hb dMo_xor_1 (by decide) (fun c1 => ?_) (fun c1 => ?_)
  · refine lv_iconst (v := 0) hx hb dMo_xor_8 (by decide) ?_
    exact W.iret (v := 0) hx hb hr (fun t ht hW => ⟨_, rfl, (of_decide_eq_true (ib (al2 (N := 9) (M := 9) ((fun p1 q1 => (!decide (nI p1 = 0) || decide ((0 : Int32) = nI (zXor p1 q1))))) (by decide +kernel) p1 hp1 q1 hq1) c1)), ht⟩) (fun q h => nomatch h) dMo_xor_9
  · refine lv_iload_n hx hb dMo_xor_4 rfl (lv_at hl 1 rfl) ?_
    refine lv_if_ne (tgt := 10) hx hb dMo_xor_5 (by decide) (fun c2 => ?_) (fun c2 => ?_)
    · refine lv_iload_n hx hb dMo_xor_10 rfl (lv_at hl 0 rfl) ?_
      refine nz_si (As := [.int (nI p1)]) (rest := []) S (c_Mo_isClear l p1 hp1) kMo_48 ⟨rfl, rfl, Nat.le_of_ble_eq_true rfl, Nat.le_of_ble_eq_true rfl⟩ ⟨Nat.zero_le _, Nat.zero_le _⟩ (fun _ _ _ _ h => h) (fun _ _ _ => trivial) rfl hl.1 rfl (Nat.le_of_ble_eq_true rfl) dMo_xor_11 (fun r3 er3 => ?_)
      subst er3
      refine lv_if_eq (tgt := 24) hx hb dMo_xor_14 (by decide) (fun c4 => ?_) (fun c4 => ?_)
      · refine lv_iconst (v := 1) hx hb dMo_xor_24 (by decide) ?_
        exact W.iret (v := 1) hx hb hr (fun t ht hW => ⟨_, rfl, (of_decide_eq_true (ib (ib (ib (al2 (N := 9) (M := 9) ((fun p1 q1 => (!decide (¬ nI p1 = 0) || (!decide (¬ nI q1 = 0) || (!decide (nI (zClear p1) = 0) || decide ((1 : Int32) = nI (zXor p1 q1))))))) (by decide +kernel) p1 hp1 q1 hq1) c1) c2) c4)), ht⟩) (fun q h => nomatch h) dMo_xor_25
      · refine lv_iload_n hx hb dMo_xor_17 rfl (lv_at hl 1 rfl) ?_
        refine nz_si (As := [.int (nI q1)]) (rest := []) S (c_Mo_isClear l q1 hq1) kMo_48 ⟨rfl, rfl, Nat.le_of_ble_eq_true rfl, Nat.le_of_ble_eq_true rfl⟩ ⟨Nat.zero_le _, Nat.zero_le _⟩ (fun _ _ _ _ h => h) (fun _ _ _ => trivial) rfl hl.1 rfl (Nat.le_of_ble_eq_true rfl) dMo_xor_18 (fun r5 er5 => ?_)
        subst er5
        refine lv_if_ne (tgt := 26) hx hb dMo_xor_21 (by decide) (fun c6 => ?_) (fun c6 => ?_)
        · refine lv_iload_n hx hb dMo_xor_26 rfl (lv_at hl 0 rfl) ?_
          refine nz_si (As := [.int (nI p1)]) (rest := []) S (c_Mo_isHigh l p1 hp1) kMo_27 ⟨rfl, rfl, Nat.le_of_ble_eq_true rfl, Nat.le_of_ble_eq_true rfl⟩ ⟨Nat.zero_le _, Nat.zero_le _⟩ (fun _ _ _ _ h => h) (fun _ _ _ => trivial) rfl hl.1 rfl (Nat.le_of_ble_eq_true rfl) dMo_xor_27 (fun r7 er7 => ?_)
          subst er7
          refine lv_iload_n hx hb dMo_xor_30 rfl (lv_at hl 1 rfl) ?_
          refine nz_si (As := [.int (nI q1)]) (rest := [.int (nI (zHigh p1))]) S (c_Mo_isHigh l q1 hq1) kMo_27 ⟨rfl, rfl, Nat.le_of_ble_eq_true rfl, Nat.le_of_ble_eq_true rfl⟩ ⟨Nat.zero_le _, Nat.zero_le _⟩ (fun _ _ _ _ h => h) (fun _ _ _ => trivial) rfl hl.1 rfl (Nat.le_of_ble_eq_true rfl) dMo_xor_31 (fun r8 er8 => ?_)
          subst er8
          refine lv_icmp_ne (tgt := 41) hx hb dMo_xor_34 (by decide) (fun c9 => ?_) (fun c9 => ?_)
          · refine lv_iconst (v := 3) hx hb dMo_xor_41 (by decide) ?_
            exact W.iret (v := 3) hx hb hr (fun t ht hW => ⟨_, rfl, (of_decide_eq_true (ib (ib (ib (ib (ib (al2 (N := 9) (M := 9) ((fun p1 q1 => (!decide (¬ nI p1 = 0) || (!decide (¬ nI q1 = 0) || (!decide (¬ nI (zClear p1) = 0) || (!decide (¬ nI (zClear q1) = 0) || (!decide (¬ nI (zHigh p1) = nI (zHigh q1)) || decide ((3 : Int32) = nI (zXor p1 q1))))))))) (by decide +kernel) p1 hp1 q1 hq1) c1) c2) c4) c6) c9)), ht⟩) (fun q h => nomatch h) dMo_xor_42
          · refine lv_iconst (v := 2) hx hb dMo_xor_37 (by decide) ?_
            refine lv_goto (tgt := 42) hx hb dMo_xor_38 (by decide) ?_
            exact W.iret (v := 2) hx hb hr (fun t ht hW => ⟨_, rfl, (of_decide_eq_true (ib (ib (ib (ib (ib (al2 (N := 9) (M := 9) ((fun p1 q1 => (!decide (¬ nI p1 = 0) || (!decide (¬ nI q1 = 0) || (!decide (¬ nI (zClear p1) = 0) || (!decide (¬ nI (zClear q1) = 0) || (!decide (nI (zHigh p1) = nI (zHigh q1)) || decide ((2 : Int32) = nI (zXor p1 q1))))))))) (by decide +kernel) p1 hp1 q1 hq1) c1) c2) c4) c6) c9)), ht⟩) (fun q h => nomatch h) dMo_xor_42
        · refine lv_iconst (v := 1) hx hb dMo_xor_24 (by decide) ?_
          exact W.iret (v := 1) hx hb hr (fun t ht hW => ⟨_, rfl, (of_decide_eq_true (ib (ib (ib (ib (al2 (N := 9) (M := 9) ((fun p1 q1 => (!decide (¬ nI p1 = 0) || (!decide (¬ nI q1 = 0) || (!decide (¬ nI (zClear p1) = 0) || (!decide (nI (zClear q1) = 0) || decide ((1 : Int32) = nI (zXor p1 q1)))))))) (by decide +kernel) p1 hp1 q1 hq1) c1) c2) c4) c6)), ht⟩) (fun q h => nomatch h) dMo_xor_25
    · refine lv_iconst (v := 0) hx hb dMo_xor_8 (by decide) ?_
      exact W.iret (v := 0) hx hb hr (fun t ht hW => ⟨_, rfl, (of_decide_eq_true (ib (ib (al2 (N := 9) (M := 9) ((fun p1 q1 => (!decide (¬ nI p1 = 0) || (!decide (nI q1 = 0) || decide ((0 : Int32) = nI (zXor p1 q1)))))) (by decide +kernel) p1 hp1 q1 hq1) c1) c2)), ht⟩) (fun q h => nomatch h) dMo_xor_9
set_option maxHeartbeats 4000000 in
set_option maxRecDepth 100000 in
theorem c_Mo_byTable (l : Launch) (o1 : Nat) (ho1 : o1 < 7) (p1 : Nat) (hp1 : p1 < 9) (q1 : Nat) (hq1 : q1 < 9) : Met l yMo_byTable (Cond.code yMo_byTable bMo_byTable 3 (some .int) :: nzG) ({ frames := 3, cells := 0, slots := 0, locals := 61 }) (va_Pc [.int (nI o1), .int (nI p1), .int (nI q1)] (fun _ => True)) (vp_Si (fun r => r = nI (zJoin o1 p1 q1))) 0 0 (fun _ => False) := by
  refine nz_of (own := RM) (by decide) rfl ?_
  intro p e s m args below meth c S hr hlocks _ hv9
  obtain ⟨rfl, -⟩ := hv9
  have hx := S.1
  have hb := S.2.1
  refine nz_entry (vs := [.int (nI o1), .int (nI p1), .int (nI q1)]) (n := 3) (lv := [(0, .int (nI o1)), (1, .int (nI p1)), (2, .int (nI q1))]) (Nat.le_of_ble_eq_true rfl) rfl (fun ls hl => ?_)
  refine lv_iload_n hx hb dMo_byTable_0 rfl (lv_at hl 0 rfl) ?_
  rcases (show o1 = 0 ∨ o1 = 1 ∨ o1 = 2 ∨ o1 = 3 ∨ o1 = 4 ∨ o1 = 5 ∨ o1 = 6 by omega) with rfl | rfl | rfl | rfl | rfl | rfl | rfl
  · refine lv_tableIn (tgt := 40) hx hb dMo_byTable_1 (by decide) (by decide) rfl (by decide) ?_
    refine lv_iload_n hx hb dMo_byTable_40 rfl (lv_at hl 1 rfl) ?_
    refine lv_iload_n hx hb dMo_byTable_41 rfl (lv_at hl 2 rfl) ?_
    refine nz_si (As := [.int (nI p1), .int (nI q1)]) (rest := []) S (c_Mo_together l p1 hp1 q1 hq1) kMo_60 ⟨rfl, rfl, Nat.le_of_ble_eq_true rfl, Nat.le_of_ble_eq_true rfl⟩ ⟨Nat.zero_le _, Nat.zero_le _⟩ (fun _ _ _ _ h => h) (fun _ _ _ => trivial) rfl hl.1 rfl (Nat.le_of_ble_eq_true rfl) dMo_byTable_42 (fun r1 er1 => ?_)
    subst er1
    exact W.iret (v := nI (zDrive p1 q1)) hx hb hr (fun t ht hW => ⟨_, rfl, (of_decide_eq_true (al2 (N := 9) (M := 9) ((fun p1 q1 => decide (nI (zDrive p1 q1) = nI (zJoin 0 p1 q1)))) (by decide +kernel) p1 hp1 q1 hq1)), ht⟩) (fun q h => nomatch h) dMo_byTable_45
  · refine lv_tableIn (tgt := 46) hx hb dMo_byTable_1 (by decide) (by decide) rfl (by decide) ?_
    refine lv_iload_n hx hb dMo_byTable_46 rfl (lv_at hl 1 rfl) ?_
    refine lv_iload_n hx hb dMo_byTable_47 rfl (lv_at hl 2 rfl) ?_
    refine nz_si (As := [.int (nI p1), .int (nI q1)]) (rest := []) S (c_Mo_and l p1 hp1 q1 hq1) kMo_63 ⟨rfl, rfl, Nat.le_of_ble_eq_true rfl, Nat.le_of_ble_eq_true rfl⟩ ⟨Nat.zero_le _, Nat.zero_le _⟩ (fun _ _ _ _ h => h) (fun _ _ _ => trivial) rfl hl.1 rfl (Nat.le_of_ble_eq_true rfl) dMo_byTable_48 (fun r2 er2 => ?_)
    subst er2
    exact W.iret (v := nI (zAnd p1 q1)) hx hb hr (fun t ht hW => ⟨_, rfl, (of_decide_eq_true (al2 (N := 9) (M := 9) ((fun p1 q1 => decide (nI (zAnd p1 q1) = nI (zJoin 1 p1 q1)))) (by decide +kernel) p1 hp1 q1 hq1)), ht⟩) (fun q h => nomatch h) dMo_byTable_51
  · refine lv_tableIn (tgt := 52) hx hb dMo_byTable_1 (by decide) (by decide) rfl (by decide) ?_
    refine lv_iload_n hx hb dMo_byTable_52 rfl (lv_at hl 1 rfl) ?_
    refine lv_iload_n hx hb dMo_byTable_53 rfl (lv_at hl 2 rfl) ?_
    refine nz_si (As := [.int (nI p1), .int (nI q1)]) (rest := []) S (c_Mo_or l p1 hp1 q1 hq1) kMo_66 ⟨rfl, rfl, Nat.le_of_ble_eq_true rfl, Nat.le_of_ble_eq_true rfl⟩ ⟨Nat.zero_le _, Nat.zero_le _⟩ (fun _ _ _ _ h => h) (fun _ _ _ => trivial) rfl hl.1 rfl (Nat.le_of_ble_eq_true rfl) dMo_byTable_54 (fun r3 er3 => ?_)
    subst er3
    exact W.iret (v := nI (zOr p1 q1)) hx hb hr (fun t ht hW => ⟨_, rfl, (of_decide_eq_true (al2 (N := 9) (M := 9) ((fun p1 q1 => decide (nI (zOr p1 q1) = nI (zJoin 2 p1 q1)))) (by decide +kernel) p1 hp1 q1 hq1)), ht⟩) (fun q h => nomatch h) dMo_byTable_57
  · refine lv_tableIn (tgt := 58) hx hb dMo_byTable_1 (by decide) (by decide) rfl (by decide) ?_
    refine lv_iload_n hx hb dMo_byTable_58 rfl (lv_at hl 1 rfl) ?_
    refine lv_iload_n hx hb dMo_byTable_59 rfl (lv_at hl 2 rfl) ?_
    refine nz_si (As := [.int (nI p1), .int (nI q1)]) (rest := []) S (c_Mo_xor l p1 hp1 q1 hq1) kMo_69 ⟨rfl, rfl, Nat.le_of_ble_eq_true rfl, Nat.le_of_ble_eq_true rfl⟩ ⟨Nat.zero_le _, Nat.zero_le _⟩ (fun _ _ _ _ h => h) (fun _ _ _ => trivial) rfl hl.1 rfl (Nat.le_of_ble_eq_true rfl) dMo_byTable_60 (fun r4 er4 => ?_)
    subst er4
    exact W.iret (v := nI (zXor p1 q1)) hx hb hr (fun t ht hW => ⟨_, rfl, (of_decide_eq_true (al2 (N := 9) (M := 9) ((fun p1 q1 => decide (nI (zXor p1 q1) = nI (zJoin 3 p1 q1)))) (by decide +kernel) p1 hp1 q1 hq1)), ht⟩) (fun q h => nomatch h) dMo_byTable_63
  · refine lv_tableIn (tgt := 64) hx hb dMo_byTable_1 (by decide) (by decide) rfl (by decide) ?_
    refine lv_iload_n hx hb dMo_byTable_64 rfl (lv_at hl 1 rfl) ?_
    refine lv_iload_n hx hb dMo_byTable_65 rfl (lv_at hl 2 rfl) ?_
    refine nz_si (As := [.int (nI p1), .int (nI q1)]) (rest := []) S (c_Mo_and l p1 hp1 q1 hq1) kMo_63 ⟨rfl, rfl, Nat.le_of_ble_eq_true rfl, Nat.le_of_ble_eq_true rfl⟩ ⟨Nat.zero_le _, Nat.zero_le _⟩ (fun _ _ _ _ h => h) (fun _ _ _ => trivial) rfl hl.1 rfl (Nat.le_of_ble_eq_true rfl) dMo_byTable_66 (fun r5 er5 => ?_)
    subst er5
    refine nz_si (As := [.int (nI (zAnd p1 q1))]) (rest := []) S (c_Mo_not l (zAnd p1 q1) (zAnd_lt p1 hp1 q1 hq1)) kMo_72 ⟨rfl, rfl, Nat.le_of_ble_eq_true rfl, Nat.le_of_ble_eq_true rfl⟩ ⟨Nat.zero_le _, Nat.zero_le _⟩ (fun _ _ _ _ h => h) (fun _ _ _ => trivial) rfl hl.1 rfl (Nat.le_of_ble_eq_true rfl) dMo_byTable_69 (fun r6 er6 => ?_)
    subst er6
    exact W.iret (v := nI (zNot (zAnd p1 q1))) hx hb hr (fun t ht hW => ⟨_, rfl, (of_decide_eq_true (al2 (N := 9) (M := 9) ((fun p1 q1 => decide (nI (zNot (zAnd p1 q1)) = nI (zJoin 4 p1 q1)))) (by decide +kernel) p1 hp1 q1 hq1)), ht⟩) (fun q h => nomatch h) dMo_byTable_72
  · refine lv_tableIn (tgt := 73) hx hb dMo_byTable_1 (by decide) (by decide) rfl (by decide) ?_
    refine lv_iload_n hx hb dMo_byTable_73 rfl (lv_at hl 1 rfl) ?_
    refine lv_iload_n hx hb dMo_byTable_74 rfl (lv_at hl 2 rfl) ?_
    refine nz_si (As := [.int (nI p1), .int (nI q1)]) (rest := []) S (c_Mo_or l p1 hp1 q1 hq1) kMo_66 ⟨rfl, rfl, Nat.le_of_ble_eq_true rfl, Nat.le_of_ble_eq_true rfl⟩ ⟨Nat.zero_le _, Nat.zero_le _⟩ (fun _ _ _ _ h => h) (fun _ _ _ => trivial) rfl hl.1 rfl (Nat.le_of_ble_eq_true rfl) dMo_byTable_75 (fun r7 er7 => ?_)
    subst er7
    refine nz_si (As := [.int (nI (zOr p1 q1))]) (rest := []) S (c_Mo_not l (zOr p1 q1) (zOr_lt p1 hp1 q1 hq1)) kMo_72 ⟨rfl, rfl, Nat.le_of_ble_eq_true rfl, Nat.le_of_ble_eq_true rfl⟩ ⟨Nat.zero_le _, Nat.zero_le _⟩ (fun _ _ _ _ h => h) (fun _ _ _ => trivial) rfl hl.1 rfl (Nat.le_of_ble_eq_true rfl) dMo_byTable_78 (fun r8 er8 => ?_)
    subst er8
    exact W.iret (v := nI (zNot (zOr p1 q1))) hx hb hr (fun t ht hW => ⟨_, rfl, (of_decide_eq_true (al2 (N := 9) (M := 9) ((fun p1 q1 => decide (nI (zNot (zOr p1 q1)) = nI (zJoin 5 p1 q1)))) (by decide +kernel) p1 hp1 q1 hq1)), ht⟩) (fun q h => nomatch h) dMo_byTable_81
  · refine lv_tableOut (tgt := 82) hx hb dMo_byTable_1 (by decide) (by decide) ?_
    refine lv_iload_n hx hb dMo_byTable_82 rfl (lv_at hl 1 rfl) ?_
    refine lv_iload_n hx hb dMo_byTable_83 rfl (lv_at hl 2 rfl) ?_
    refine nz_si (As := [.int (nI p1), .int (nI q1)]) (rest := []) S (c_Mo_xor l p1 hp1 q1 hq1) kMo_69 ⟨rfl, rfl, Nat.le_of_ble_eq_true rfl, Nat.le_of_ble_eq_true rfl⟩ ⟨Nat.zero_le _, Nat.zero_le _⟩ (fun _ _ _ _ h => h) (fun _ _ _ => trivial) rfl hl.1 rfl (Nat.le_of_ble_eq_true rfl) dMo_byTable_84 (fun r9 er9 => ?_)
    subst er9
    refine nz_si (As := [.int (nI (zXor p1 q1))]) (rest := []) S (c_Mo_not l (zXor p1 q1) (zXor_lt p1 hp1 q1 hq1)) kMo_72 ⟨rfl, rfl, Nat.le_of_ble_eq_true rfl, Nat.le_of_ble_eq_true rfl⟩ ⟨Nat.zero_le _, Nat.zero_le _⟩ (fun _ _ _ _ h => h) (fun _ _ _ => trivial) rfl hl.1 rfl (Nat.le_of_ble_eq_true rfl) dMo_byTable_87 (fun r10 er10 => ?_)
    subst er10
    exact W.iret (v := nI (zNot (zXor p1 q1))) hx hb hr (fun t ht hW => ⟨_, rfl, (of_decide_eq_true (al2 (N := 9) (M := 9) ((fun p1 q1 => decide (nI (zNot (zXor p1 q1)) = nI (zJoin 6 p1 q1)))) (by decide +kernel) p1 hp1 q1 hq1)), ht⟩) (fun q h => nomatch h) dMo_byTable_90
set_option maxHeartbeats 4000000 in
set_option maxRecDepth 100000 in
theorem c_Mo_strip (l : Launch) (o1 : Nat) (ho1 : o1 < 4) (v : Nat) (hv : v < 9) : Met l yMo_strip (Cond.code yMo_strip bMo_strip 2 (some .int) :: nzG) ({ frames := 1, cells := 0, slots := 0, locals := 20 }) (va_Pc [.int (nI o1), .int (nI v)] (fun _ => True)) (vp_Si (fun r => r = nI (zStrip o1 v))) 0 0 (fun _ => False) := by
  refine nz_of (own := RM) (by decide) rfl ?_
  intro p e s m args below meth c S hr hlocks _ hv9
  obtain ⟨rfl, -⟩ := hv9
  have hx := S.1
  have hb := S.2.1
  refine nz_entry (vs := [.int (nI o1), .int (nI v)]) (n := 2) (lv := [(0, .int (nI o1)), (1, .int (nI v))]) (Nat.le_of_ble_eq_true rfl) rfl (fun ls hl => ?_)
  refine lv_iload_n hx hb dMo_strip_0 rfl (lv_at hl 1 rfl) ?_
  refine nz_si (As := [.int (nI v)]) (rest := []) S (c_Mo_isLow l v hv) kMo_23 ⟨rfl, rfl, Nat.le_of_ble_eq_true rfl, Nat.le_of_ble_eq_true rfl⟩ ⟨Nat.zero_le _, Nat.zero_le _⟩ (fun _ _ _ _ h => h) (fun _ _ _ => trivial) rfl hl.1 rfl (Nat.le_of_ble_eq_true rfl) dMo_strip_1 (fun r1 er1 => ?_)
  subst er1
  refine lv_if_eq (tgt := 9) hx hb dMo_strip_4 (by decide) (fun c2 => ?_) (fun c2 => ?_)
  · refine lv_iload_n hx hb dMo_strip_9 rfl (lv_at hl 1 rfl) ?_
    refine nz_si (As := [.int (nI v)]) (rest := []) S (c_Mo_isHigh l v hv) kMo_27 ⟨rfl, rfl, Nat.le_of_ble_eq_true rfl, Nat.le_of_ble_eq_true rfl⟩ ⟨Nat.zero_le _, Nat.zero_le _⟩ (fun _ _ _ _ h => h) (fun _ _ _ => trivial) rfl hl.1 rfl (Nat.le_of_ble_eq_true rfl) dMo_strip_10 (fun r3 er3 => ?_)
    subst er3
    refine lv_if_eq (tgt := 18) hx hb dMo_strip_13 (by decide) (fun c4 => ?_) (fun c4 => ?_)
    · refine lv_iload_n hx hb dMo_strip_18 rfl (lv_at hl 0 rfl) ?_
      refine lv_iconst (v := 1) hx hb dMo_strip_19 (by decide) ?_
      refine lv_icmp_ne (tgt := 28) hx hb dMo_strip_20 (by decide) (fun c5 => ?_) (fun c5 => ?_)
      · refine lv_iload_n hx hb dMo_strip_28 rfl (lv_at hl 0 rfl) ?_
        refine lv_iconst (v := 2) hx hb dMo_strip_29 (by decide) ?_
        refine lv_icmp_ne (tgt := 39) hx hb dMo_strip_30 (by decide) (fun c6 => ?_) (fun c6 => ?_)
        · refine lv_iload_n hx hb dMo_strip_39 rfl (lv_at hl 0 rfl) ?_
          refine lv_iconst (v := 3) hx hb dMo_strip_40 (by decide) ?_
          refine lv_icmp_ne (tgt := 48) hx hb dMo_strip_41 (by decide) (fun c7 => ?_) (fun c7 => ?_)
          · refine lv_iconst (v := 1) hx hb dMo_strip_48 (by decide) ?_
            exact W.iret (v := 1) hx hb hr (fun t ht hW => ⟨_, rfl, (of_decide_eq_true (ib (ib (ib (ib (ib (al2 (N := 4) (M := 9) ((fun o1 v => (!decide (nI (zLow v) = 0) || (!decide (nI (zHigh v) = 0) || (!decide (¬ nI o1 = 1) || (!decide (¬ nI o1 = 2) || (!decide (¬ nI o1 = 3) || decide ((1 : Int32) = nI (zStrip o1 v))))))))) (by decide +kernel) o1 ho1 v hv) c2) c4) c5) c6) c7)), ht⟩) (fun q h => nomatch h) dMo_strip_49
          · refine lv_iconst (v := 2) hx hb dMo_strip_44 (by decide) ?_
            refine lv_goto (tgt := 49) hx hb dMo_strip_45 (by decide) ?_
            exact W.iret (v := 2) hx hb hr (fun t ht hW => ⟨_, rfl, (of_decide_eq_true (ib (ib (ib (ib (ib (al2 (N := 4) (M := 9) ((fun o1 v => (!decide (nI (zLow v) = 0) || (!decide (nI (zHigh v) = 0) || (!decide (¬ nI o1 = 1) || (!decide (¬ nI o1 = 2) || (!decide (nI o1 = 3) || decide ((2 : Int32) = nI (zStrip o1 v))))))))) (by decide +kernel) o1 ho1 v hv) c2) c4) c5) c6) c7)), ht⟩) (fun q h => nomatch h) dMo_strip_49
        · refine lv_iload_n hx hb dMo_strip_33 rfl (lv_at hl 1 rfl) ?_
          refine lv_if_ne (tgt := 39) hx hb dMo_strip_34 (by decide) (fun c8 => ?_) (fun c8 => ?_)
          · refine lv_iload_n hx hb dMo_strip_39 rfl (lv_at hl 0 rfl) ?_
            refine lv_iconst (v := 3) hx hb dMo_strip_40 (by decide) ?_
            refine lv_icmp_ne (tgt := 48) hx hb dMo_strip_41 (by decide) (fun c9 => ?_) (fun c9 => ?_)
            · refine lv_iconst (v := 1) hx hb dMo_strip_48 (by decide) ?_
              exact W.iret (v := 1) hx hb hr (fun t ht hW => ⟨_, rfl, (of_decide_eq_true (ib (ib (ib (ib (ib (ib (al2 (N := 4) (M := 9) ((fun o1 v => (!decide (nI (zLow v) = 0) || (!decide (nI (zHigh v) = 0) || (!decide (¬ nI o1 = 1) || (!decide (nI o1 = 2) || (!decide (¬ nI v = 0) || (!decide (¬ nI o1 = 3) || decide ((1 : Int32) = nI (zStrip o1 v)))))))))) (by decide +kernel) o1 ho1 v hv) c2) c4) c5) c6) c8) c9)), ht⟩) (fun q h => nomatch h) dMo_strip_49
            · refine lv_iconst (v := 2) hx hb dMo_strip_44 (by decide) ?_
              refine lv_goto (tgt := 49) hx hb dMo_strip_45 (by decide) ?_
              exact W.iret (v := 2) hx hb hr (fun t ht hW => ⟨_, rfl, (of_decide_eq_true (ib (ib (ib (ib (ib (ib (al2 (N := 4) (M := 9) ((fun o1 v => (!decide (nI (zLow v) = 0) || (!decide (nI (zHigh v) = 0) || (!decide (¬ nI o1 = 1) || (!decide (nI o1 = 2) || (!decide (¬ nI v = 0) || (!decide (nI o1 = 3) || decide ((2 : Int32) = nI (zStrip o1 v)))))))))) (by decide +kernel) o1 ho1 v hv) c2) c4) c5) c6) c8) c9)), ht⟩) (fun q h => nomatch h) dMo_strip_49
          · refine lv_iload_n hx hb dMo_strip_37 rfl (lv_at hl 1 rfl) ?_
            exact W.iret (v := nI v) hx hb hr (fun t ht hW => ⟨_, rfl, (of_decide_eq_true (ib (ib (ib (ib (ib (al2 (N := 4) (M := 9) ((fun o1 v => (!decide (nI (zLow v) = 0) || (!decide (nI (zHigh v) = 0) || (!decide (¬ nI o1 = 1) || (!decide (nI o1 = 2) || (!decide (nI v = 0) || decide (nI v = nI (zStrip o1 v))))))))) (by decide +kernel) o1 ho1 v hv) c2) c4) c5) c6) c8)), ht⟩) (fun q h => nomatch h) dMo_strip_38
      · refine lv_iload_n hx hb dMo_strip_23 rfl (lv_at hl 1 rfl) ?_
        refine lv_iconst (v := 4) hx hb dMo_strip_24 (by decide) ?_
        refine lv_icmp_eq (tgt := 37) hx hb dMo_strip_25 (by decide) (fun c10 => ?_) (fun c10 => ?_)
        · refine lv_iload_n hx hb dMo_strip_37 rfl (lv_at hl 1 rfl) ?_
          exact W.iret (v := nI v) hx hb hr (fun t ht hW => ⟨_, rfl, (of_decide_eq_true (ib (ib (ib (ib (al2 (N := 4) (M := 9) ((fun o1 v => (!decide (nI (zLow v) = 0) || (!decide (nI (zHigh v) = 0) || (!decide (nI o1 = 1) || (!decide (nI v = 4) || decide (nI v = nI (zStrip o1 v)))))))) (by decide +kernel) o1 ho1 v hv) c2) c4) c5) c10)), ht⟩) (fun q h => nomatch h) dMo_strip_38
        · refine lv_iload_n hx hb dMo_strip_28 rfl (lv_at hl 0 rfl) ?_
          refine lv_iconst (v := 2) hx hb dMo_strip_29 (by decide) ?_
          refine lv_icmp_ne (tgt := 39) hx hb dMo_strip_30 (by decide) (fun c11 => ?_) (fun c11 => ?_)
          · refine lv_iload_n hx hb dMo_strip_39 rfl (lv_at hl 0 rfl) ?_
            refine lv_iconst (v := 3) hx hb dMo_strip_40 (by decide) ?_
            refine lv_icmp_ne (tgt := 48) hx hb dMo_strip_41 (by decide) (fun c12 => ?_) (fun c12 => ?_)
            · refine lv_iconst (v := 1) hx hb dMo_strip_48 (by decide) ?_
              exact W.iret (v := 1) hx hb hr (fun t ht hW => ⟨_, rfl, (of_decide_eq_true (ib (ib (ib (ib (ib (ib (al2 (N := 4) (M := 9) ((fun o1 v => (!decide (nI (zLow v) = 0) || (!decide (nI (zHigh v) = 0) || (!decide (nI o1 = 1) || (!decide (¬ nI v = 4) || (!decide (¬ nI o1 = 2) || (!decide (¬ nI o1 = 3) || decide ((1 : Int32) = nI (zStrip o1 v)))))))))) (by decide +kernel) o1 ho1 v hv) c2) c4) c5) c10) c11) c12)), ht⟩) (fun q h => nomatch h) dMo_strip_49
            · refine lv_iconst (v := 2) hx hb dMo_strip_44 (by decide) ?_
              refine lv_goto (tgt := 49) hx hb dMo_strip_45 (by decide) ?_
              exact W.iret (v := 2) hx hb hr (fun t ht hW => ⟨_, rfl, (of_decide_eq_true (ib (ib (ib (ib (ib (ib (al2 (N := 4) (M := 9) ((fun o1 v => (!decide (nI (zLow v) = 0) || (!decide (nI (zHigh v) = 0) || (!decide (nI o1 = 1) || (!decide (¬ nI v = 4) || (!decide (¬ nI o1 = 2) || (!decide (nI o1 = 3) || decide ((2 : Int32) = nI (zStrip o1 v)))))))))) (by decide +kernel) o1 ho1 v hv) c2) c4) c5) c10) c11) c12)), ht⟩) (fun q h => nomatch h) dMo_strip_49
          · refine lv_iload_n hx hb dMo_strip_33 rfl (lv_at hl 1 rfl) ?_
            refine lv_if_ne (tgt := 39) hx hb dMo_strip_34 (by decide) (fun c13 => ?_) (fun c13 => ?_)
            · refine lv_iload_n hx hb dMo_strip_39 rfl (lv_at hl 0 rfl) ?_
              refine lv_iconst (v := 3) hx hb dMo_strip_40 (by decide) ?_
              refine lv_icmp_ne (tgt := 48) hx hb dMo_strip_41 (by decide) (fun c14 => ?_) (fun c14 => ?_)
              · refine lv_iconst (v := 1) hx hb dMo_strip_48 (by decide) ?_
                exact W.iret (v := 1) hx hb hr (fun t ht hW => ⟨_, rfl, (of_decide_eq_true (ib (ib (ib (ib (ib (ib (ib (al2 (N := 4) (M := 9) ((fun o1 v => (!decide (nI (zLow v) = 0) || (!decide (nI (zHigh v) = 0) || (!decide (nI o1 = 1) || (!decide (¬ nI v = 4) || (!decide (nI o1 = 2) || (!decide (¬ nI v = 0) || (!decide (¬ nI o1 = 3) || decide ((1 : Int32) = nI (zStrip o1 v))))))))))) (by decide +kernel) o1 ho1 v hv) c2) c4) c5) c10) c11) c13) c14)), ht⟩) (fun q h => nomatch h) dMo_strip_49
              · refine lv_iconst (v := 2) hx hb dMo_strip_44 (by decide) ?_
                refine lv_goto (tgt := 49) hx hb dMo_strip_45 (by decide) ?_
                exact W.iret (v := 2) hx hb hr (fun t ht hW => ⟨_, rfl, (of_decide_eq_true (ib (ib (ib (ib (ib (ib (ib (al2 (N := 4) (M := 9) ((fun o1 v => (!decide (nI (zLow v) = 0) || (!decide (nI (zHigh v) = 0) || (!decide (nI o1 = 1) || (!decide (¬ nI v = 4) || (!decide (nI o1 = 2) || (!decide (¬ nI v = 0) || (!decide (nI o1 = 3) || decide ((2 : Int32) = nI (zStrip o1 v))))))))))) (by decide +kernel) o1 ho1 v hv) c2) c4) c5) c10) c11) c13) c14)), ht⟩) (fun q h => nomatch h) dMo_strip_49
            · refine lv_iload_n hx hb dMo_strip_37 rfl (lv_at hl 1 rfl) ?_
              exact W.iret (v := nI v) hx hb hr (fun t ht hW => ⟨_, rfl, (of_decide_eq_true (ib (ib (ib (ib (ib (ib (al2 (N := 4) (M := 9) ((fun o1 v => (!decide (nI (zLow v) = 0) || (!decide (nI (zHigh v) = 0) || (!decide (nI o1 = 1) || (!decide (¬ nI v = 4) || (!decide (nI o1 = 2) || (!decide (nI v = 0) || decide (nI v = nI (zStrip o1 v)))))))))) (by decide +kernel) o1 ho1 v hv) c2) c4) c5) c10) c11) c13)), ht⟩) (fun q h => nomatch h) dMo_strip_38
    · refine lv_iconst (v := 3) hx hb dMo_strip_16 (by decide) ?_
      exact W.iret (v := 3) hx hb hr (fun t ht hW => ⟨_, rfl, (of_decide_eq_true (ib (ib (al2 (N := 4) (M := 9) ((fun o1 v => (!decide (nI (zLow v) = 0) || (!decide (¬ nI (zHigh v) = 0) || decide ((3 : Int32) = nI (zStrip o1 v)))))) (by decide +kernel) o1 ho1 v hv) c2) c4)), ht⟩) (fun q h => nomatch h) dMo_strip_17
  · refine lv_iconst (v := 2) hx hb dMo_strip_7 (by decide) ?_
    exact W.iret (v := 2) hx hb hr (fun t ht hW => ⟨_, rfl, (of_decide_eq_true (ib (al2 (N := 4) (M := 9) ((fun o1 v => (!decide (¬ nI (zLow v) = 0) || decide ((2 : Int32) = nI (zStrip o1 v))))) (by decide +kernel) o1 ho1 v hv) c2)), ht⟩) (fun q h => nomatch h) dMo_strip_8
set_option maxHeartbeats 4000000 in
set_option maxRecDepth 100000 in
theorem c_Mo_goes (l : Launch) (p1 : Nat) (hp1 : p1 < 9) (q1 : Nat) (hq1 : q1 < 9) : Met l yMo_goes (Cond.code yMo_goes bMo_goes 2 (some .boolean) :: nzG) ({ frames := 1, cells := 0, slots := 0, locals := 20 }) (va_Pc [.int (nI p1), .int (nI q1)] (fun _ => True)) (vp_Si (fun r => r = nI (zMatch p1 q1))) 0 0 (fun _ => False) := by
  refine nz_of (own := RM) (by decide) rfl ?_
  intro p e s m args below meth c S hr hlocks _ hv9
  obtain ⟨rfl, -⟩ := hv9
  have hx := S.1
  have hb := S.2.1
  refine nz_entry (vs := [.int (nI p1), .int (nI q1)]) (n := 2) (lv := [(0, .int (nI p1)), (1, .int (nI q1))]) (Nat.le_of_ble_eq_true rfl) rfl (fun ls hl => ?_)
  refine lv_iload_n hx hb dMo_goes_0 rfl (lv_at hl 0 rfl) ?_
  refine lv_bipush (v := 8) hx hb dMo_goes_1 (by decide) ?_
  refine lv_icmp_eq (tgt := 40) hx hb dMo_goes_3 (by decide) (fun c1 => ?_) (fun c1 => ?_)
  · refine lv_iconst (v := 1) hx hb dMo_goes_40 (by decide) ?_
    refine lv_goto (tgt := 45) hx hb dMo_goes_41 (by decide) ?_
    exact W.zret (v := 1) hx hb hr rfl (fun t ht hW => ⟨1, rfl, (of_decide_eq_true (ib (al2 (N := 9) (M := 9) ((fun p1 q1 => (!decide (nI p1 = 8) || decide ((1 : Int32) = nI (zMatch p1 q1))))) (by decide +kernel) p1 hp1 q1 hq1) c1)), ht⟩) (fun q h => nomatch h) dMo_goes_45
  · refine lv_iload_n hx hb dMo_goes_6 rfl (lv_at hl 1 rfl) ?_
    refine lv_bipush (v := 8) hx hb dMo_goes_7 (by decide) ?_
    refine lv_icmp_eq (tgt := 40) hx hb dMo_goes_9 (by decide) (fun c2 => ?_) (fun c2 => ?_)
    · refine lv_iconst (v := 1) hx hb dMo_goes_40 (by decide) ?_
      refine lv_goto (tgt := 45) hx hb dMo_goes_41 (by decide) ?_
      exact W.zret (v := 1) hx hb hr rfl (fun t ht hW => ⟨1, rfl, (of_decide_eq_true (ib (ib (al2 (N := 9) (M := 9) ((fun p1 q1 => (!decide (¬ nI p1 = 8) || (!decide (nI q1 = 8) || decide ((1 : Int32) = nI (zMatch p1 q1)))))) (by decide +kernel) p1 hp1 q1 hq1) c1) c2)), ht⟩) (fun q h => nomatch h) dMo_goes_45
    · refine lv_iload_n hx hb dMo_goes_12 rfl (lv_at hl 0 rfl) ?_
      refine nz_si (As := [.int (nI p1)]) (rest := []) S (c_Mo_isLow l p1 hp1) kMo_23 ⟨rfl, rfl, Nat.le_of_ble_eq_true rfl, Nat.le_of_ble_eq_true rfl⟩ ⟨Nat.zero_le _, Nat.zero_le _⟩ (fun _ _ _ _ h => h) (fun _ _ _ => trivial) rfl hl.1 rfl (Nat.le_of_ble_eq_true rfl) dMo_goes_13 (fun r3 er3 => ?_)
      subst er3
      refine lv_if_eq (tgt := 26) hx hb dMo_goes_16 (by decide) (fun c4 => ?_) (fun c4 => ?_)
      · refine lv_iload_n hx hb dMo_goes_26 rfl (lv_at hl 0 rfl) ?_
        refine nz_si (As := [.int (nI p1)]) (rest := []) S (c_Mo_isHigh l p1 hp1) kMo_27 ⟨rfl, rfl, Nat.le_of_ble_eq_true rfl, Nat.le_of_ble_eq_true rfl⟩ ⟨Nat.zero_le _, Nat.zero_le _⟩ (fun _ _ _ _ h => h) (fun _ _ _ => trivial) rfl hl.1 rfl (Nat.le_of_ble_eq_true rfl) dMo_goes_27 (fun r5 er5 => ?_)
        subst er5
        refine lv_if_eq (tgt := 44) hx hb dMo_goes_30 (by decide) (fun c6 => ?_) (fun c6 => ?_)
        · refine lv_iconst (v := 0) hx hb dMo_goes_44 (by decide) ?_
          exact W.zret (v := 0) hx hb hr rfl (fun t ht hW => ⟨0, rfl, (of_decide_eq_true (ib (ib (ib (ib (al2 (N := 9) (M := 9) ((fun p1 q1 => (!decide (¬ nI p1 = 8) || (!decide (¬ nI q1 = 8) || (!decide (nI (zLow p1) = 0) || (!decide (nI (zHigh p1) = 0) || decide ((0 : Int32) = nI (zMatch p1 q1)))))))) (by decide +kernel) p1 hp1 q1 hq1) c1) c2) c4) c6)), ht⟩) (fun q h => nomatch h) dMo_goes_45
        · refine lv_iload_n hx hb dMo_goes_33 rfl (lv_at hl 1 rfl) ?_
          refine nz_si (As := [.int (nI q1)]) (rest := []) S (c_Mo_isHigh l q1 hq1) kMo_27 ⟨rfl, rfl, Nat.le_of_ble_eq_true rfl, Nat.le_of_ble_eq_true rfl⟩ ⟨Nat.zero_le _, Nat.zero_le _⟩ (fun _ _ _ _ h => h) (fun _ _ _ => trivial) rfl hl.1 rfl (Nat.le_of_ble_eq_true rfl) dMo_goes_34 (fun r7 er7 => ?_)
          subst er7
          refine lv_if_eq (tgt := 44) hx hb dMo_goes_37 (by decide) (fun c8 => ?_) (fun c8 => ?_)
          · refine lv_iconst (v := 0) hx hb dMo_goes_44 (by decide) ?_
            exact W.zret (v := 0) hx hb hr rfl (fun t ht hW => ⟨0, rfl, (of_decide_eq_true (ib (ib (ib (ib (ib (al2 (N := 9) (M := 9) ((fun p1 q1 => (!decide (¬ nI p1 = 8) || (!decide (¬ nI q1 = 8) || (!decide (nI (zLow p1) = 0) || (!decide (¬ nI (zHigh p1) = 0) || (!decide (nI (zHigh q1) = 0) || decide ((0 : Int32) = nI (zMatch p1 q1))))))))) (by decide +kernel) p1 hp1 q1 hq1) c1) c2) c4) c6) c8)), ht⟩) (fun q h => nomatch h) dMo_goes_45
          · refine lv_iconst (v := 1) hx hb dMo_goes_40 (by decide) ?_
            refine lv_goto (tgt := 45) hx hb dMo_goes_41 (by decide) ?_
            exact W.zret (v := 1) hx hb hr rfl (fun t ht hW => ⟨1, rfl, (of_decide_eq_true (ib (ib (ib (ib (ib (al2 (N := 9) (M := 9) ((fun p1 q1 => (!decide (¬ nI p1 = 8) || (!decide (¬ nI q1 = 8) || (!decide (nI (zLow p1) = 0) || (!decide (¬ nI (zHigh p1) = 0) || (!decide (¬ nI (zHigh q1) = 0) || decide ((1 : Int32) = nI (zMatch p1 q1))))))))) (by decide +kernel) p1 hp1 q1 hq1) c1) c2) c4) c6) c8)), ht⟩) (fun q h => nomatch h) dMo_goes_45
      · refine lv_iload_n hx hb dMo_goes_19 rfl (lv_at hl 1 rfl) ?_
        refine nz_si (As := [.int (nI q1)]) (rest := []) S (c_Mo_isLow l q1 hq1) kMo_23 ⟨rfl, rfl, Nat.le_of_ble_eq_true rfl, Nat.le_of_ble_eq_true rfl⟩ ⟨Nat.zero_le _, Nat.zero_le _⟩ (fun _ _ _ _ h => h) (fun _ _ _ => trivial) rfl hl.1 rfl (Nat.le_of_ble_eq_true rfl) dMo_goes_20 (fun r9 er9 => ?_)
        subst er9
        refine lv_if_ne (tgt := 40) hx hb dMo_goes_23 (by decide) (fun c10 => ?_) (fun c10 => ?_)
        · refine lv_iconst (v := 1) hx hb dMo_goes_40 (by decide) ?_
          refine lv_goto (tgt := 45) hx hb dMo_goes_41 (by decide) ?_
          exact W.zret (v := 1) hx hb hr rfl (fun t ht hW => ⟨1, rfl, (of_decide_eq_true (ib (ib (ib (ib (al2 (N := 9) (M := 9) ((fun p1 q1 => (!decide (¬ nI p1 = 8) || (!decide (¬ nI q1 = 8) || (!decide (¬ nI (zLow p1) = 0) || (!decide (¬ nI (zLow q1) = 0) || decide ((1 : Int32) = nI (zMatch p1 q1)))))))) (by decide +kernel) p1 hp1 q1 hq1) c1) c2) c4) c10)), ht⟩) (fun q h => nomatch h) dMo_goes_45
        · refine lv_iload_n hx hb dMo_goes_26 rfl (lv_at hl 0 rfl) ?_
          refine nz_si (As := [.int (nI p1)]) (rest := []) S (c_Mo_isHigh l p1 hp1) kMo_27 ⟨rfl, rfl, Nat.le_of_ble_eq_true rfl, Nat.le_of_ble_eq_true rfl⟩ ⟨Nat.zero_le _, Nat.zero_le _⟩ (fun _ _ _ _ h => h) (fun _ _ _ => trivial) rfl hl.1 rfl (Nat.le_of_ble_eq_true rfl) dMo_goes_27 (fun r11 er11 => ?_)
          subst er11
          refine lv_if_eq (tgt := 44) hx hb dMo_goes_30 (by decide) (fun c12 => ?_) (fun c12 => ?_)
          · refine lv_iconst (v := 0) hx hb dMo_goes_44 (by decide) ?_
            exact W.zret (v := 0) hx hb hr rfl (fun t ht hW => ⟨0, rfl, (of_decide_eq_true (ib (ib (ib (ib (ib (al2 (N := 9) (M := 9) ((fun p1 q1 => (!decide (¬ nI p1 = 8) || (!decide (¬ nI q1 = 8) || (!decide (¬ nI (zLow p1) = 0) || (!decide (nI (zLow q1) = 0) || (!decide (nI (zHigh p1) = 0) || decide ((0 : Int32) = nI (zMatch p1 q1))))))))) (by decide +kernel) p1 hp1 q1 hq1) c1) c2) c4) c10) c12)), ht⟩) (fun q h => nomatch h) dMo_goes_45
          · refine lv_iload_n hx hb dMo_goes_33 rfl (lv_at hl 1 rfl) ?_
            refine nz_si (As := [.int (nI q1)]) (rest := []) S (c_Mo_isHigh l q1 hq1) kMo_27 ⟨rfl, rfl, Nat.le_of_ble_eq_true rfl, Nat.le_of_ble_eq_true rfl⟩ ⟨Nat.zero_le _, Nat.zero_le _⟩ (fun _ _ _ _ h => h) (fun _ _ _ => trivial) rfl hl.1 rfl (Nat.le_of_ble_eq_true rfl) dMo_goes_34 (fun r13 er13 => ?_)
            subst er13
            refine lv_if_eq (tgt := 44) hx hb dMo_goes_37 (by decide) (fun c14 => ?_) (fun c14 => ?_)
            · refine lv_iconst (v := 0) hx hb dMo_goes_44 (by decide) ?_
              exact W.zret (v := 0) hx hb hr rfl (fun t ht hW => ⟨0, rfl, (of_decide_eq_true (ib (ib (ib (ib (ib (ib (al2 (N := 9) (M := 9) ((fun p1 q1 => (!decide (¬ nI p1 = 8) || (!decide (¬ nI q1 = 8) || (!decide (¬ nI (zLow p1) = 0) || (!decide (nI (zLow q1) = 0) || (!decide (¬ nI (zHigh p1) = 0) || (!decide (nI (zHigh q1) = 0) || decide ((0 : Int32) = nI (zMatch p1 q1)))))))))) (by decide +kernel) p1 hp1 q1 hq1) c1) c2) c4) c10) c12) c14)), ht⟩) (fun q h => nomatch h) dMo_goes_45
            · refine lv_iconst (v := 1) hx hb dMo_goes_40 (by decide) ?_
              refine lv_goto (tgt := 45) hx hb dMo_goes_41 (by decide) ?_
              exact W.zret (v := 1) hx hb hr rfl (fun t ht hW => ⟨1, rfl, (of_decide_eq_true (ib (ib (ib (ib (ib (ib (al2 (N := 9) (M := 9) ((fun p1 q1 => (!decide (¬ nI p1 = 8) || (!decide (¬ nI q1 = 8) || (!decide (¬ nI (zLow p1) = 0) || (!decide (nI (zLow q1) = 0) || (!decide (¬ nI (zHigh p1) = 0) || (!decide (¬ nI (zHigh q1) = 0) || decide ((1 : Int32) = nI (zMatch p1 q1)))))))))) (by decide +kernel) p1 hp1 q1 hq1) c1) c2) c4) c10) c12) c14)), ht⟩) (fun q h => nomatch h) dMo_goes_45
