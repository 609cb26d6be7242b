set_option maxHeartbeats 4000000 in
set_option maxRecDepth 100000 in
theorem c_Wire_isLow (l : Launch) (v : Nat) (hv : v < 9) : Met l yWire_isLow (Cond.code yWire_isLow bWire_isLow 1 (some .boolean) :: nzG) ({ frames := 0, cells := 0, slots := 0, locals := 0 }) (va_Pc [.int (nI v)] (fun _ => True)) (vp_Si (fun r => r = nI (zLow v))) 0 0 (fun _ => False) := by
  refine nz_of (own := RI) (by decide) rfl ?_
  intro p e s m args below meth c S hr hlocks _ hv9
  obtain ⟨rfl, -⟩ := hv9
  have hx := S.1
  have hb := S.2.1
  refine nz_entry (vs := [.int (nI v)]) (n := 1) (lv := [(0, .int (nI v))]) (Nat.le_of_ble_eq_true rfl) rfl (fun ls hl => ?_)
  refine lv_iload_n hx hb dWire_isLow_0 rfl (lv_at hl 0 rfl) ?_
  refine lv_iconst (v := 2) hx hb dWire_isLow_1 (by decide) ?_
  refine lv_icmp_eq (tgt := 11) hx hb dWire_isLow_2 (by decide) (fun c1 => ?_) (fun c1 => ?_)
  · refine lv_iconst (v := 1) hx hb dWire_isLow_11 (by decide) ?_
    refine lv_goto (tgt := 16) hx hb dWire_isLow_12 (by decide) ?_
    exact W.zret (v := 1) hx hb hr rfl (fun t ht hW => ⟨1, rfl, (of_decide_eq_true (ib (al1 (N := 9) ((fun v => (!decide (nI v = 2) || decide ((1 : Int32) = nI (zLow v))))) (by decide +kernel) v hv) c1)), ht⟩) (fun q h => nomatch h) dWire_isLow_16
  · refine lv_iload_n hx hb dWire_isLow_5 rfl (lv_at hl 0 rfl) ?_
    refine lv_bipush (v := 6) hx hb dWire_isLow_6 (by decide) ?_
    refine lv_icmp_ne (tgt := 15) hx hb dWire_isLow_8 (by decide) (fun c2 => ?_) (fun c2 => ?_)
    · refine lv_iconst (v := 0) hx hb dWire_isLow_15 (by decide) ?_
      exact W.zret (v := 0) hx hb hr rfl (fun t ht hW => ⟨0, rfl, (of_decide_eq_true (ib (ib (al1 (N := 9) ((fun v => (!decide (¬ nI v = 2) || (!decide (¬ nI v = 6) || decide ((0 : Int32) = nI (zLow v)))))) (by decide +kernel) v hv) c1) c2)), ht⟩) (fun q h => nomatch h) dWire_isLow_16
    · refine lv_iconst (v := 1) hx hb dWire_isLow_11 (by decide) ?_
      refine lv_goto (tgt := 16) hx hb dWire_isLow_12 (by decide) ?_
      exact W.zret (v := 1) hx hb hr rfl (fun t ht hW => ⟨1, rfl, (of_decide_eq_true (ib (ib (al1 (N := 9) ((fun v => (!decide (¬ nI v = 2) || (!decide (nI v = 6) || decide ((1 : Int32) = nI (zLow v)))))) (by decide +kernel) v hv) c1) c2)), ht⟩) (fun q h => nomatch h) dWire_isLow_16
set_option maxHeartbeats 4000000 in
set_option maxRecDepth 100000 in
theorem c_Wire_isHigh (l : Launch) (v : Nat) (hv : v < 9) : Met l yWire_isHigh (Cond.code yWire_isHigh bWire_isHigh 1 (some .boolean) :: nzG) ({ frames := 0, cells := 0, slots := 0, locals := 0 }) (va_Pc [.int (nI v)] (fun _ => True)) (vp_Si (fun r => r = nI (zHigh v))) 0 0 (fun _ => False) := by
  refine nz_of (own := RI) (by decide) rfl ?_
  intro p e s m args below meth c S hr hlocks _ hv9
  obtain ⟨rfl, -⟩ := hv9
  have hx := S.1
  have hb := S.2.1
  refine nz_entry (vs := [.int (nI v)]) (n := 1) (lv := [(0, .int (nI v))]) (Nat.le_of_ble_eq_true rfl) rfl (fun ls hl => ?_)
  refine lv_iload_n hx hb dWire_isHigh_0 rfl (lv_at hl 0 rfl) ?_
  refine lv_iconst (v := 3) hx hb dWire_isHigh_1 (by decide) ?_
  refine lv_icmp_eq (tgt := 11) hx hb dWire_isHigh_2 (by decide) (fun c1 => ?_) (fun c1 => ?_)
  · refine lv_iconst (v := 1) hx hb dWire_isHigh_11 (by decide) ?_
    refine lv_goto (tgt := 16) hx hb dWire_isHigh_12 (by decide) ?_
    exact W.zret (v := 1) hx hb hr rfl (fun t ht hW => ⟨1, rfl, (of_decide_eq_true (ib (al1 (N := 9) ((fun v => (!decide (nI v = 3) || decide ((1 : Int32) = nI (zHigh v))))) (by decide +kernel) v hv) c1)), ht⟩) (fun q h => nomatch h) dWire_isHigh_16
  · refine lv_iload_n hx hb dWire_isHigh_5 rfl (lv_at hl 0 rfl) ?_
    refine lv_bipush (v := 7) hx hb dWire_isHigh_6 (by decide) ?_
    refine lv_icmp_ne (tgt := 15) hx hb dWire_isHigh_8 (by decide) (fun c2 => ?_) (fun c2 => ?_)
    · refine lv_iconst (v := 0) hx hb dWire_isHigh_15 (by decide) ?_
      exact W.zret (v := 0) hx hb hr rfl (fun t ht hW => ⟨0, rfl, (of_decide_eq_true (ib (ib (al1 (N := 9) ((fun v => (!decide (¬ nI v = 3) || (!decide (¬ nI v = 7) || decide ((0 : Int32) = nI (zHigh v)))))) (by decide +kernel) v hv) c1) c2)), ht⟩) (fun q h => nomatch h) dWire_isHigh_16
    · refine lv_iconst (v := 1) hx hb dWire_isHigh_11 (by decide) ?_
      refine lv_goto (tgt := 16) hx hb dWire_isHigh_12 (by decide) ?_
      exact W.zret (v := 1) hx hb hr rfl (fun t ht hW => ⟨1, rfl, (of_decide_eq_true (ib (ib (al1 (N := 9) ((fun v => (!decide (¬ nI v = 3) || (!decide (nI v = 7) || decide ((1 : Int32) = nI (zHigh v)))))) (by decide +kernel) v hv) c1) c2)), ht⟩) (fun q h => nomatch h) dWire_isHigh_16
set_option maxHeartbeats 4000000 in
set_option maxRecDepth 100000 in
theorem c_Wire_isClear (l : Launch) (v : Nat) (hv : v < 9) : Met l yWire_isClear (Cond.code yWire_isClear bWire_isClear 1 (some .boolean) :: nzG) ({ frames := 1, cells := 0, slots := 0, locals := 20 }) (va_Pc [.int (nI v)] (fun _ => True)) (vp_Si (fun r => r = nI (zClear v))) 0 0 (fun _ => False) := by
  refine nz_of (own := RI) (by decide) rfl ?_
  intro p e s m args below meth c S hr hlocks _ hv9
  obtain ⟨rfl, -⟩ := hv9
  have hx := S.1
  have hb := S.2.1
  refine nz_entry (vs := [.int (nI v)]) (n := 1) (lv := [(0, .int (nI v))]) (Nat.le_of_ble_eq_true rfl) rfl (fun ls hl => ?_)
  refine lv_iload_n hx hb dWire_isClear_0 rfl (lv_at hl 0 rfl) ?_
  refine nz_si (As := [.int (nI v)]) (rest := []) S (c_Wire_isLow l v hv) kWire_9 ⟨rfl, rfl, Nat.le_of_ble_eq_true rfl, Nat.le_of_ble_eq_true rfl⟩ ⟨Nat.zero_le _, Nat.zero_le _⟩ (fun _ _ _ _ h => h) (fun _ _ _ => trivial) rfl hl.1 rfl (Nat.le_of_ble_eq_true rfl) dWire_isClear_1 (fun r1 er1 => ?_)
  subst er1
  refine lv_if_ne (tgt := 14) hx hb dWire_isClear_4 (by decide) (fun c2 => ?_) (fun c2 => ?_)
  · refine lv_iconst (v := 1) hx hb dWire_isClear_14 (by decide) ?_
    refine lv_goto (tgt := 19) hx hb dWire_isClear_15 (by decide) ?_
    exact W.zret (v := 1) hx hb hr rfl (fun t ht hW => ⟨1, rfl, (of_decide_eq_true (ib (al1 (N := 9) ((fun v => (!decide (¬ nI (zLow v) = 0) || decide ((1 : Int32) = nI (zClear v))))) (by decide +kernel) v hv) c2)), ht⟩) (fun q h => nomatch h) dWire_isClear_19
  · refine lv_iload_n hx hb dWire_isClear_7 rfl (lv_at hl 0 rfl) ?_
    refine nz_si (As := [.int (nI v)]) (rest := []) S (c_Wire_isHigh l v hv) kWire_15 ⟨rfl, rfl, Nat.le_of_ble_eq_true rfl, Nat.le_of_ble_eq_true rfl⟩ ⟨Nat.zero_le _, Nat.zero_le _⟩ (fun _ _ _ _ h => h) (fun _ _ _ => trivial) rfl hl.1 rfl (Nat.le_of_ble_eq_true rfl) dWire_isClear_8 (fun r3 er3 => ?_)
    subst er3
    refine lv_if_eq (tgt := 18) hx hb dWire_isClear_11 (by decide) (fun c4 => ?_) (fun c4 => ?_)
    · refine lv_iconst (v := 0) hx hb dWire_isClear_18 (by decide) ?_
      exact W.zret (v := 0) hx hb hr rfl (fun t ht hW => ⟨0, rfl, (of_decide_eq_true (ib (ib (al1 (N := 9) ((fun v => (!decide (nI (zLow v) = 0) || (!decide (nI (zHigh v) = 0) || decide ((0 : Int32) = nI (zClear v)))))) (by decide +kernel) v hv) c2) c4)), ht⟩) (fun q h => nomatch h) dWire_isClear_19
    · refine lv_iconst (v := 1) hx hb dWire_isClear_14 (by decide) ?_
      refine lv_goto (tgt := 19) hx hb dWire_isClear_15 (by decide) ?_
      exact W.zret (v := 1) hx hb hr rfl (fun t ht hW => ⟨1, rfl, (of_decide_eq_true (ib (ib (al1 (N := 9) ((fun v => (!decide (nI (zLow v) = 0) || (!decide (¬ nI (zHigh v) = 0) || decide ((1 : Int32) = nI (zClear v)))))) (by decide +kernel) v hv) c2) c4)), ht⟩) (fun q h => nomatch h) dWire_isClear_19
set_option maxHeartbeats 4000000 in
set_option maxRecDepth 100000 in
theorem c_Wire_not (l : Launch) (v : Nat) (hv : v < 9) : Met l yWire_not (Cond.code yWire_not bWire_not 1 (some .int) :: nzG) ({ frames := 2, cells := 0, slots := 0, locals := 40 }) (va_Pc [.int (nI v)] (fun _ => True)) (vp_Si (fun r => r = nI (zNot v))) 0 0 (fun _ => False) := by
  refine nz_of (own := RI) (by decide) rfl ?_
  intro p e s m args below meth c S hr hlocks _ hv9
  obtain ⟨rfl, -⟩ := hv9
  have hx := S.1
  have hb := S.2.1
  refine nz_entry (vs := [.int (nI v)]) (n := 1) (lv := [(0, .int (nI v))]) (Nat.le_of_ble_eq_true rfl) rfl (fun ls hl => ?_)
  refine lv_iload_n hx hb dWire_not_0 rfl (lv_at hl 0 rfl) ?_
  refine nz_si (As := [.int (nI v)]) (rest := []) S (c_Wire_isClear l v hv) kWire_35 ⟨rfl, rfl, Nat.le_of_ble_eq_true rfl, Nat.le_of_ble_eq_true rfl⟩ ⟨Nat.zero_le _, Nat.zero_le _⟩ (fun _ _ _ _ h => h) (fun _ _ _ => trivial) rfl hl.1 rfl (Nat.le_of_ble_eq_true rfl) dWire_not_1 (fun r1 er1 => ?_)
  subst er1
  refine lv_if_eq (tgt := 20) hx hb dWire_not_4 (by decide) (fun c2 => ?_) (fun c2 => ?_)
  · refine lv_iload_n hx hb dWire_not_20 rfl (lv_at hl 0 rfl) ?_
    refine lv_if_ne (tgt := 28) hx hb dWire_not_21 (by decide) (fun c3 => ?_) (fun c3 => ?_)
    · refine lv_iconst (v := 1) hx hb dWire_not_28 (by decide) ?_
      exact W.iret (v := 1) hx hb hr (fun t ht hW => ⟨_, rfl, (of_decide_eq_true (ib (ib (al1 (N := 9) ((fun v => (!decide (nI (zClear v) = 0) || (!decide (¬ nI v = 0) || decide ((1 : Int32) = nI (zNot v)))))) (by decide +kernel) v hv) c2) c3)), ht⟩) (fun q h => nomatch h) dWire_not_29
    · refine lv_iconst (v := 0) hx hb dWire_not_24 (by decide) ?_
      refine lv_goto (tgt := 29) hx hb dWire_not_25 (by decide) ?_
      exact W.iret (v := 0) hx hb hr (fun t ht hW => ⟨_, rfl, (of_decide_eq_true (ib (ib (al1 (N := 9) ((fun v => (!decide (nI (zClear v) = 0) || (!decide (nI v = 0) || decide ((0 : Int32) = nI (zNot v)))))) (by decide +kernel) v hv) c2) c3)), ht⟩) (fun q h => nomatch h) dWire_not_29
  · refine lv_iload_n hx hb dWire_not_7 rfl (lv_at hl 0 rfl) ?_
    refine nz_si (As := [.int (nI v)]) (rest := []) S (c_Wire_isLow l v hv) kWire_9 ⟨rfl, rfl, Nat.le_of_ble_eq_true rfl, Nat.le_of_ble_eq_true rfl⟩ ⟨Nat.zero_le _, Nat.zero_le _⟩ (fun _ _ _ _ h => h) (fun _ _ _ => trivial) rfl hl.1 rfl (Nat.le_of_ble_eq_true rfl) dWire_not_8 (fun r4 er4 => ?_)
    subst er4
    refine lv_if_eq (tgt := 18) hx hb dWire_not_11 (by decide) (fun c5 => ?_) (fun c5 => ?_)
    · refine lv_iconst (v := 2) hx hb dWire_not_18 (by decide) ?_
      exact W.iret (v := 2) hx hb hr (fun t ht hW => ⟨_, rfl, (of_decide_eq_true (ib (ib (al1 (N := 9) ((fun v => (!decide (¬ nI (zClear v) = 0) || (!decide (nI (zLow v) = 0) || decide ((2 : Int32) = nI (zNot v)))))) (by decide +kernel) v hv) c2) c5)), ht⟩) (fun q h => nomatch h) dWire_not_19
    · refine lv_iconst (v := 3) hx hb dWire_not_14 (by decide) ?_
      refine lv_goto (tgt := 19) hx hb dWire_not_15 (by decide) ?_
      exact W.iret (v := 3) hx hb hr (fun t ht hW => ⟨_, rfl, (of_decide_eq_true (ib (ib (al1 (N := 9) ((fun v => (!decide (¬ nI (zClear v) = 0) || (!decide (¬ nI (zLow v) = 0) || decide ((3 : Int32) = nI (zNot v)))))) (by decide +kernel) v hv) c2) c5)), ht⟩) (fun q h => nomatch h) dWire_not_19
set_option maxHeartbeats 4000000 in
set_option maxRecDepth 100000 in
theorem c_Wire_drive (l : Launch) (p1 : Nat) (hp1 : p1 < 9) (q1 : Nat) (hq1 : q1 < 9) : Met l yWire_drive (Cond.code yWire_drive bWire_drive 4 (some .int) :: nzG) ({ frames := 0, cells := 0, slots := 0, locals := 0 }) (va_Pc [.int (nI p1), .int (nI q1)] (fun _ => True)) (vp_Si (fun r => r = nI (zDrive p1 q1))) 0 0 (fun _ => False) := by
  refine nz_of (own := RI) (by decide) rfl ?_
  intro p e s m args below meth c S hr hlocks _ hv9
  obtain ⟨rfl, -⟩ := hv9
  have hx := S.1
  have hb := S.2.1
  refine nz_entry (vs := [.int (nI p1), .int (nI q1)]) (n := 4) (lv := [(0, .int (nI p1)), (1, .int (nI q1))]) (Nat.le_of_ble_eq_true rfl) rfl (fun ls hl => ?_)
  refine lv_iload_n hx hb dWire_drive_0 rfl (lv_at hl 0 rfl) ?_
  refine lv_if_eq (tgt := 8) hx hb dWire_drive_1 (by decide) (fun c1 => ?_) (fun c1 => ?_)
  · refine lv_iconst (v := 0) hx hb dWire_drive_8 (by decide) ?_
    exact W.iret (v := 0) hx hb hr (fun t ht hW => ⟨_, rfl, (of_decide_eq_true (ib (al2 (N := 9) (M := 9) ((fun p1 q1 => (!decide (nI p1 = 0) || decide ((0 : Int32) = nI (zDrive p1 q1))))) (by decide +kernel) p1 hp1 q1 hq1) c1)), ht⟩) (fun q h => nomatch h) dWire_drive_9
  · refine lv_iload_n hx hb dWire_drive_4 rfl (lv_at hl 1 rfl) ?_
    refine lv_if_ne (tgt := 10) hx hb dWire_drive_5 (by decide) (fun c2 => ?_) (fun c2 => ?_)
    · refine lv_iload_n hx hb dWire_drive_10 rfl (lv_at hl 0 rfl) ?_
      refine lv_iconst (v := 1) hx hb dWire_drive_11 (by decide) ?_
      refine lv_icmp_eq (tgt := 32) hx hb dWire_drive_12 (by decide) (fun c3 => ?_) (fun c3 => ?_)
      · refine lv_iconst (v := 1) hx hb dWire_drive_32 (by decide) ?_
        exact W.iret (v := 1) hx hb hr (fun t ht hW => ⟨_, rfl, (of_decide_eq_true (ib (ib (ib (al2 (N := 9) (M := 9) ((fun p1 q1 => (!decide (¬ nI p1 = 0) || (!decide (¬ nI q1 = 0) || (!decide (nI p1 = 1) || decide ((1 : Int32) = nI (zDrive p1 q1))))))) (by decide +kernel) p1 hp1 q1 hq1) c1) c2) c3)), ht⟩) (fun q h => nomatch h) dWire_drive_33
      · refine lv_iload_n hx hb dWire_drive_15 rfl (lv_at hl 0 rfl) ?_
        refine lv_bipush (v := 8) hx hb dWire_drive_16 (by decide) ?_
        refine lv_icmp_eq (tgt := 32) hx hb dWire_drive_18 (by decide) (fun c4 => ?_) (fun c4 => ?_)
        · refine lv_iconst (v := 1) hx hb dWire_drive_32 (by decide) ?_
          exact W.iret (v := 1) hx hb hr (fun t ht hW => ⟨_, rfl, (of_decide_eq_true (ib (ib (ib (ib (al2 (N := 9) (M := 9) ((fun p1 q1 => (!decide (¬ nI p1 = 0) || (!decide (¬ nI q1 = 0) || (!decide (¬ nI p1 = 1) || (!decide (nI p1 = 8) || decide ((1 : Int32) = nI (zDrive p1 q1)))))))) (by decide +kernel) p1 hp1 q1 hq1) c1) c2) c3) c4)), ht⟩) (fun q h => nomatch h) dWire_drive_33
        · refine lv_iload_n hx hb dWire_drive_21 rfl (lv_at hl 1 rfl) ?_
          refine lv_iconst (v := 1) hx hb dWire_drive_22 (by decide) ?_
          refine lv_icmp_eq (tgt := 32) hx hb dWire_drive_23 (by decide) (fun c5 => ?_) (fun c5 => ?_)
          · refine lv_iconst (v := 1) hx hb dWire_drive_32 (by decide) ?_
            exact W.iret (v := 1) hx hb hr (fun t ht hW => ⟨_, rfl, (of_decide_eq_true (ib (ib (ib (ib (ib (al2 (N := 9) (M := 9) ((fun p1 q1 => (!decide (¬ nI p1 = 0) || (!decide (¬ nI q1 = 0) || (!decide (¬ nI p1 = 1) || (!decide (¬ nI p1 = 8) || (!decide (nI q1 = 1) || decide ((1 : Int32) = nI (zDrive p1 q1))))))))) (by decide +kernel) p1 hp1 q1 hq1) c1) c2) c3) c4) c5)), ht⟩) (fun q h => nomatch h) dWire_drive_33
          · refine lv_iload_n hx hb dWire_drive_26 rfl (lv_at hl 1 rfl) ?_
            refine lv_bipush (v := 8) hx hb dWire_drive_27 (by decide) ?_
            refine lv_icmp_ne (tgt := 34) hx hb dWire_drive_29 (by decide) (fun c6 => ?_) (fun c6 => ?_)
            · refine lv_iload_n hx hb dWire_drive_34 rfl (lv_at hl 0 rfl) ?_
              refine lv_iconst (v := 4) hx hb dWire_drive_35 (by decide) ?_
              refine lv_icmp_eq (tgt := 44) hx hb dWire_drive_36 (by decide) (fun c7 => ?_) (fun c7 => ?_)
              · refine lv_iload_n hx hb dWire_drive_44 rfl (lv_at hl 1 rfl) ?_
                exact W.iret (v := nI q1) hx hb hr (fun t ht hW => ⟨_, rfl, (of_decide_eq_true (ib (ib (ib (ib (ib (ib (ib (al2 (N := 9) (M := 9) ((fun p1 q1 => (!decide (¬ nI p1 = 0) || (!decide (¬ nI q1 = 0) || (!decide (¬ nI p1 = 1) || (!decide (¬ nI p1 = 8) || (!decide (¬ nI q1 = 1) || (!decide (¬ nI q1 = 8) || (!decide (nI p1 = 4) || decide (nI q1 = nI (zDrive p1 q1))))))))))) (by decide +kernel) p1 hp1 q1 hq1) c1) c2) c3) c4) c5) c6) c7)), ht⟩) (fun q h => nomatch h) dWire_drive_45
              · refine lv_iload_n hx hb dWire_drive_39 rfl (lv_at hl 0 rfl) ?_
                refine lv_iload_n hx hb dWire_drive_40 rfl (lv_at hl 1 rfl) ?_
                refine lv_icmp_ne (tgt := 46) hx hb dWire_drive_41 (by decide) (fun c8 => ?_) (fun c8 => ?_)
                · refine lv_iload_n hx hb dWire_drive_46 rfl (lv_at hl 1 rfl) ?_
                  refine lv_iconst (v := 4) hx hb dWire_drive_47 (by decide) ?_
                  refine lv_icmp_ne (tgt := 53) hx hb dWire_drive_48 (by decide) (fun c9 => ?_) (fun c9 => ?_)
                  · refine lv_iload_n hx hb dWire_drive_53 rfl (lv_at hl 0 rfl) ?_
                    refine lv_iconst (v := 2) hx hb dWire_drive_54 (by decide) ?_
                    refine lv_icmp_eq (tgt := 63) hx hb dWire_drive_55 (by decide) (fun c10 => ?_) (fun c10 => ?_)
                    · refine lv_iconst (v := 1) hx hb dWire_drive_63 (by decide) ?_
                      refine lv_goto (tgt := 68) hx hb dWire_drive_64 (by decide) ?_
                      refine lv_istore_n (lv' := [(2, .int 1), (0, .int (nI p1)), (1, .int (nI q1))]) hx hb dWire_drive_68 rfl hl (by decide) rfl (fun ls hl => ?_)
                      refine lv_iload_n hx hb dWire_drive_69 rfl (lv_at hl 2 rfl) ?_
                      refine lv_iconst (v := 2) hx hb dWire_drive_70 (by decide) ?_
                      refine lv_icmp_eq (tgt := 79) hx hb dWire_drive_71 (by decide) (fun c11 => ?_) (fun c11 => ?_)
                      · refine lv_iconst (v := 1) hx hb dWire_drive_79 (by decide) ?_
                        refine lv_goto (tgt := 84) hx hb dWire_drive_80 (by decide) ?_
                        refine lv_istore_n (lv' := [(3, .int 1), (2, .int 1), (0, .int (nI p1)), (1, .int (nI q1))]) hx hb dWire_drive_84 rfl hl (by decide) rfl (fun ls hl => ?_)
                        refine lv_iload_n hx hb dWire_drive_85 rfl (lv_at hl 1 rfl) ?_
                        refine lv_if_eq (tgt := 95) hx hb dWire_drive_86 (by decide) (fun c12 => absurd c12 (by decide)) (fun _ => ?_)
                        refine lv_iload_n hx hb dWire_drive_89 rfl (lv_at hl 0 rfl) ?_
                        refine lv_if_eq (tgt := 95) hx hb dWire_drive_90 (by decide) (fun c13 => absurd c13 (by decide)) (fun _ => ?_)
                        refine lv_iconst (v := 1) hx hb dWire_drive_93 (by decide) ?_
                        exact W.iret (v := 1) hx hb hr (fun t ht hW => ⟨_, rfl, (of_decide_eq_true (ib (ib (ib (ib (ib (ib (ib (ib (ib (ib (ib (al2 (N := 9) (M := 9) ((fun p1 q1 => (!decide (¬ nI p1 = 0) || (!decide (¬ nI q1 = 0) || (!decide (¬ nI p1 = 1) || (!decide (¬ nI p1 = 8) || (!decide (¬ nI q1 = 1) || (!decide (¬ nI q1 = 8) || (!decide (¬ nI p1 = 4) || (!decide (¬ nI p1 = nI q1) || (!decide (¬ nI q1 = 4) || (!decide (nI p1 = 2) || (!decide (nI q1 = 2) || decide ((1 : Int32) = nI (zDrive p1 q1))))))))))))))) (by decide +kernel) p1 hp1 q1 hq1) c1) c2) c3) c4) c5) c6) c7) c8) c9) c10) c11)), ht⟩) (fun q h => nomatch h) dWire_drive_94
                      · refine lv_iload_n hx hb dWire_drive_74 rfl (lv_at hl 2 rfl) ?_
                        refine lv_iconst (v := 3) hx hb dWire_drive_75 (by decide) ?_
                        refine lv_icmp_ne (tgt := 83) hx hb dWire_drive_76 (by decide) (fun c14 => ?_) (fun c14 => ?_)
                        · refine lv_iconst (v := 0) hx hb dWire_drive_83 (by decide) ?_
                          refine lv_istore_n (lv' := [(3, .int 0), (2, .int 1), (0, .int (nI p1)), (1, .int (nI q1))]) hx hb dWire_drive_84 rfl hl (by decide) rfl (fun ls hl => ?_)
                          refine lv_iload_n hx hb dWire_drive_85 rfl (lv_at hl 1 rfl) ?_
                          refine lv_if_eq (tgt := 95) hx hb dWire_drive_86 (by decide) (fun c15 => absurd c15 (by decide)) (fun _ => ?_)
                          refine lv_iload_n hx hb dWire_drive_89 rfl (lv_at hl 0 rfl) ?_
                          refine lv_if_eq (tgt := 95) hx hb dWire_drive_90 (by decide) (fun _ => ?_) (fun c16 => absurd (by decide) c16)
                          refine lv_iload_n hx hb dWire_drive_95 rfl (lv_at hl 1 rfl) ?_
                          refine lv_if_eq (tgt := 101) hx hb dWire_drive_96 (by decide) (fun c17 => absurd c17 (by decide)) (fun _ => ?_)
                          refine lv_iload_n hx hb dWire_drive_99 rfl (lv_at hl 2 rfl) ?_
                          exact W.iret (v := nI p1) hx hb hr (fun t ht hW => ⟨_, rfl, (of_decide_eq_true (ib (ib (ib (ib (ib (ib (ib (ib (ib (ib (ib (ib (al2 (N := 9) (M := 9) ((fun p1 q1 => (!decide (¬ nI p1 = 0) || (!decide (¬ nI q1 = 0) || (!decide (¬ nI p1 = 1) || (!decide (¬ nI p1 = 8) || (!decide (¬ nI q1 = 1) || (!decide (¬ nI q1 = 8) || (!decide (¬ nI p1 = 4) || (!decide (¬ nI p1 = nI q1) || (!decide (¬ nI q1 = 4) || (!decide (nI p1 = 2) || (!decide (¬ nI q1 = 2) || (!decide (¬ nI q1 = 3) || decide (nI p1 = nI (zDrive p1 q1)))))))))))))))) (by decide +kernel) p1 hp1 q1 hq1) c1) c2) c3) c4) c5) c6) c7) c8) c9) c10) c11) c14)), ht⟩) (fun q h => nomatch h) dWire_drive_100
                        · refine lv_iconst (v := 1) hx hb dWire_drive_79 (by decide) ?_
                          refine lv_goto (tgt := 84) hx hb dWire_drive_80 (by decide) ?_
                          refine lv_istore_n (lv' := [(3, .int 1), (2, .int 1), (0, .int (nI p1)), (1, .int (nI q1))]) hx hb dWire_drive_84 rfl hl (by decide) rfl (fun ls hl => ?_)
                          refine lv_iload_n hx hb dWire_drive_85 rfl (lv_at hl 1 rfl) ?_
                          refine lv_if_eq (tgt := 95) hx hb dWire_drive_86 (by decide) (fun c18 => absurd c18 (by decide)) (fun _ => ?_)
                          refine lv_iload_n hx hb dWire_drive_89 rfl (lv_at hl 0 rfl) ?_
                          refine lv_if_eq (tgt := 95) hx hb dWire_drive_90 (by decide) (fun c19 => absurd c19 (by decide)) (fun _ => ?_)
                          refine lv_iconst (v := 1) hx hb dWire_drive_93 (by decide) ?_
                          exact W.iret (v := 1) hx hb hr (fun t ht hW => ⟨_, rfl, (of_decide_eq_true (ib (ib (ib (ib (ib (ib (ib (ib (ib (ib (ib (ib (al2 (N := 9) (M := 9) ((fun p1 q1 => (!decide (¬ nI p1 = 0) || (!decide (¬ nI q1 = 0) || (!decide (¬ nI p1 = 1) || (!decide (¬ nI p1 = 8) || (!decide (¬ nI q1 = 1) || (!decide (¬ nI q1 = 8) || (!decide (¬ nI p1 = 4) || (!decide (¬ nI p1 = nI q1) || (!decide (¬ nI q1 = 4) || (!decide (nI p1 = 2) || (!decide (¬ nI q1 = 2) || (!decide (nI q1 = 3) || decide ((1 : Int32) = nI (zDrive p1 q1)))))))))))))))) (by decide +kernel) p1 hp1 q1 hq1) c1) c2) c3) c4) c5) c6) c7) c8) c9) c10) c11) c14)), ht⟩) (fun q h => nomatch h) dWire_drive_94
                    · refine lv_iload_n hx hb dWire_drive_58 rfl (lv_at hl 0 rfl) ?_
                      refine lv_iconst (v := 3) hx hb dWire_drive_59 (by decide) ?_
                      refine lv_icmp_ne (tgt := 67) hx hb dWire_drive_60 (by decide) (fun c20 => ?_) (fun c20 => ?_)
                      · refine lv_iconst (v := 0) hx hb dWire_drive_67 (by decide) ?_
                        refine lv_istore_n (lv' := [(2, .int 0), (0, .int (nI p1)), (1, .int (nI q1))]) hx hb dWire_drive_68 rfl hl (by decide) rfl (fun ls hl => ?_)
                        refine lv_iload_n hx hb dWire_drive_69 rfl (lv_at hl 2 rfl) ?_
                        refine lv_iconst (v := 2) hx hb dWire_drive_70 (by decide) ?_
                        refine lv_icmp_eq (tgt := 79) hx hb dWire_drive_71 (by decide) (fun c21 => ?_) (fun c21 => ?_)
                        · refine lv_iconst (v := 1) hx hb dWire_drive_79 (by decide) ?_
                          refine lv_goto (tgt := 84) hx hb dWire_drive_80 (by decide) ?_
                          refine lv_istore_n (lv' := [(3, .int 1), (2, .int 0), (0, .int (nI p1)), (1, .int (nI q1))]) hx hb dWire_drive_84 rfl hl (by decide) rfl (fun ls hl => ?_)
                          refine lv_iload_n hx hb dWire_drive_85 rfl (lv_at hl 1 rfl) ?_
                          refine lv_if_eq (tgt := 95) hx hb dWire_drive_86 (by decide) (fun _ => ?_) (fun c22 => absurd (by decide) c22)
                          refine lv_iload_n hx hb dWire_drive_95 rfl (lv_at hl 1 rfl) ?_
                          refine lv_if_eq (tgt := 101) hx hb dWire_drive_96 (by decide) (fun _ => ?_) (fun c23 => absurd (by decide) c23)
                          refine lv_iload_n hx hb dWire_drive_101 rfl (lv_at hl 0 rfl) ?_
                          refine lv_if_eq (tgt := 109) hx hb dWire_drive_102 (by decide) (fun c24 => absurd c24 (by decide)) (fun _ => ?_)
                          refine lv_iload_n hx hb dWire_drive_105 rfl (lv_at hl 3 rfl) ?_
                          refine lv_goto (tgt := 110) hx hb dWire_drive_106 (by decide) ?_
                          exact W.iret (v := nI q1) hx hb hr (fun t ht hW => ⟨_, rfl, (of_decide_eq_true (ib (ib (ib (ib (ib (ib (ib (ib (ib (ib (ib (ib (al2 (N := 9) (M := 9) ((fun p1 q1 => (!decide (¬ nI p1 = 0) || (!decide (¬ nI q1 = 0) || (!decide (¬ nI p1 = 1) || (!decide (¬ nI p1 = 8) || (!decide (¬ nI q1 = 1) || (!decide (¬ nI q1 = 8) || (!decide (¬ nI p1 = 4) || (!decide (¬ nI p1 = nI q1) || (!decide (¬ nI q1 = 4) || (!decide (¬ nI p1 = 2) || (!decide (¬ nI p1 = 3) || (!decide (nI q1 = 2) || decide (nI q1 = nI (zDrive p1 q1)))))))))))))))) (by decide +kernel) p1 hp1 q1 hq1) c1) c2) c3) c4) c5) c6) c7) c8) c9) c10) c20) c21)), ht⟩) (fun q h => nomatch h) dWire_drive_110
                        · refine lv_iload_n hx hb dWire_drive_74 rfl (lv_at hl 2 rfl) ?_
                          refine lv_iconst (v := 3) hx hb dWire_drive_75 (by decide) ?_
                          refine lv_icmp_ne (tgt := 83) hx hb dWire_drive_76 (by decide) (fun c25 => ?_) (fun c25 => ?_)
                          · refine lv_iconst (v := 0) hx hb dWire_drive_83 (by decide) ?_
                            refine lv_istore_n (lv' := [(3, .int 0), (2, .int 0), (0, .int (nI p1)), (1, .int (nI q1))]) hx hb dWire_drive_84 rfl hl (by decide) rfl (fun ls hl => ?_)
                            refine lv_iload_n hx hb dWire_drive_85 rfl (lv_at hl 1 rfl) ?_
                            refine lv_if_eq (tgt := 95) hx hb dWire_drive_86 (by decide) (fun _ => ?_) (fun c26 => absurd (by decide) c26)
                            refine lv_iload_n hx hb dWire_drive_95 rfl (lv_at hl 1 rfl) ?_
                            refine lv_if_eq (tgt := 101) hx hb dWire_drive_96 (by decide) (fun _ => ?_) (fun c27 => absurd (by decide) c27)
                            refine lv_iload_n hx hb dWire_drive_101 rfl (lv_at hl 0 rfl) ?_
                            refine lv_if_eq (tgt := 109) hx hb dWire_drive_102 (by decide) (fun _ => ?_) (fun c28 => absurd (by decide) c28)
                            refine lv_iconst (v := 5) hx hb dWire_drive_109 (by decide) ?_
                            exact W.iret (v := 5) hx hb hr (fun t ht hW => ⟨_, rfl, (of_decide_eq_true (ib (ib (ib (ib (ib (ib (ib (ib (ib (ib (ib (ib (ib (al2 (N := 9) (M := 9) ((fun p1 q1 => (!decide (¬ nI p1 = 0) || (!decide (¬ nI q1 = 0) || (!decide (¬ nI p1 = 1) || (!decide (¬ nI p1 = 8) || (!decide (¬ nI q1 = 1) || (!decide (¬ nI q1 = 8) || (!decide (¬ nI p1 = 4) || (!decide (¬ nI p1 = nI q1) || (!decide (¬ nI q1 = 4) || (!decide (¬ nI p1 = 2) || (!decide (¬ nI p1 = 3) || (!decide (¬ nI q1 = 2) || (!decide (¬ nI q1 = 3) || decide ((5 : Int32) = nI (zDrive p1 q1))))))))))))))))) (by decide +kernel) p1 hp1 q1 hq1) c1) c2) c3) c4) c5) c6) c7) c8) c9) c10) c20) c21) c25)), ht⟩) (fun q h => nomatch h) dWire_drive_110
                          · refine lv_iconst (v := 1) hx hb dWire_drive_79 (by decide) ?_
                            refine lv_goto (tgt := 84) hx hb dWire_drive_80 (by decide) ?_
                            refine lv_istore_n (lv' := [(3, .int 1), (2, .int 0), (0, .int (nI p1)), (1, .int (nI q1))]) hx hb dWire_drive_84 rfl hl (by decide) rfl (fun ls hl => ?_)
                            refine lv_iload_n hx hb dWire_drive_85 rfl (lv_at hl 1 rfl) ?_
                            refine lv_if_eq (tgt := 95) hx hb dWire_drive_86 (by decide) (fun _ => ?_) (fun c29 => absurd (by decide) c29)
                            refine lv_iload_n hx hb dWire_drive_95 rfl (lv_at hl 1 rfl) ?_
                            refine lv_if_eq (tgt := 101) hx hb dWire_drive_96 (by decide) (fun _ => ?_) (fun c30 => absurd (by decide) c30)
                            refine lv_iload_n hx hb dWire_drive_101 rfl (lv_at hl 0 rfl) ?_
                            refine lv_if_eq (tgt := 109) hx hb dWire_drive_102 (by decide) (fun c31 => absurd c31 (by decide)) (fun _ => ?_)
                            refine lv_iload_n hx hb dWire_drive_105 rfl (lv_at hl 3 rfl) ?_
                            refine lv_goto (tgt := 110) hx hb dWire_drive_106 (by decide) ?_
                            exact W.iret (v := nI q1) hx hb hr (fun t ht hW => ⟨_, rfl, (of_decide_eq_true (ib (ib (ib (ib (ib (ib (ib (ib (ib (ib (ib (ib (ib (al2 (N := 9) (M := 9) ((fun p1 q1 => (!decide (¬ nI p1 = 0) || (!decide (¬ nI q1 = 0) || (!decide (¬ nI p1 = 1) || (!decide (¬ nI p1 = 8) || (!decide (¬ nI q1 = 1) || (!decide (¬ nI q1 = 8) || (!decide (¬ nI p1 = 4) || (!decide (¬ nI p1 = nI q1) || (!decide (¬ nI q1 = 4) || (!decide (¬ nI p1 = 2) || (!decide (¬ nI p1 = 3) || (!decide (¬ nI q1 = 2) || (!decide (nI q1 = 3) || decide (nI q1 = nI (zDrive p1 q1))))))))))))))))) (by decide +kernel) p1 hp1 q1 hq1) c1) c2) c3) c4) c5) c6) c7) c8) c9) c10) c20) c21) c25)), ht⟩) (fun q h => nomatch h) dWire_drive_110
                      · refine lv_iconst (v := 1) hx hb dWire_drive_63 (by decide) ?_
                        refine lv_goto (tgt := 68) hx hb dWire_drive_64 (by decide) ?_
                        refine lv_istore_n (lv' := [(2, .int 1), (0, .int (nI p1)), (1, .int (nI q1))]) hx hb dWire_drive_68 rfl hl (by decide) rfl (fun ls hl => ?_)
                        refine lv_iload_n hx hb dWire_drive_69 rfl (lv_at hl 2 rfl) ?_
                        refine lv_iconst (v := 2) hx hb dWire_drive_70 (by decide) ?_
                        refine lv_icmp_eq (tgt := 79) hx hb dWire_drive_71 (by decide) (fun c32 => ?_) (fun c32 => ?_)
                        · refine lv_iconst (v := 1) hx hb dWire_drive_79 (by decide) ?_
                          refine lv_goto (tgt := 84) hx hb dWire_drive_80 (by decide) ?_
                          refine lv_istore_n (lv' := [(3, .int 1), (2, .int 1), (0, .int (nI p1)), (1, .int (nI q1))]) hx hb dWire_drive_84 rfl hl (by decide) rfl (fun ls hl => ?_)
                          refine lv_iload_n hx hb dWire_drive_85 rfl (lv_at hl 1 rfl) ?_
                          refine lv_if_eq (tgt := 95) hx hb dWire_drive_86 (by decide) (fun c33 => absurd c33 (by decide)) (fun _ => ?_)
                          refine lv_iload_n hx hb dWire_drive_89 rfl (lv_at hl 0 rfl) ?_
                          refine lv_if_eq (tgt := 95) hx hb dWire_drive_90 (by decide) (fun c34 => absurd c34 (by decide)) (fun _ => ?_)
                          refine lv_iconst (v := 1) hx hb dWire_drive_93 (by decide) ?_
                          exact W.iret (v := 1) hx hb hr (fun t ht hW => ⟨_, rfl, (of_decide_eq_true (ib (ib (ib (ib (ib (ib (ib (ib (ib (ib (ib (ib (al2 (N := 9) (M := 9) ((fun p1 q1 => (!decide (¬ nI p1 = 0) || (!decide (¬ nI q1 = 0) || (!decide (¬ nI p1 = 1) || (!decide (¬ nI p1 = 8) || (!decide (¬ nI q1 = 1) || (!decide (¬ nI q1 = 8) || (!decide (¬ nI p1 = 4) || (!decide (¬ nI p1 = nI q1) || (!decide (¬ nI q1 = 4) || (!decide (¬ nI p1 = 2) || (!decide (nI p1 = 3) || (!decide (nI q1 = 2) || decide ((1 : Int32) = nI (zDrive p1 q1)))))))))))))))) (by decide +kernel) p1 hp1 q1 hq1) c1) c2) c3) c4) c5) c6) c7) c8) c9) c10) c20) c32)), ht⟩) (fun q h => nomatch h) dWire_drive_94
                        · refine lv_iload_n hx hb dWire_drive_74 rfl (lv_at hl 2 rfl) ?_
                          refine lv_iconst (v := 3) hx hb dWire_drive_75 (by decide) ?_
                          refine lv_icmp_ne (tgt := 83) hx hb dWire_drive_76 (by decide) (fun c35 => ?_) (fun c35 => ?_)
                          · refine lv_iconst (v := 0) hx hb dWire_drive_83 (by decide) ?_
                            refine lv_istore_n (lv' := [(3, .int 0), (2, .int 1), (0, .int (nI p1)), (1, .int (nI q1))]) hx hb dWire_drive_84 rfl hl (by decide) rfl (fun ls hl => ?_)
                            refine lv_iload_n hx hb dWire_drive_85 rfl (lv_at hl 1 rfl) ?_
                            refine lv_if_eq (tgt := 95) hx hb dWire_drive_86 (by decide) (fun c36 => absurd c36 (by decide)) (fun _ => ?_)
                            refine lv_iload_n hx hb dWire_drive_89 rfl (lv_at hl 0 rfl) ?_
                            refine lv_if_eq (tgt := 95) hx hb dWire_drive_90 (by decide) (fun _ => ?_) (fun c37 => absurd (by decide) c37)
                            refine lv_iload_n hx hb dWire_drive_95 rfl (lv_at hl 1 rfl) ?_
                            refine lv_if_eq (tgt := 101) hx hb dWire_drive_96 (by decide) (fun c38 => absurd c38 (by decide)) (fun _ => ?_)
                            refine lv_iload_n hx hb dWire_drive_99 rfl (lv_at hl 2 rfl) ?_
                            exact W.iret (v := nI p1) hx hb hr (fun t ht hW => ⟨_, rfl, (of_decide_eq_true (ib (ib (ib (ib (ib (ib (ib (ib (ib (ib (ib (ib (ib (al2 (N := 9) (M := 9) ((fun p1 q1 => (!decide (¬ nI p1 = 0) || (!decide (¬ nI q1 = 0) || (!decide (¬ nI p1 = 1) || (!decide (¬ nI p1 = 8) || (!decide (¬ nI q1 = 1) || (!decide (¬ nI q1 = 8) || (!decide (¬ nI p1 = 4) || (!decide (¬ nI p1 = nI q1) || (!decide (¬ nI q1 = 4) || (!decide (¬ nI p1 = 2) || (!decide (nI p1 = 3) || (!decide (¬ nI q1 = 2) || (!decide (¬ nI q1 = 3) || decide (nI p1 = nI (zDrive p1 q1))))))))))))))))) (by decide +kernel) p1 hp1 q1 hq1) c1) c2) c3) c4) c5) c6) c7) c8) c9) c10) c20) c32) c35)), ht⟩) (fun q h => nomatch h) dWire_drive_100
                          · refine lv_iconst (v := 1) hx hb dWire_drive_79 (by decide) ?_
                            refine lv_goto (tgt := 84) hx hb dWire_drive_80 (by decide) ?_
                            refine lv_istore_n (lv' := [(3, .int 1), (2, .int 1), (0, .int (nI p1)), (1, .int (nI q1))]) hx hb dWire_drive_84 rfl hl (by decide) rfl (fun ls hl => ?_)
                            refine lv_iload_n hx hb dWire_drive_85 rfl (lv_at hl 1 rfl) ?_
                            refine lv_if_eq (tgt := 95) hx hb dWire_drive_86 (by decide) (fun c39 => absurd c39 (by decide)) (fun _ => ?_)
                            refine lv_iload_n hx hb dWire_drive_89 rfl (lv_at hl 0 rfl) ?_
                            refine lv_if_eq (tgt := 95) hx hb dWire_drive_90 (by decide) (fun c40 => absurd c40 (by decide)) (fun _ => ?_)
                            refine lv_iconst (v := 1) hx hb dWire_drive_93 (by decide) ?_
                            exact W.iret (v := 1) hx hb hr (fun t ht hW => ⟨_, rfl, (of_decide_eq_true (ib (ib (ib (ib (ib (ib (ib (ib (ib (ib (ib (ib (ib (al2 (N := 9) (M := 9) ((fun p1 q1 => (!decide (¬ nI p1 = 0) || (!decide (¬ nI q1 = 0) || (!decide (¬ nI p1 = 1) || (!decide (¬ nI p1 = 8) || (!decide (¬ nI q1 = 1) || (!decide (¬ nI q1 = 8) || (!decide (¬ nI p1 = 4) || (!decide (¬ nI p1 = nI q1) || (!decide (¬ nI q1 = 4) || (!decide (¬ nI p1 = 2) || (!decide (nI p1 = 3) || (!decide (¬ nI q1 = 2) || (!decide (nI q1 = 3) || decide ((1 : Int32) = nI (zDrive p1 q1))))))))))))))))) (by decide +kernel) p1 hp1 q1 hq1) c1) c2) c3) c4) c5) c6) c7) c8) c9) c10) c20) c32) c35)), ht⟩) (fun q h => nomatch h) dWire_drive_94
                  · refine lv_iload_n hx hb dWire_drive_51 rfl (lv_at hl 0 rfl) ?_
                    exact W.iret (v := nI p1) hx hb hr (fun t ht hW => ⟨_, rfl, (of_decide_eq_true (ib (ib (ib (ib (ib (ib (ib (ib (ib (al2 (N := 9) (M := 9) ((fun p1 q1 => (!decide (¬ nI p1 = 0) || (!decide (¬ nI q1 = 0) || (!decide (¬ nI p1 = 1) || (!decide (¬ nI p1 = 8) || (!decide (¬ nI q1 = 1) || (!decide (¬ nI q1 = 8) || (!decide (¬ nI p1 = 4) || (!decide (¬ nI p1 = nI q1) || (!decide (nI q1 = 4) || decide (nI p1 = nI (zDrive p1 q1))))))))))))) (by decide +kernel) p1 hp1 q1 hq1) c1) c2) c3) c4) c5) c6) c7) c8) c9)), ht⟩) (fun q h => nomatch h) dWire_drive_52
                · refine lv_iload_n hx hb dWire_drive_44 rfl (lv_at hl 1 rfl) ?_
                  exact W.iret (v := nI q1) hx hb hr (fun t ht hW => ⟨_, rfl, (of_decide_eq_true (ib (ib (ib (ib (ib (ib (ib (ib (al2 (N := 9) (M := 9) ((fun p1 q1 => (!decide (¬ nI p1 = 0) || (!decide (¬ nI q1 = 0) || (!decide (¬ nI p1 = 1) || (!decide (¬ nI p1 = 8) || (!decide (¬ nI q1 = 1) || (!decide (¬ nI q1 = 8) || (!decide (¬ nI p1 = 4) || (!decide (nI p1 = nI q1) || decide (nI q1 = nI (zDrive p1 q1)))))))))))) (by decide +kernel) p1 hp1 q1 hq1) c1) c2) c3) c4) c5) c6) c7) c8)), ht⟩) (fun q h => nomatch h) dWire_drive_45
            · refine lv_iconst (v := 1) hx hb dWire_drive_32 (by decide) ?_
              exact W.iret (v := 1) hx hb hr (fun t ht hW => ⟨_, rfl, (of_decide_eq_true (ib (ib (ib (ib (ib (ib (al2 (N := 9) (M := 9) ((fun p1 q1 => (!decide (¬ nI p1 = 0) || (!decide (¬ nI q1 = 0) || (!decide (¬ nI p1 = 1) || (!decide (¬ nI p1 = 8) || (!decide (¬ nI q1 = 1) || (!decide (nI q1 = 8) || decide ((1 : Int32) = nI (zDrive p1 q1)))))))))) (by decide +kernel) p1 hp1 q1 hq1) c1) c2) c3) c4) c5) c6)), ht⟩) (fun q h => nomatch h) dWire_drive_33
    · refine lv_iconst (v := 0) hx hb dWire_drive_8 (by decide) ?_
      exact W.iret (v := 0) hx hb hr (fun t ht hW => ⟨_, rfl, (of_decide_eq_true (ib (ib (al2 (N := 9) (M := 9) ((fun p1 q1 => (!decide (¬ nI p1 = 0) || (!decide (nI q1 = 0) || decide ((0 : Int32) = nI (zDrive p1 q1)))))) (by decide +kernel) p1 hp1 q1 hq1) c1) c2)), ht⟩) (fun q h => nomatch h) dWire_drive_9
set_option maxHeartbeats 4000000 in
set_option maxRecDepth 100000 in
theorem c_Wire_and (l : Launch) (p1 : Nat) (hp1 : p1 < 9) (q1 : Nat) (hq1 : q1 < 9) : Met l yWire_and (Cond.code yWire_and bWire_and 2 (some .int) :: nzG) ({ frames := 1, cells := 0, slots := 0, locals := 20 }) (va_Pc [.int (nI p1), .int (nI q1)] (fun _ => True)) (vp_Si (fun r => r = nI (zAnd p1 q1))) 0 0 (fun _ => False) := by
  refine nz_of (own := RI) (by decide) rfl ?_
  intro p e s m args below meth c S hr hlocks _ hv9
  obtain ⟨rfl, -⟩ := hv9
  have hx := S.1
  have hb := S.2.1
  refine nz_entry (vs := [.int (nI p1), .int (nI q1)]) (n := 2) (lv := [(0, .int (nI p1)), (1, .int (nI q1))]) (Nat.le_of_ble_eq_true rfl) rfl (fun ls hl => ?_)
  refine lv_iload_n hx hb dWire_and_0 rfl (lv_at hl 0 rfl) ?_
  refine nz_si (As := [.int (nI p1)]) (rest := []) S (c_Wire_isLow l p1 hp1) kWire_9 ⟨rfl, rfl, Nat.le_of_ble_eq_true rfl, Nat.le_of_ble_eq_true rfl⟩ ⟨Nat.zero_le _, Nat.zero_le _⟩ (fun _ _ _ _ h => h) (fun _ _ _ => trivial) rfl hl.1 rfl (Nat.le_of_ble_eq_true rfl) dWire_and_1 (fun r1 er1 => ?_)
  subst er1
  refine lv_if_ne (tgt := 14) hx hb dWire_and_4 (by decide) (fun c2 => ?_) (fun c2 => ?_)
  · refine lv_iconst (v := 2) hx hb dWire_and_14 (by decide) ?_
    exact W.iret (v := 2) hx hb hr (fun t ht hW => ⟨_, rfl, (of_decide_eq_true (ib (al2 (N := 9) (M := 9) ((fun p1 q1 => (!decide (¬ nI (zLow p1) = 0) || decide ((2 : Int32) = nI (zAnd p1 q1))))) (by decide +kernel) p1 hp1 q1 hq1) c2)), ht⟩) (fun q h => nomatch h) dWire_and_15
  · refine lv_iload_n hx hb dWire_and_7 rfl (lv_at hl 1 rfl) ?_
    refine nz_si (As := [.int (nI q1)]) (rest := []) S (c_Wire_isLow l q1 hq1) kWire_9 ⟨rfl, rfl, Nat.le_of_ble_eq_true rfl, Nat.le_of_ble_eq_true rfl⟩ ⟨Nat.zero_le _, Nat.zero_le _⟩ (fun _ _ _ _ h => h) (fun _ _ _ => trivial) rfl hl.1 rfl (Nat.le_of_ble_eq_true rfl) dWire_and_8 (fun r3 er3 => ?_)
    subst er3
    refine lv_if_eq (tgt := 16) hx hb dWire_and_11 (by decide) (fun c4 => ?_) (fun c4 => ?_)
    · refine lv_iload_n hx hb dWire_and_16 rfl (lv_at hl 0 rfl) ?_
      refine lv_if_eq (tgt := 24) hx hb dWire_and_17 (by decide) (fun c5 => ?_) (fun c5 => ?_)
      · refine lv_iconst (v := 0) hx hb dWire_and_24 (by decide) ?_
        exact W.iret (v := 0) hx hb hr (fun t ht hW => ⟨_, rfl, (of_decide_eq_true (ib (ib (ib (al2 (N := 9) (M := 9) ((fun p1 q1 => (!decide (nI (zLow p1) = 0) || (!decide (nI (zLow q1) = 0) || (!decide (nI p1 = 0) || decide ((0 : Int32) = nI (zAnd p1 q1))))))) (by decide +kernel) p1 hp1 q1 hq1) c2) c4) c5)), ht⟩) (fun q h => nomatch h) dWire_and_25
      · refine lv_iload_n hx hb dWire_and_20 rfl (lv_at hl 1 rfl) ?_
        refine lv_if_ne (tgt := 26) hx hb dWire_and_21 (by decide) (fun c6 => ?_) (fun c6 => ?_)
        · refine lv_iload_n hx hb dWire_and_26 rfl (lv_at hl 0 rfl) ?_
          refine nz_si (As := [.int (nI p1)]) (rest := []) S (c_Wire_isHigh l p1 hp1) kWire_15 ⟨rfl, rfl, Nat.le_of_ble_eq_true rfl, Nat.le_of_ble_eq_true rfl⟩ ⟨Nat.zero_le _, Nat.zero_le _⟩ (fun _ _ _ _ h => h) (fun _ _ _ => trivial) rfl hl.1 rfl (Nat.le_of_ble_eq_true rfl) dWire_and_27 (fun r7 er7 => ?_)
          subst er7
          refine lv_if_eq (tgt := 44) hx hb dWire_and_30 (by decide) (fun c8 => ?_) (fun c8 => ?_)
          · refine lv_iconst (v := 1) hx hb dWire_and_44 (by decide) ?_
            exact W.iret (v := 1) hx hb hr (fun t ht hW => ⟨_, rfl, (of_decide_eq_true (ib (ib (ib (ib (ib (al2 (N := 9) (M := 9) ((fun p1 q1 => (!decide (nI (zLow p1) = 0) || (!decide (nI (zLow q1) = 0) || (!decide (¬ nI p1 = 0) || (!decide (¬ nI q1 = 0) || (!decide (nI (zHigh p1) = 0) || decide ((1 : Int32) = nI (zAnd p1 q1))))))))) (by decide +kernel) p1 hp1 q1 hq1) c2) c4) c5) c6) c8)), ht⟩) (fun q h => nomatch h) dWire_and_45
          · refine lv_iload_n hx hb dWire_and_33 rfl (lv_at hl 1 rfl) ?_
            refine nz_si (As := [.int (nI q1)]) (rest := []) S (c_Wire_isHigh l q1 hq1) kWire_15 ⟨rfl, rfl, Nat.le_of_ble_eq_true rfl, Nat.le_of_ble_eq_true rfl⟩ ⟨Nat.zero_le _, Nat.zero_le _⟩ (fun _ _ _ _ h => h) (fun _ _ _ => trivial) rfl hl.1 rfl (Nat.le_of_ble_eq_true rfl) dWire_and_34 (fun r9 er9 => ?_)
            subst er9
            refine lv_if_eq (tgt := 44) hx hb dWire_and_37 (by decide) (fun c10 => ?_) (fun c10 => ?_)
            · refine lv_iconst (v := 1) hx hb dWire_and_44 (by decide) ?_
              exact W.iret (v := 1) hx hb hr (fun t ht hW => ⟨_, rfl, (of_decide_eq_true (ib (ib (ib (ib (ib (ib (al2 (N := 9) (M := 9) ((fun p1 q1 => (!decide (nI (zLow p1) = 0) || (!decide (nI (zLow q1) = 0) || (!decide (¬ nI p1 = 0) || (!decide (¬ nI q1 = 0) || (!decide (¬ nI (zHigh p1) = 0) || (!decide (nI (zHigh q1) = 0) || decide ((1 : Int32) = nI (zAnd p1 q1)))))))))) (by decide +kernel) p1 hp1 q1 hq1) c2) c4) c5) c6) c8) c10)), ht⟩) (fun q h => nomatch h) dWire_and_45
            · refine lv_iconst (v := 3) hx hb dWire_and_40 (by decide) ?_
              refine lv_goto (tgt := 45) hx hb dWire_and_41 (by decide) ?_
              exact W.iret (v := 3) hx hb hr (fun t ht hW => ⟨_, rfl, (of_decide_eq_true (ib (ib (ib (ib (ib (ib (al2 (N := 9) (M := 9) ((fun p1 q1 => (!decide (nI (zLow p1) = 0) || (!decide (nI (zLow q1) = 0) || (!decide (¬ nI p1 = 0) || (!decide (¬ nI q1 = 0) || (!decide (¬ nI (zHigh p1) = 0) || (!decide (¬ nI (zHigh q1) = 0) || decide ((3 : Int32) = nI (zAnd p1 q1)))))))))) (by decide +kernel) p1 hp1 q1 hq1) c2) c4) c5) c6) c8) c10)), ht⟩) (fun q h => nomatch h) dWire_and_45
        · refine lv_iconst (v := 0) hx hb dWire_and_24 (by decide) ?_
          exact W.iret (v := 0) hx hb hr (fun t ht hW => ⟨_, rfl, (of_decide_eq_true (ib (ib (ib (ib (al2 (N := 9) (M := 9) ((fun p1 q1 => (!decide (nI (zLow p1) = 0) || (!decide (nI (zLow q1) = 0) || (!decide (¬ nI p1 = 0) || (!decide (nI q1 = 0) || decide ((0 : Int32) = nI (zAnd p1 q1)))))))) (by decide +kernel) p1 hp1 q1 hq1) c2) c4) c5) c6)), ht⟩) (fun q h => nomatch h) dWire_and_25
    · refine lv_iconst (v := 2) hx hb dWire_and_14 (by decide) ?_
      exact W.iret (v := 2) hx hb hr (fun t ht hW => ⟨_, rfl, (of_decide_eq_true (ib (ib (al2 (N := 9) (M := 9) ((fun p1 q1 => (!decide (nI (zLow p1) = 0) || (!decide (¬ nI (zLow q1) = 0) || decide ((2 : Int32) = nI (zAnd p1 q1)))))) (by decide +kernel) p1 hp1 q1 hq1) c2) c4)), ht⟩) (fun q h => nomatch h) dWire_and_15
set_option maxHeartbeats 4000000 in
set_option maxRecDepth 100000 in
theorem c_Wire_or (l : Launch) (p1 : Nat) (hp1 : p1 < 9) (q1 : Nat) (hq1 : q1 < 9) : Met l yWire_or (Cond.code yWire_or bWire_or 2 (some .int) :: nzG) ({ frames := 1, cells := 0, slots := 0, locals := 20 }) (va_Pc [.int (nI p1), .int (nI q1)] (fun _ => True)) (vp_Si (fun r => r = nI (zOr p1 q1))) 0 0 (fun _ => False) := by
  refine nz_of (own := RI) (by decide) rfl ?_
  intro p e s m args below meth c S hr hlocks _ hv9
  obtain ⟨rfl, -⟩ := hv9
  have hx := S.1
  have hb := S.2.1
  refine nz_entry (vs := [.int (nI p1), .int (nI q1)]) (n := 2) (lv := [(0, .int (nI p1)), (1, .int (nI q1))]) (Nat.le_of_ble_eq_true rfl) rfl (fun ls hl => ?_)
  refine lv_iload_n hx hb dWire_or_0 rfl (lv_at hl 0 rfl) ?_
  refine nz_si (As := [.int (nI p1)]) (rest := []) S (c_Wire_isHigh l p1 hp1) kWire_15 ⟨rfl, rfl, Nat.le_of_ble_eq_true rfl, Nat.le_of_ble_eq_true rfl⟩ ⟨Nat.zero_le _, Nat.zero_le _⟩ (fun _ _ _ _ h => h) (fun _ _ _ => trivial) rfl hl.1 rfl (Nat.le_of_ble_eq_true rfl) dWire_or_1 (fun r1 er1 => ?_)
  subst er1
  refine lv_if_ne (tgt := 14) hx hb dWire_or_4 (by decide) (fun c2 => ?_) (fun c2 => ?_)
  · refine lv_iconst (v := 3) hx hb dWire_or_14 (by decide) ?_
    exact W.iret (v := 3) hx hb hr (fun t ht hW => ⟨_, rfl, (of_decide_eq_true (ib (al2 (N := 9) (M := 9) ((fun p1 q1 => (!decide (¬ nI (zHigh p1) = 0) || decide ((3 : Int32) = nI (zOr p1 q1))))) (by decide +kernel) p1 hp1 q1 hq1) c2)), ht⟩) (fun q h => nomatch h) dWire_or_15
  · refine lv_iload_n hx hb dWire_or_7 rfl (lv_at hl 1 rfl) ?_
    refine nz_si (As := [.int (nI q1)]) (rest := []) S (c_Wire_isHigh l q1 hq1) kWire_15 ⟨rfl, rfl, Nat.le_of_ble_eq_true rfl, Nat.le_of_ble_eq_true rfl⟩ ⟨Nat.zero_le _, Nat.zero_le _⟩ (fun _ _ _ _ h => h) (fun _ _ _ => trivial) rfl hl.1 rfl (Nat.le_of_ble_eq_true rfl) dWire_or_8 (fun r3 er3 => ?_)
    subst er3
    refine lv_if_eq (tgt := 16) hx hb dWire_or_11 (by decide) (fun c4 => ?_) (fun c4 => ?_)
    · refine lv_iload_n hx hb dWire_or_16 rfl (lv_at hl 0 rfl) ?_
      refine lv_if_eq (tgt := 24) hx hb dWire_or_17 (by decide) (fun c5 => ?_) (fun c5 => ?_)
      · refine lv_iconst (v := 0) hx hb dWire_or_24 (by decide) ?_
        exact W.iret (v := 0) hx hb hr (fun t ht hW => ⟨_, rfl, (of_decide_eq_true (ib (ib (ib (al2 (N := 9) (M := 9) ((fun p1 q1 => (!decide (nI (zHigh p1) = 0) || (!decide (nI (zHigh q1) = 0) || (!decide (nI p1 = 0) || decide ((0 : Int32) = nI (zOr p1 q1))))))) (by decide +kernel) p1 hp1 q1 hq1) c2) c4) c5)), ht⟩) (fun q h => nomatch h) dWire_or_25
      · refine lv_iload_n hx hb dWire_or_20 rfl (lv_at hl 1 rfl) ?_
        refine lv_if_ne (tgt := 26) hx hb dWire_or_21 (by decide) (fun c6 => ?_) (fun c6 => ?_)
        · refine lv_iload_n hx hb dWire_or_26 rfl (lv_at hl 0 rfl) ?_
          refine nz_si (As := [.int (nI p1)]) (rest := []) S (c_Wire_isLow l p1 hp1) kWire_9 ⟨rfl, rfl, Nat.le_of_ble_eq_true rfl, Nat.le_of_ble_eq_true rfl⟩ ⟨Nat.zero_le _, Nat.zero_le _⟩ (fun _ _ _ _ h => h) (fun _ _ _ => trivial) rfl hl.1 rfl (Nat.le_of_ble_eq_true rfl) dWire_or_27 (fun r7 er7 => ?_)
          subst er7
          refine lv_if_eq (tgt := 44) hx hb dWire_or_30 (by decide) (fun c8 => ?_) (fun c8 => ?_)
          · refine lv_iconst (v := 1) hx hb dWire_or_44 (by decide) ?_
            exact W.iret (v := 1) hx hb hr (fun t ht hW => ⟨_, rfl, (of_decide_eq_true (ib (ib (ib (ib (ib (al2 (N := 9) (M := 9) ((fun p1 q1 => (!decide (nI (zHigh p1) = 0) || (!decide (nI (zHigh q1) = 0) || (!decide (¬ nI p1 = 0) || (!decide (¬ nI q1 = 0) || (!decide (nI (zLow p1) = 0) || decide ((1 : Int32) = nI (zOr p1 q1))))))))) (by decide +kernel) p1 hp1 q1 hq1) c2) c4) c5) c6) c8)), ht⟩) (fun q h => nomatch h) dWire_or_45
          · refine lv_iload_n hx hb dWire_or_33 rfl (lv_at hl 1 rfl) ?_
            refine nz_si (As := [.int (nI q1)]) (rest := []) S (c_Wire_isLow l q1 hq1) kWire_9 ⟨rfl, rfl, Nat.le_of_ble_eq_true rfl, Nat.le_of_ble_eq_true rfl⟩ ⟨Nat.zero_le _, Nat.zero_le _⟩ (fun _ _ _ _ h => h) (fun _ _ _ => trivial) rfl hl.1 rfl (Nat.le_of_ble_eq_true rfl) dWire_or_34 (fun r9 er9 => ?_)
            subst er9
            refine lv_if_eq (tgt := 44) hx hb dWire_or_37 (by decide) (fun c10 => ?_) (fun c10 => ?_)
            · refine lv_iconst (v := 1) hx hb dWire_or_44 (by decide) ?_
              exact W.iret (v := 1) hx hb hr (fun t ht hW => ⟨_, rfl, (of_decide_eq_true (ib (ib (ib (ib (ib (ib (al2 (N := 9) (M := 9) ((fun p1 q1 => (!decide (nI (zHigh p1) = 0) || (!decide (nI (zHigh q1) = 0) || (!decide (¬ nI p1 = 0) || (!decide (¬ nI q1 = 0) || (!decide (¬ nI (zLow p1) = 0) || (!decide (nI (zLow q1) = 0) || decide ((1 : Int32) = nI (zOr p1 q1)))))))))) (by decide +kernel) p1 hp1 q1 hq1) c2) c4) c5) c6) c8) c10)), ht⟩) (fun q h => nomatch h) dWire_or_45
            · refine lv_iconst (v := 2) hx hb dWire_or_40 (by decide) ?_
              refine lv_goto (tgt := 45) hx hb dWire_or_41 (by decide) ?_
              exact W.iret (v := 2) hx hb hr (fun t ht hW => ⟨_, rfl, (of_decide_eq_true (ib (ib (ib (ib (ib (ib (al2 (N := 9) (M := 9) ((fun p1 q1 => (!decide (nI (zHigh p1) = 0) || (!decide (nI (zHigh q1) = 0) || (!decide (¬ nI p1 = 0) || (!decide (¬ nI q1 = 0) || (!decide (¬ nI (zLow p1) = 0) || (!decide (¬ nI (zLow q1) = 0) || decide ((2 : Int32) = nI (zOr p1 q1)))))))))) (by decide +kernel) p1 hp1 q1 hq1) c2) c4) c5) c6) c8) c10)), ht⟩) (fun q h => nomatch h) dWire_or_45
        · refine lv_iconst (v := 0) hx hb dWire_or_24 (by decide) ?_
          exact W.iret (v := 0) hx hb hr (fun t ht hW => ⟨_, rfl, (of_decide_eq_true (ib (ib (ib (ib (al2 (N := 9) (M := 9) ((fun p1 q1 => (!decide (nI (zHigh p1) = 0) || (!decide (nI (zHigh q1) = 0) || (!decide (¬ nI p1 = 0) || (!decide (nI q1 = 0) || decide ((0 : Int32) = nI (zOr p1 q1)))))))) (by decide +kernel) p1 hp1 q1 hq1) c2) c4) c5) c6)), ht⟩) (fun q h => nomatch h) dWire_or_25
    · refine lv_iconst (v := 3) hx hb dWire_or_14 (by decide) ?_
      exact W.iret (v := 3) hx hb hr (fun t ht hW => ⟨_, rfl, (of_decide_eq_true (ib (ib (al2 (N := 9) (M := 9) ((fun p1 q1 => (!decide (nI (zHigh p1) = 0) || (!decide (¬ nI (zHigh q1) = 0) || decide ((3 : Int32) = nI (zOr p1 q1)))))) (by decide +kernel) p1 hp1 q1 hq1) c2) c4)), ht⟩) (fun q h => nomatch h) dWire_or_15
set_option maxHeartbeats 4000000 in
set_option maxRecDepth 100000 in
theorem c_Wire_xor (l : Launch) (p1 : Nat) (hp1 : p1 < 9) (q1 : Nat) (hq1 : q1 < 9) : Met l yWire_xor (Cond.code yWire_xor bWire_xor 2 (some .int) :: nzG) ({ frames := 2, cells := 0, slots := 0, locals := 40 }) (va_Pc [.int (nI p1), .int (nI q1)] (fun _ => True)) (vp_Si (fun r => r = nI (zXor p1 q1))) 0 0 (fun _ => False) := by
  refine nz_of (own := RI) (by decide) rfl ?_
  intro p e s m args below meth c S hr hlocks _ hv9
  obtain ⟨rfl, -⟩ := hv9
  have hx := S.1
  have hb := S.2.1
  refine nz_entry (vs := [.int (nI p1), .int (nI q1)]) (n := 2) (lv := [(0, .int (nI p1)), (1, .int (nI q1))]) (Nat.le_of_ble_eq_true rfl) rfl (fun ls hl => ?_)
  refine lv_iload_n hx hb dWire_xor_0 rfl (lv_at hl 0 rfl) ?_
  refine lv_if_eq (tgt := 8) hx hb dWire_xor_1 (by decide) (fun c1 => ?_) (fun c1 => ?_)
  · refine lv_iconst (v := 0) hx hb dWire_xor_8 (by decide) ?_
    exact W.iret (v := 0) hx hb hr (fun t ht hW => ⟨_, rfl, (of_decide_eq_true (ib (al2 (N := 9) (M := 9) ((fun p1 q1 => (!decide (nI p1 = 0) || decide ((0 : Int32) = nI (zXor p1 q1))))) (by decide +kernel) p1 hp1 q1 hq1) c1)), ht⟩) (fun q h => nomatch h) dWire_xor_9
  · refine lv_iload_n hx hb dWire_xor_4 rfl (lv_at hl 1 rfl) ?_
    refine lv_if_ne (tgt := 10) hx hb dWire_xor_5 (by decide) (fun c2 => ?_) (fun c2 => ?_)
    · refine lv_iload_n hx hb dWire_xor_10 rfl (lv_at hl 0 rfl) ?_
      refine nz_si (As := [.int (nI p1)]) (rest := []) S (c_Wire_isClear l p1 hp1) kWire_35 ⟨rfl, rfl, Nat.le_of_ble_eq_true rfl, Nat.le_of_ble_eq_true rfl⟩ ⟨Nat.zero_le _, Nat.zero_le _⟩ (fun _ _ _ _ h => h) (fun _ _ _ => trivial) rfl hl.1 rfl (Nat.le_of_ble_eq_true rfl) dWire_xor_11 (fun r3 er3 => ?_)
      subst er3
      refine lv_if_eq (tgt := 24) hx hb dWire_xor_14 (by decide) (fun c4 => ?_) (fun c4 => ?_)
      · refine lv_iconst (v := 1) hx hb dWire_xor_24 (by decide) ?_
        exact W.iret (v := 1) hx hb hr (fun t ht hW => ⟨_, rfl, (of_decide_eq_true (ib (ib (ib (al2 (N := 9) (M := 9) ((fun p1 q1 => (!decide (¬ nI p1 = 0) || (!decide (¬ nI q1 = 0) || (!decide (nI (zClear p1) = 0) || decide ((1 : Int32) = nI (zXor p1 q1))))))) (by decide +kernel) p1 hp1 q1 hq1) c1) c2) c4)), ht⟩) (fun q h => nomatch h) dWire_xor_25
      · refine lv_iload_n hx hb dWire_xor_17 rfl (lv_at hl 1 rfl) ?_
        refine nz_si (As := [.int (nI q1)]) (rest := []) S (c_Wire_isClear l q1 hq1) kWire_35 ⟨rfl, rfl, Nat.le_of_ble_eq_true rfl, Nat.le_of_ble_eq_true rfl⟩ ⟨Nat.zero_le _, Nat.zero_le _⟩ (fun _ _ _ _ h => h) (fun _ _ _ => trivial) rfl hl.1 rfl (Nat.le_of_ble_eq_true rfl) dWire_xor_18 (fun r5 er5 => ?_)
        subst er5
        refine lv_if_ne (tgt := 26) hx hb dWire_xor_21 (by decide) (fun c6 => ?_) (fun c6 => ?_)
        · refine lv_iload_n hx hb dWire_xor_26 rfl (lv_at hl 0 rfl) ?_
          refine nz_si (As := [.int (nI p1)]) (rest := []) S (c_Wire_isHigh l p1 hp1) kWire_15 ⟨rfl, rfl, Nat.le_of_ble_eq_true rfl, Nat.le_of_ble_eq_true rfl⟩ ⟨Nat.zero_le _, Nat.zero_le _⟩ (fun _ _ _ _ h => h) (fun _ _ _ => trivial) rfl hl.1 rfl (Nat.le_of_ble_eq_true rfl) dWire_xor_27 (fun r7 er7 => ?_)
          subst er7
          refine lv_iload_n hx hb dWire_xor_30 rfl (lv_at hl 1 rfl) ?_
          refine nz_si (As := [.int (nI q1)]) (rest := [.int (nI (zHigh p1))]) S (c_Wire_isHigh l q1 hq1) kWire_15 ⟨rfl, rfl, Nat.le_of_ble_eq_true rfl, Nat.le_of_ble_eq_true rfl⟩ ⟨Nat.zero_le _, Nat.zero_le _⟩ (fun _ _ _ _ h => h) (fun _ _ _ => trivial) rfl hl.1 rfl (Nat.le_of_ble_eq_true rfl) dWire_xor_31 (fun r8 er8 => ?_)
          subst er8
          refine lv_icmp_ne (tgt := 41) hx hb dWire_xor_34 (by decide) (fun c9 => ?_) (fun c9 => ?_)
          · refine lv_iconst (v := 3) hx hb dWire_xor_41 (by decide) ?_
            exact W.iret (v := 3) hx hb hr (fun t ht hW => ⟨_, rfl, (of_decide_eq_true (ib (ib (ib (ib (ib (al2 (N := 9) (M := 9) ((fun p1 q1 => (!decide (¬ nI p1 = 0) || (!decide (¬ nI q1 = 0) || (!decide (¬ nI (zClear p1) = 0) || (!decide (¬ nI (zClear q1) = 0) || (!decide (¬ nI (zHigh p1) = nI (zHigh q1)) || decide ((3 : Int32) = nI (zXor p1 q1))))))))) (by decide +kernel) p1 hp1 q1 hq1) c1) c2) c4) c6) c9)), ht⟩) (fun q h => nomatch h) dWire_xor_42
          · refine lv_iconst (v := 2) hx hb dWire_xor_37 (by decide) ?_
            refine lv_goto (tgt := 42) hx hb dWire_xor_38 (by decide) ?_
            exact W.iret (v := 2) hx hb hr (fun t ht hW => ⟨_, rfl, (of_decide_eq_true (ib (ib (ib (ib (ib (al2 (N := 9) (M := 9) ((fun p1 q1 => (!decide (¬ nI p1 = 0) || (!decide (¬ nI q1 = 0) || (!decide (¬ nI (zClear p1) = 0) || (!decide (¬ nI (zClear q1) = 0) || (!decide (nI (zHigh p1) = nI (zHigh q1)) || decide ((2 : Int32) = nI (zXor p1 q1))))))))) (by decide +kernel) p1 hp1 q1 hq1) c1) c2) c4) c6) c9)), ht⟩) (fun q h => nomatch h) dWire_xor_42
        · refine lv_iconst (v := 1) hx hb dWire_xor_24 (by decide) ?_
          exact W.iret (v := 1) hx hb hr (fun t ht hW => ⟨_, rfl, (of_decide_eq_true (ib (ib (ib (ib (al2 (N := 9) (M := 9) ((fun p1 q1 => (!decide (¬ nI p1 = 0) || (!decide (¬ nI q1 = 0) || (!decide (¬ nI (zClear p1) = 0) || (!decide (nI (zClear q1) = 0) || decide ((1 : Int32) = nI (zXor p1 q1)))))))) (by decide +kernel) p1 hp1 q1 hq1) c1) c2) c4) c6)), ht⟩) (fun q h => nomatch h) dWire_xor_25
    · refine lv_iconst (v := 0) hx hb dWire_xor_8 (by decide) ?_
      exact W.iret (v := 0) hx hb hr (fun t ht hW => ⟨_, rfl, (of_decide_eq_true (ib (ib (al2 (N := 9) (M := 9) ((fun p1 q1 => (!decide (¬ nI p1 = 0) || (!decide (nI q1 = 0) || decide ((0 : Int32) = nI (zXor p1 q1)))))) (by decide +kernel) p1 hp1 q1 hq1) c1) c2)), ht⟩) (fun q h => nomatch h) dWire_xor_9
set_option maxHeartbeats 4000000 in
set_option maxRecDepth 100000 in
theorem c_Wire_join (l : Launch) (o1 : Nat) (ho1 : o1 < 7) (p1 : Nat) (hp1 : p1 < 9) (q1 : Nat) (hq1 : q1 < 9) : Met l yWire_join (Cond.code yWire_join bWire_join 3 (some .int) :: nzG) ({ frames := 3, cells := 0, slots := 0, locals := 61 }) (va_Pc [.int (nI o1), .int (nI p1), .int (nI q1)] (fun _ => True)) (vp_Si (fun r => r = nI (zJoin o1 p1 q1))) 0 0 (fun _ => False) := by
  refine nz_of (own := RI) (by decide) rfl ?_
  intro p e s m args below meth c S hr hlocks _ hv9
  obtain ⟨rfl, -⟩ := hv9
  have hx := S.1
  have hb := S.2.1
  refine nz_entry (vs := [.int (nI o1), .int (nI p1), .int (nI q1)]) (n := 3) (lv := [(0, .int (nI o1)), (1, .int (nI p1)), (2, .int (nI q1))]) (Nat.le_of_ble_eq_true rfl) rfl (fun ls hl => ?_)
  refine lv_iload_n hx hb dWire_join_0 rfl (lv_at hl 0 rfl) ?_
  rcases (show o1 = 0 ∨ o1 = 1 ∨ o1 = 2 ∨ o1 = 3 ∨ o1 = 4 ∨ o1 = 5 ∨ o1 = 6 by omega) with rfl | rfl | rfl | rfl | rfl | rfl | rfl
  · refine lv_tableIn (tgt := 40) hx hb dWire_join_1 (by decide) (by decide) rfl (by decide) ?_
    refine lv_iload_n hx hb dWire_join_40 rfl (lv_at hl 1 rfl) ?_
    refine lv_iload_n hx hb dWire_join_41 rfl (lv_at hl 2 rfl) ?_
    refine nz_si (As := [.int (nI p1), .int (nI q1)]) (rest := []) S (c_Wire_drive l p1 hp1 q1 hq1) kWire_18 ⟨rfl, rfl, Nat.le_of_ble_eq_true rfl, Nat.le_of_ble_eq_true rfl⟩ ⟨Nat.zero_le _, Nat.zero_le _⟩ (fun _ _ _ _ h => h) (fun _ _ _ => trivial) rfl hl.1 rfl (Nat.le_of_ble_eq_true rfl) dWire_join_42 (fun r1 er1 => ?_)
    subst er1
    exact W.iret (v := nI (zDrive p1 q1)) hx hb hr (fun t ht hW => ⟨_, rfl, (of_decide_eq_true (al2 (N := 9) (M := 9) ((fun p1 q1 => decide (nI (zDrive p1 q1) = nI (zJoin 0 p1 q1)))) (by decide +kernel) p1 hp1 q1 hq1)), ht⟩) (fun q h => nomatch h) dWire_join_45
  · refine lv_tableIn (tgt := 46) hx hb dWire_join_1 (by decide) (by decide) rfl (by decide) ?_
    refine lv_iload_n hx hb dWire_join_46 rfl (lv_at hl 1 rfl) ?_
    refine lv_iload_n hx hb dWire_join_47 rfl (lv_at hl 2 rfl) ?_
    refine nz_si (As := [.int (nI p1), .int (nI q1)]) (rest := []) S (c_Wire_and l p1 hp1 q1 hq1) kWire_22 ⟨rfl, rfl, Nat.le_of_ble_eq_true rfl, Nat.le_of_ble_eq_true rfl⟩ ⟨Nat.zero_le _, Nat.zero_le _⟩ (fun _ _ _ _ h => h) (fun _ _ _ => trivial) rfl hl.1 rfl (Nat.le_of_ble_eq_true rfl) dWire_join_48 (fun r2 er2 => ?_)
    subst er2
    exact W.iret (v := nI (zAnd p1 q1)) hx hb hr (fun t ht hW => ⟨_, rfl, (of_decide_eq_true (al2 (N := 9) (M := 9) ((fun p1 q1 => decide (nI (zAnd p1 q1) = nI (zJoin 1 p1 q1)))) (by decide +kernel) p1 hp1 q1 hq1)), ht⟩) (fun q h => nomatch h) dWire_join_51
  · refine lv_tableIn (tgt := 52) hx hb dWire_join_1 (by decide) (by decide) rfl (by decide) ?_
    refine lv_iload_n hx hb dWire_join_52 rfl (lv_at hl 1 rfl) ?_
    refine lv_iload_n hx hb dWire_join_53 rfl (lv_at hl 2 rfl) ?_
    refine nz_si (As := [.int (nI p1), .int (nI q1)]) (rest := []) S (c_Wire_or l p1 hp1 q1 hq1) kWire_25 ⟨rfl, rfl, Nat.le_of_ble_eq_true rfl, Nat.le_of_ble_eq_true rfl⟩ ⟨Nat.zero_le _, Nat.zero_le _⟩ (fun _ _ _ _ h => h) (fun _ _ _ => trivial) rfl hl.1 rfl (Nat.le_of_ble_eq_true rfl) dWire_join_54 (fun r3 er3 => ?_)
    subst er3
    exact W.iret (v := nI (zOr p1 q1)) hx hb hr (fun t ht hW => ⟨_, rfl, (of_decide_eq_true (al2 (N := 9) (M := 9) ((fun p1 q1 => decide (nI (zOr p1 q1) = nI (zJoin 2 p1 q1)))) (by decide +kernel) p1 hp1 q1 hq1)), ht⟩) (fun q h => nomatch h) dWire_join_57
  · refine lv_tableIn (tgt := 58) hx hb dWire_join_1 (by decide) (by decide) rfl (by decide) ?_
    refine lv_iload_n hx hb dWire_join_58 rfl (lv_at hl 1 rfl) ?_
    refine lv_iload_n hx hb dWire_join_59 rfl (lv_at hl 2 rfl) ?_
    refine nz_si (As := [.int (nI p1), .int (nI q1)]) (rest := []) S (c_Wire_xor l p1 hp1 q1 hq1) kWire_28 ⟨rfl, rfl, Nat.le_of_ble_eq_true rfl, Nat.le_of_ble_eq_true rfl⟩ ⟨Nat.zero_le _, Nat.zero_le _⟩ (fun _ _ _ _ h => h) (fun _ _ _ => trivial) rfl hl.1 rfl (Nat.le_of_ble_eq_true rfl) dWire_join_60 (fun r4 er4 => ?_)
    subst er4
    exact W.iret (v := nI (zXor p1 q1)) hx hb hr (fun t ht hW => ⟨_, rfl, (of_decide_eq_true (al2 (N := 9) (M := 9) ((fun p1 q1 => decide (nI (zXor p1 q1) = nI (zJoin 3 p1 q1)))) (by decide +kernel) p1 hp1 q1 hq1)), ht⟩) (fun q h => nomatch h) dWire_join_63
  · refine lv_tableIn (tgt := 64) hx hb dWire_join_1 (by decide) (by decide) rfl (by decide) ?_
    refine lv_iload_n hx hb dWire_join_64 rfl (lv_at hl 1 rfl) ?_
    refine lv_iload_n hx hb dWire_join_65 rfl (lv_at hl 2 rfl) ?_
    refine nz_si (As := [.int (nI p1), .int (nI q1)]) (rest := []) S (c_Wire_and l p1 hp1 q1 hq1) kWire_22 ⟨rfl, rfl, Nat.le_of_ble_eq_true rfl, Nat.le_of_ble_eq_true rfl⟩ ⟨Nat.zero_le _, Nat.zero_le _⟩ (fun _ _ _ _ h => h) (fun _ _ _ => trivial) rfl hl.1 rfl (Nat.le_of_ble_eq_true rfl) dWire_join_66 (fun r5 er5 => ?_)
    subst er5
    refine nz_si (As := [.int (nI (zAnd p1 q1))]) (rest := []) S (c_Wire_not l (zAnd p1 q1) (zAnd_lt p1 hp1 q1 hq1)) kWire_31 ⟨rfl, rfl, Nat.le_of_ble_eq_true rfl, Nat.le_of_ble_eq_true rfl⟩ ⟨Nat.zero_le _, Nat.zero_le _⟩ (fun _ _ _ _ h => h) (fun _ _ _ => trivial) rfl hl.1 rfl (Nat.le_of_ble_eq_true rfl) dWire_join_69 (fun r6 er6 => ?_)
    subst er6
    exact W.iret (v := nI (zNot (zAnd p1 q1))) hx hb hr (fun t ht hW => ⟨_, rfl, (of_decide_eq_true (al2 (N := 9) (M := 9) ((fun p1 q1 => decide (nI (zNot (zAnd p1 q1)) = nI (zJoin 4 p1 q1)))) (by decide +kernel) p1 hp1 q1 hq1)), ht⟩) (fun q h => nomatch h) dWire_join_72
  · refine lv_tableIn (tgt := 73) hx hb dWire_join_1 (by decide) (by decide) rfl (by decide) ?_
    refine lv_iload_n hx hb dWire_join_73 rfl (lv_at hl 1 rfl) ?_
    refine lv_iload_n hx hb dWire_join_74 rfl (lv_at hl 2 rfl) ?_
    refine nz_si (As := [.int (nI p1), .int (nI q1)]) (rest := []) S (c_Wire_or l p1 hp1 q1 hq1) kWire_25 ⟨rfl, rfl, Nat.le_of_ble_eq_true rfl, Nat.le_of_ble_eq_true rfl⟩ ⟨Nat.zero_le _, Nat.zero_le _⟩ (fun _ _ _ _ h => h) (fun _ _ _ => trivial) rfl hl.1 rfl (Nat.le_of_ble_eq_true rfl) dWire_join_75 (fun r7 er7 => ?_)
    subst er7
    refine nz_si (As := [.int (nI (zOr p1 q1))]) (rest := []) S (c_Wire_not l (zOr p1 q1) (zOr_lt p1 hp1 q1 hq1)) kWire_31 ⟨rfl, rfl, Nat.le_of_ble_eq_true rfl, Nat.le_of_ble_eq_true rfl⟩ ⟨Nat.zero_le _, Nat.zero_le _⟩ (fun _ _ _ _ h => h) (fun _ _ _ => trivial) rfl hl.1 rfl (Nat.le_of_ble_eq_true rfl) dWire_join_78 (fun r8 er8 => ?_)
    subst er8
    exact W.iret (v := nI (zNot (zOr p1 q1))) hx hb hr (fun t ht hW => ⟨_, rfl, (of_decide_eq_true (al2 (N := 9) (M := 9) ((fun p1 q1 => decide (nI (zNot (zOr p1 q1)) = nI (zJoin 5 p1 q1)))) (by decide +kernel) p1 hp1 q1 hq1)), ht⟩) (fun q h => nomatch h) dWire_join_81
  · refine lv_tableOut (tgt := 82) hx hb dWire_join_1 (by decide) (by decide) ?_
    refine lv_iload_n hx hb dWire_join_82 rfl (lv_at hl 1 rfl) ?_
    refine lv_iload_n hx hb dWire_join_83 rfl (lv_at hl 2 rfl) ?_
    refine nz_si (As := [.int (nI p1), .int (nI q1)]) (rest := []) S (c_Wire_xor l p1 hp1 q1 hq1) kWire_28 ⟨rfl, rfl, Nat.le_of_ble_eq_true rfl, Nat.le_of_ble_eq_true rfl⟩ ⟨Nat.zero_le _, Nat.zero_le _⟩ (fun _ _ _ _ h => h) (fun _ _ _ => trivial) rfl hl.1 rfl (Nat.le_of_ble_eq_true rfl) dWire_join_84 (fun r9 er9 => ?_)
    subst er9
    refine nz_si (As := [.int (nI (zXor p1 q1))]) (rest := []) S (c_Wire_not l (zXor p1 q1) (zXor_lt p1 hp1 q1 hq1)) kWire_31 ⟨rfl, rfl, Nat.le_of_ble_eq_true rfl, Nat.le_of_ble_eq_true rfl⟩ ⟨Nat.zero_le _, Nat.zero_le _⟩ (fun _ _ _ _ h => h) (fun _ _ _ => trivial) rfl hl.1 rfl (Nat.le_of_ble_eq_true rfl) dWire_join_87 (fun r10 er10 => ?_)
    subst er10
    exact W.iret (v := nI (zNot (zXor p1 q1))) hx hb hr (fun t ht hW => ⟨_, rfl, (of_decide_eq_true (al2 (N := 9) (M := 9) ((fun p1 q1 => decide (nI (zNot (zXor p1 q1)) = nI (zJoin 6 p1 q1)))) (by decide +kernel) p1 hp1 q1 hq1)), ht⟩) (fun q h => nomatch h) dWire_join_90
set_option maxHeartbeats 4000000 in
set_option maxRecDepth 100000 in
theorem c_Wire_strip (l : Launch) (o1 : Nat) (ho1 : o1 < 4) (v : Nat) (hv : v < 9) : Met l yWire_strip (Cond.code yWire_strip bWire_strip 2 (some .int) :: nzG) ({ frames := 2, cells := 0, slots := 0, locals := 40 }) (va_Pc [.int (nI o1), .int (nI v)] (fun _ => True)) (vp_Si (fun r => r = nI (zStrip o1 v))) 0 0 (fun _ => False) := by
  refine nz_of (own := RI) (by decide) rfl ?_
  intro p e s m args below meth c S hr hlocks _ hv9
  obtain ⟨rfl, -⟩ := hv9
  have hx := S.1
  have hb := S.2.1
  refine nz_entry (vs := [.int (nI o1), .int (nI v)]) (n := 2) (lv := [(0, .int (nI o1)), (1, .int (nI v))]) (Nat.le_of_ble_eq_true rfl) rfl (fun ls hl => ?_)
  refine lv_iload_n hx hb dWire_strip_0 rfl (lv_at hl 1 rfl) ?_
  refine nz_si (As := [.int (nI v)]) (rest := []) S (c_Wire_isClear l v hv) kWire_35 ⟨rfl, rfl, Nat.le_of_ble_eq_true rfl, Nat.le_of_ble_eq_true rfl⟩ ⟨Nat.zero_le _, Nat.zero_le _⟩ (fun _ _ _ _ h => h) (fun _ _ _ => trivial) rfl hl.1 rfl (Nat.le_of_ble_eq_true rfl) dWire_strip_1 (fun r1 er1 => ?_)
  subst er1
  refine lv_if_eq (tgt := 20) hx hb dWire_strip_4 (by decide) (fun c2 => ?_) (fun c2 => ?_)
  · refine lv_iload_n hx hb dWire_strip_20 rfl (lv_at hl 0 rfl) ?_
    refine lv_iconst (v := 1) hx hb dWire_strip_21 (by decide) ?_
    refine lv_icmp_ne (tgt := 30) hx hb dWire_strip_22 (by decide) (fun c3 => ?_) (fun c3 => ?_)
    · refine lv_iload_n hx hb dWire_strip_30 rfl (lv_at hl 0 rfl) ?_
      refine lv_iconst (v := 2) hx hb dWire_strip_31 (by decide) ?_
      refine lv_icmp_ne (tgt := 41) hx hb dWire_strip_32 (by decide) (fun c4 => ?_) (fun c4 => ?_)
      · refine lv_iload_n hx hb dWire_strip_41 rfl (lv_at hl 0 rfl) ?_
        refine lv_iconst (v := 3) hx hb dWire_strip_42 (by decide) ?_
        refine lv_icmp_ne (tgt := 50) hx hb dWire_strip_43 (by decide) (fun c5 => ?_) (fun c5 => ?_)
        · refine lv_iconst (v := 1) hx hb dWire_strip_50 (by decide) ?_
          exact W.iret (v := 1) hx hb hr (fun t ht hW => ⟨_, rfl, (of_decide_eq_true (ib (ib (ib (ib (al2 (N := 4) (M := 9) ((fun o1 v => (!decide (nI (zClear v) = 0) || (!decide (¬ nI o1 = 1) || (!decide (¬ nI o1 = 2) || (!decide (¬ nI o1 = 3) || decide ((1 : Int32) = nI (zStrip o1 v)))))))) (by decide +kernel) o1 ho1 v hv) c2) c3) c4) c5)), ht⟩) (fun q h => nomatch h) dWire_strip_51
        · refine lv_iconst (v := 2) hx hb dWire_strip_46 (by decide) ?_
          refine lv_goto (tgt := 51) hx hb dWire_strip_47 (by decide) ?_
          exact W.iret (v := 2) hx hb hr (fun t ht hW => ⟨_, rfl, (of_decide_eq_true (ib (ib (ib (ib (al2 (N := 4) (M := 9) ((fun o1 v => (!decide (nI (zClear v) = 0) || (!decide (¬ nI o1 = 1) || (!decide (¬ nI o1 = 2) || (!decide (nI o1 = 3) || decide ((2 : Int32) = nI (zStrip o1 v)))))))) (by decide +kernel) o1 ho1 v hv) c2) c3) c4) c5)), ht⟩) (fun q h => nomatch h) dWire_strip_51
      · refine lv_iload_n hx hb dWire_strip_35 rfl (lv_at hl 1 rfl) ?_
        refine lv_if_ne (tgt := 41) hx hb dWire_strip_36 (by decide) (fun c6 => ?_) (fun c6 => ?_)
        · refine lv_iload_n hx hb dWire_strip_41 rfl (lv_at hl 0 rfl) ?_
          refine lv_iconst (v := 3) hx hb dWire_strip_42 (by decide) ?_
          refine lv_icmp_ne (tgt := 50) hx hb dWire_strip_43 (by decide) (fun c7 => ?_) (fun c7 => ?_)
          · refine lv_iconst (v := 1) hx hb dWire_strip_50 (by decide) ?_
            exact W.iret (v := 1) hx hb hr (fun t ht hW => ⟨_, rfl, (of_decide_eq_true (ib (ib (ib (ib (ib (al2 (N := 4) (M := 9) ((fun o1 v => (!decide (nI (zClear v) = 0) || (!decide (¬ nI o1 = 1) || (!decide (nI o1 = 2) || (!decide (¬ nI v = 0) || (!decide (¬ nI o1 = 3) || decide ((1 : Int32) = nI (zStrip o1 v))))))))) (by decide +kernel) o1 ho1 v hv) c2) c3) c4) c6) c7)), ht⟩) (fun q h => nomatch h) dWire_strip_51
          · refine lv_iconst (v := 2) hx hb dWire_strip_46 (by decide) ?_
            refine lv_goto (tgt := 51) hx hb dWire_strip_47 (by decide) ?_
            exact W.iret (v := 2) hx hb hr (fun t ht hW => ⟨_, rfl, (of_decide_eq_true (ib (ib (ib (ib (ib (al2 (N := 4) (M := 9) ((fun o1 v => (!decide (nI (zClear v) = 0) || (!decide (¬ nI o1 = 1) || (!decide (nI o1 = 2) || (!decide (¬ nI v = 0) || (!decide (nI o1 = 3) || decide ((2 : Int32) = nI (zStrip o1 v))))))))) (by decide +kernel) o1 ho1 v hv) c2) c3) c4) c6) c7)), ht⟩) (fun q h => nomatch h) dWire_strip_51
        · refine lv_iload_n hx hb dWire_strip_39 rfl (lv_at hl 1 rfl) ?_
          exact W.iret (v := nI v) hx hb hr (fun t ht hW => ⟨_, rfl, (of_decide_eq_true (ib (ib (ib (ib (al2 (N := 4) (M := 9) ((fun o1 v => (!decide (nI (zClear v) = 0) || (!decide (¬ nI o1 = 1) || (!decide (nI o1 = 2) || (!decide (nI v = 0) || decide (nI v = nI (zStrip o1 v)))))))) (by decide +kernel) o1 ho1 v hv) c2) c3) c4) c6)), ht⟩) (fun q h => nomatch h) dWire_strip_40
    · refine lv_iload_n hx hb dWire_strip_25 rfl (lv_at hl 1 rfl) ?_
      refine lv_iconst (v := 4) hx hb dWire_strip_26 (by decide) ?_
      refine lv_icmp_eq (tgt := 39) hx hb dWire_strip_27 (by decide) (fun c8 => ?_) (fun c8 => ?_)
      · refine lv_iload_n hx hb dWire_strip_39 rfl (lv_at hl 1 rfl) ?_
        exact W.iret (v := nI v) hx hb hr (fun t ht hW => ⟨_, rfl, (of_decide_eq_true (ib (ib (ib (al2 (N := 4) (M := 9) ((fun o1 v => (!decide (nI (zClear v) = 0) || (!decide (nI o1 = 1) || (!decide (nI v = 4) || decide (nI v = nI (zStrip o1 v))))))) (by decide +kernel) o1 ho1 v hv) c2) c3) c8)), ht⟩) (fun q h => nomatch h) dWire_strip_40
      · refine lv_iload_n hx hb dWire_strip_30 rfl (lv_at hl 0 rfl) ?_
        refine lv_iconst (v := 2) hx hb dWire_strip_31 (by decide) ?_
        refine lv_icmp_ne (tgt := 41) hx hb dWire_strip_32 (by decide) (fun c9 => ?_) (fun c9 => ?_)
        · refine lv_iload_n hx hb dWire_strip_41 rfl (lv_at hl 0 rfl) ?_
          refine lv_iconst (v := 3) hx hb dWire_strip_42 (by decide) ?_
          refine lv_icmp_ne (tgt := 50) hx hb dWire_strip_43 (by decide) (fun c10 => ?_) (fun c10 => ?_)
          · refine lv_iconst (v := 1) hx hb dWire_strip_50 (by decide) ?_
            exact W.iret (v := 1) hx hb hr (fun t ht hW => ⟨_, rfl, (of_decide_eq_true (ib (ib (ib (ib (ib (al2 (N := 4) (M := 9) ((fun o1 v => (!decide (nI (zClear v) = 0) || (!decide (nI o1 = 1) || (!decide (¬ nI v = 4) || (!decide (¬ nI o1 = 2) || (!decide (¬ nI o1 = 3) || decide ((1 : Int32) = nI (zStrip o1 v))))))))) (by decide +kernel) o1 ho1 v hv) c2) c3) c8) c9) c10)), ht⟩) (fun q h => nomatch h) dWire_strip_51
          · refine lv_iconst (v := 2) hx hb dWire_strip_46 (by decide) ?_
            refine lv_goto (tgt := 51) hx hb dWire_strip_47 (by decide) ?_
            exact W.iret (v := 2) hx hb hr (fun t ht hW => ⟨_, rfl, (of_decide_eq_true (ib (ib (ib (ib (ib (al2 (N := 4) (M := 9) ((fun o1 v => (!decide (nI (zClear v) = 0) || (!decide (nI o1 = 1) || (!decide (¬ nI v = 4) || (!decide (¬ nI o1 = 2) || (!decide (nI o1 = 3) || decide ((2 : Int32) = nI (zStrip o1 v))))))))) (by decide +kernel) o1 ho1 v hv) c2) c3) c8) c9) c10)), ht⟩) (fun q h => nomatch h) dWire_strip_51
        · refine lv_iload_n hx hb dWire_strip_35 rfl (lv_at hl 1 rfl) ?_
          refine lv_if_ne (tgt := 41) hx hb dWire_strip_36 (by decide) (fun c11 => ?_) (fun c11 => ?_)
          · refine lv_iload_n hx hb dWire_strip_41 rfl (lv_at hl 0 rfl) ?_
            refine lv_iconst (v := 3) hx hb dWire_strip_42 (by decide) ?_
            refine lv_icmp_ne (tgt := 50) hx hb dWire_strip_43 (by decide) (fun c12 => ?_) (fun c12 => ?_)
            · refine lv_iconst (v := 1) hx hb dWire_strip_50 (by decide) ?_
              exact W.iret (v := 1) hx hb hr (fun t ht hW => ⟨_, rfl, (of_decide_eq_true (ib (ib (ib (ib (ib (ib (al2 (N := 4) (M := 9) ((fun o1 v => (!decide (nI (zClear v) = 0) || (!decide (nI o1 = 1) || (!decide (¬ nI v = 4) || (!decide (nI o1 = 2) || (!decide (¬ nI v = 0) || (!decide (¬ nI o1 = 3) || decide ((1 : Int32) = nI (zStrip o1 v)))))))))) (by decide +kernel) o1 ho1 v hv) c2) c3) c8) c9) c11) c12)), ht⟩) (fun q h => nomatch h) dWire_strip_51
            · refine lv_iconst (v := 2) hx hb dWire_strip_46 (by decide) ?_
              refine lv_goto (tgt := 51) hx hb dWire_strip_47 (by decide) ?_
              exact W.iret (v := 2) hx hb hr (fun t ht hW => ⟨_, rfl, (of_decide_eq_true (ib (ib (ib (ib (ib (ib (al2 (N := 4) (M := 9) ((fun o1 v => (!decide (nI (zClear v) = 0) || (!decide (nI o1 = 1) || (!decide (¬ nI v = 4) || (!decide (nI o1 = 2) || (!decide (¬ nI v = 0) || (!decide (nI o1 = 3) || decide ((2 : Int32) = nI (zStrip o1 v)))))))))) (by decide +kernel) o1 ho1 v hv) c2) c3) c8) c9) c11) c12)), ht⟩) (fun q h => nomatch h) dWire_strip_51
          · refine lv_iload_n hx hb dWire_strip_39 rfl (lv_at hl 1 rfl) ?_
            exact W.iret (v := nI v) hx hb hr (fun t ht hW => ⟨_, rfl, (of_decide_eq_true (ib (ib (ib (ib (ib (al2 (N := 4) (M := 9) ((fun o1 v => (!decide (nI (zClear v) = 0) || (!decide (nI o1 = 1) || (!decide (¬ nI v = 4) || (!decide (nI o1 = 2) || (!decide (nI v = 0) || decide (nI v = nI (zStrip o1 v))))))))) (by decide +kernel) o1 ho1 v hv) c2) c3) c8) c9) c11)), ht⟩) (fun q h => nomatch h) dWire_strip_40
  · refine lv_iload_n hx hb dWire_strip_7 rfl (lv_at hl 1 rfl) ?_
    refine nz_si (As := [.int (nI v)]) (rest := []) S (c_Wire_isLow l v hv) kWire_9 ⟨rfl, rfl, Nat.le_of_ble_eq_true rfl, Nat.le_of_ble_eq_true rfl⟩ ⟨Nat.zero_le _, Nat.zero_le _⟩ (fun _ _ _ _ h => h) (fun _ _ _ => trivial) rfl hl.1 rfl (Nat.le_of_ble_eq_true rfl) dWire_strip_8 (fun r13 er13 => ?_)
    subst er13
    refine lv_if_eq (tgt := 18) hx hb dWire_strip_11 (by decide) (fun c14 => ?_) (fun c14 => ?_)
    · refine lv_iconst (v := 3) hx hb dWire_strip_18 (by decide) ?_
      exact W.iret (v := 3) hx hb hr (fun t ht hW => ⟨_, rfl, (of_decide_eq_true (ib (ib (al2 (N := 4) (M := 9) ((fun o1 v => (!decide (¬ nI (zClear v) = 0) || (!decide (nI (zLow v) = 0) || decide ((3 : Int32) = nI (zStrip o1 v)))))) (by decide +kernel) o1 ho1 v hv) c2) c14)), ht⟩) (fun q h => nomatch h) dWire_strip_19
    · refine lv_iconst (v := 2) hx hb dWire_strip_14 (by decide) ?_
      refine lv_goto (tgt := 19) hx hb dWire_strip_15 (by decide) ?_
      exact W.iret (v := 2) hx hb hr (fun t ht hW => ⟨_, rfl, (of_decide_eq_true (ib (ib (al2 (N := 4) (M := 9) ((fun o1 v => (!decide (¬ nI (zClear v) = 0) || (!decide (¬ nI (zLow v) = 0) || decide ((2 : Int32) = nI (zStrip o1 v)))))) (by decide +kernel) o1 ho1 v hv) c2) c14)), ht⟩) (fun q h => nomatch h) dWire_strip_19
set_option maxHeartbeats 4000000 in
set_option maxRecDepth 100000 in
theorem c_Wire_goTogether (l : Launch) (p1 : Nat) (hp1 : p1 < 9) (q1 : Nat) (hq1 : q1 < 9) : Met l yWire_goTogether (Cond.code yWire_goTogether bWire_goTogether 2 (some .boolean) :: nzG) ({ frames := 1, cells := 0, slots := 0, locals := 20 }) (va_Pc [.int (nI p1), .int (nI q1)] (fun _ => True)) (vp_Si (fun r => r = nI (zMatch p1 q1))) 0 0 (fun _ => False) := by
  refine nz_of (own := RI) (by decide) rfl ?_
  intro p e s m args below meth c S hr hlocks _ hv9
  obtain ⟨rfl, -⟩ := hv9
  have hx := S.1
  have hb := S.2.1
  refine nz_entry (vs := [.int (nI p1), .int (nI q1)]) (n := 2) (lv := [(0, .int (nI p1)), (1, .int (nI q1))]) (Nat.le_of_ble_eq_true rfl) rfl (fun ls hl => ?_)
  refine lv_iload_n hx hb dWire_goTogether_0 rfl (lv_at hl 0 rfl) ?_
  refine lv_bipush (v := 8) hx hb dWire_goTogether_1 (by decide) ?_
  refine lv_icmp_eq (tgt := 40) hx hb dWire_goTogether_3 (by decide) (fun c1 => ?_) (fun c1 => ?_)
  · refine lv_iconst (v := 1) hx hb dWire_goTogether_40 (by decide) ?_
    refine lv_goto (tgt := 45) hx hb dWire_goTogether_41 (by decide) ?_
    exact W.zret (v := 1) hx hb hr rfl (fun t ht hW => ⟨1, rfl, (of_decide_eq_true (ib (al2 (N := 9) (M := 9) ((fun p1 q1 => (!decide (nI p1 = 8) || decide ((1 : Int32) = nI (zMatch p1 q1))))) (by decide +kernel) p1 hp1 q1 hq1) c1)), ht⟩) (fun q h => nomatch h) dWire_goTogether_45
  · refine lv_iload_n hx hb dWire_goTogether_6 rfl (lv_at hl 1 rfl) ?_
    refine lv_bipush (v := 8) hx hb dWire_goTogether_7 (by decide) ?_
    refine lv_icmp_eq (tgt := 40) hx hb dWire_goTogether_9 (by decide) (fun c2 => ?_) (fun c2 => ?_)
    · refine lv_iconst (v := 1) hx hb dWire_goTogether_40 (by decide) ?_
      refine lv_goto (tgt := 45) hx hb dWire_goTogether_41 (by decide) ?_
      exact W.zret (v := 1) hx hb hr rfl (fun t ht hW => ⟨1, rfl, (of_decide_eq_true (ib (ib (al2 (N := 9) (M := 9) ((fun p1 q1 => (!decide (¬ nI p1 = 8) || (!decide (nI q1 = 8) || decide ((1 : Int32) = nI (zMatch p1 q1)))))) (by decide +kernel) p1 hp1 q1 hq1) c1) c2)), ht⟩) (fun q h => nomatch h) dWire_goTogether_45
    · refine lv_iload_n hx hb dWire_goTogether_12 rfl (lv_at hl 0 rfl) ?_
      refine nz_si (As := [.int (nI p1)]) (rest := []) S (c_Wire_isLow l p1 hp1) kWire_9 ⟨rfl, rfl, Nat.le_of_ble_eq_true rfl, Nat.le_of_ble_eq_true rfl⟩ ⟨Nat.zero_le _, Nat.zero_le _⟩ (fun _ _ _ _ h => h) (fun _ _ _ => trivial) rfl hl.1 rfl (Nat.le_of_ble_eq_true rfl) dWire_goTogether_13 (fun r3 er3 => ?_)
      subst er3
      refine lv_if_eq (tgt := 26) hx hb dWire_goTogether_16 (by decide) (fun c4 => ?_) (fun c4 => ?_)
      · refine lv_iload_n hx hb dWire_goTogether_26 rfl (lv_at hl 0 rfl) ?_
        refine nz_si (As := [.int (nI p1)]) (rest := []) S (c_Wire_isHigh l p1 hp1) kWire_15 ⟨rfl, rfl, Nat.le_of_ble_eq_true rfl, Nat.le_of_ble_eq_true rfl⟩ ⟨Nat.zero_le _, Nat.zero_le _⟩ (fun _ _ _ _ h => h) (fun _ _ _ => trivial) rfl hl.1 rfl (Nat.le_of_ble_eq_true rfl) dWire_goTogether_27 (fun r5 er5 => ?_)
        subst er5
        refine lv_if_eq (tgt := 44) hx hb dWire_goTogether_30 (by decide) (fun c6 => ?_) (fun c6 => ?_)
        · refine lv_iconst (v := 0) hx hb dWire_goTogether_44 (by decide) ?_
          exact W.zret (v := 0) hx hb hr rfl (fun t ht hW => ⟨0, rfl, (of_decide_eq_true (ib (ib (ib (ib (al2 (N := 9) (M := 9) ((fun p1 q1 => (!decide (¬ nI p1 = 8) || (!decide (¬ nI q1 = 8) || (!decide (nI (zLow p1) = 0) || (!decide (nI (zHigh p1) = 0) || decide ((0 : Int32) = nI (zMatch p1 q1)))))))) (by decide +kernel) p1 hp1 q1 hq1) c1) c2) c4) c6)), ht⟩) (fun q h => nomatch h) dWire_goTogether_45
        · refine lv_iload_n hx hb dWire_goTogether_33 rfl (lv_at hl 1 rfl) ?_
          refine nz_si (As := [.int (nI q1)]) (rest := []) S (c_Wire_isHigh l q1 hq1) kWire_15 ⟨rfl, rfl, Nat.le_of_ble_eq_true rfl, Nat.le_of_ble_eq_true rfl⟩ ⟨Nat.zero_le _, Nat.zero_le _⟩ (fun _ _ _ _ h => h) (fun _ _ _ => trivial) rfl hl.1 rfl (Nat.le_of_ble_eq_true rfl) dWire_goTogether_34 (fun r7 er7 => ?_)
          subst er7
          refine lv_if_eq (tgt := 44) hx hb dWire_goTogether_37 (by decide) (fun c8 => ?_) (fun c8 => ?_)
          · refine lv_iconst (v := 0) hx hb dWire_goTogether_44 (by decide) ?_
            exact W.zret (v := 0) hx hb hr rfl (fun t ht hW => ⟨0, rfl, (of_decide_eq_true (ib (ib (ib (ib (ib (al2 (N := 9) (M := 9) ((fun p1 q1 => (!decide (¬ nI p1 = 8) || (!decide (¬ nI q1 = 8) || (!decide (nI (zLow p1) = 0) || (!decide (¬ nI (zHigh p1) = 0) || (!decide (nI (zHigh q1) = 0) || decide ((0 : Int32) = nI (zMatch p1 q1))))))))) (by decide +kernel) p1 hp1 q1 hq1) c1) c2) c4) c6) c8)), ht⟩) (fun q h => nomatch h) dWire_goTogether_45
          · refine lv_iconst (v := 1) hx hb dWire_goTogether_40 (by decide) ?_
            refine lv_goto (tgt := 45) hx hb dWire_goTogether_41 (by decide) ?_
            exact W.zret (v := 1) hx hb hr rfl (fun t ht hW => ⟨1, rfl, (of_decide_eq_true (ib (ib (ib (ib (ib (al2 (N := 9) (M := 9) ((fun p1 q1 => (!decide (¬ nI p1 = 8) || (!decide (¬ nI q1 = 8) || (!decide (nI (zLow p1) = 0) || (!decide (¬ nI (zHigh p1) = 0) || (!decide (¬ nI (zHigh q1) = 0) || decide ((1 : Int32) = nI (zMatch p1 q1))))))))) (by decide +kernel) p1 hp1 q1 hq1) c1) c2) c4) c6) c8)), ht⟩) (fun q h => nomatch h) dWire_goTogether_45
      · refine lv_iload_n hx hb dWire_goTogether_19 rfl (lv_at hl 1 rfl) ?_
        refine nz_si (As := [.int (nI q1)]) (rest := []) S (c_Wire_isLow l q1 hq1) kWire_9 ⟨rfl, rfl, Nat.le_of_ble_eq_true rfl, Nat.le_of_ble_eq_true rfl⟩ ⟨Nat.zero_le _, Nat.zero_le _⟩ (fun _ _ _ _ h => h) (fun _ _ _ => trivial) rfl hl.1 rfl (Nat.le_of_ble_eq_true rfl) dWire_goTogether_20 (fun r9 er9 => ?_)
        subst er9
        refine lv_if_ne (tgt := 40) hx hb dWire_goTogether_23 (by decide) (fun c10 => ?_) (fun c10 => ?_)
        · refine lv_iconst (v := 1) hx hb dWire_goTogether_40 (by decide) ?_
          refine lv_goto (tgt := 45) hx hb dWire_goTogether_41 (by decide) ?_
          exact W.zret (v := 1) hx hb hr rfl (fun t ht hW => ⟨1, rfl, (of_decide_eq_true (ib (ib (ib (ib (al2 (N := 9) (M := 9) ((fun p1 q1 => (!decide (¬ nI p1 = 8) || (!decide (¬ nI q1 = 8) || (!decide (¬ nI (zLow p1) = 0) || (!decide (¬ nI (zLow q1) = 0) || decide ((1 : Int32) = nI (zMatch p1 q1)))))))) (by decide +kernel) p1 hp1 q1 hq1) c1) c2) c4) c10)), ht⟩) (fun q h => nomatch h) dWire_goTogether_45
        · refine lv_iload_n hx hb dWire_goTogether_26 rfl (lv_at hl 0 rfl) ?_
          refine nz_si (As := [.int (nI p1)]) (rest := []) S (c_Wire_isHigh l p1 hp1) kWire_15 ⟨rfl, rfl, Nat.le_of_ble_eq_true rfl, Nat.le_of_ble_eq_true rfl⟩ ⟨Nat.zero_le _, Nat.zero_le _⟩ (fun _ _ _ _ h => h) (fun _ _ _ => trivial) rfl hl.1 rfl (Nat.le_of_ble_eq_true rfl) dWire_goTogether_27 (fun r11 er11 => ?_)
          subst er11
          refine lv_if_eq (tgt := 44) hx hb dWire_goTogether_30 (by decide) (fun c12 => ?_) (fun c12 => ?_)
          · refine lv_iconst (v := 0) hx hb dWire_goTogether_44 (by decide) ?_
            exact W.zret (v := 0) hx hb hr rfl (fun t ht hW => ⟨0, rfl, (of_decide_eq_true (ib (ib (ib (ib (ib (al2 (N := 9) (M := 9) ((fun p1 q1 => (!decide (¬ nI p1 = 8) || (!decide (¬ nI q1 = 8) || (!decide (¬ nI (zLow p1) = 0) || (!decide (nI (zLow q1) = 0) || (!decide (nI (zHigh p1) = 0) || decide ((0 : Int32) = nI (zMatch p1 q1))))))))) (by decide +kernel) p1 hp1 q1 hq1) c1) c2) c4) c10) c12)), ht⟩) (fun q h => nomatch h) dWire_goTogether_45
          · refine lv_iload_n hx hb dWire_goTogether_33 rfl (lv_at hl 1 rfl) ?_
            refine nz_si (As := [.int (nI q1)]) (rest := []) S (c_Wire_isHigh l q1 hq1) kWire_15 ⟨rfl, rfl, Nat.le_of_ble_eq_true rfl, Nat.le_of_ble_eq_true rfl⟩ ⟨Nat.zero_le _, Nat.zero_le _⟩ (fun _ _ _ _ h => h) (fun _ _ _ => trivial) rfl hl.1 rfl (Nat.le_of_ble_eq_true rfl) dWire_goTogether_34 (fun r13 er13 => ?_)
            subst er13
            refine lv_if_eq (tgt := 44) hx hb dWire_goTogether_37 (by decide) (fun c14 => ?_) (fun c14 => ?_)
            · refine lv_iconst (v := 0) hx hb dWire_goTogether_44 (by decide) ?_
              exact W.zret (v := 0) hx hb hr rfl (fun t ht hW => ⟨0, rfl, (of_decide_eq_true (ib (ib (ib (ib (ib (ib (al2 (N := 9) (M := 9) ((fun p1 q1 => (!decide (¬ nI p1 = 8) || (!decide (¬ nI q1 = 8) || (!decide (¬ nI (zLow p1) = 0) || (!decide (nI (zLow q1) = 0) || (!decide (¬ nI (zHigh p1) = 0) || (!decide (nI (zHigh q1) = 0) || decide ((0 : Int32) = nI (zMatch p1 q1)))))))))) (by decide +kernel) p1 hp1 q1 hq1) c1) c2) c4) c10) c12) c14)), ht⟩) (fun q h => nomatch h) dWire_goTogether_45
            · refine lv_iconst (v := 1) hx hb dWire_goTogether_40 (by decide) ?_
              refine lv_goto (tgt := 45) hx hb dWire_goTogether_41 (by decide) ?_
              exact W.zret (v := 1) hx hb hr rfl (fun t ht hW => ⟨1, rfl, (of_decide_eq_true (ib (ib (ib (ib (ib (ib (al2 (N := 9) (M := 9) ((fun p1 q1 => (!decide (¬ nI p1 = 8) || (!decide (¬ nI q1 = 8) || (!decide (¬ nI (zLow p1) = 0) || (!decide (nI (zLow q1) = 0) || (!decide (¬ nI (zHigh p1) = 0) || (!decide (¬ nI (zHigh q1) = 0) || decide ((1 : Int32) = nI (zMatch p1 q1)))))))))) (by decide +kernel) p1 hp1 q1 hq1) c1) c2) c4) c10) c12) c14)), ht⟩) (fun q h => nomatch h) dWire_goTogether_45
